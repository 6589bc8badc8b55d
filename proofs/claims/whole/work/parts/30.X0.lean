abbrev rmX0_init : Room := { frames := 1, cells := 3, slots := 296, locals := 12 }
set_option maxRecDepth 100000 in
set_option maxHeartbeats 4000000 in
/-- Machine(): three new rows of zeros; stopped -/
theorem c_X0_init (l : Launch) (G : va_G) (cI : ClassId) (sz : Nat) (q0 : Nat)  : Met l yX0_init wsX0_init rmX0_init (zPre G cI [(q0, .inr (0, [.null, .null, .null, .int (iZ (0)), .int (iZ (0)), .int (iZ (0)), .int (iZ (0))]))] sz [.ref q0]) (va_Qv (fun (u : Nat × Nat × Nat) => True) (fun (u : Nat × Nat × Nat) t => zB G cI (va_A [(q0, .inr (0, [.null, .null, .null, .int (iZ (0)), .int (iZ (0)), .int (iZ (0)), .int (iZ (0))]))] sz) [oM q0 u.1 u.2.1 u.2.2 0 1 0 0, aI cI u.1 256 (fun _ => 0), aI cI u.2.1 8 (fun _ => 0), aI cI u.2.2 32 (fun _ => 0)] t) (va_A [(q0, .inr (0, [.null, .null, .null, .int (iZ (0)), .int (iZ (0)), .int (iZ (0)), .int (iZ (0))]))] sz)) 3 296 (va_A [(q0, .inr (0, [.null, .null, .null, .int (iZ (0)), .int (iZ (0)), .int (iZ (0)), .int (iZ (0))]))] sz) := by
  refine zm_v (W1 := fun (u : Nat × Nat × Nat) => [oM q0 u.1 u.2.1 u.2.2 0 1 0 0, aI cI u.1 256 (fun _ => 0), aI cI u.2.1 8 (fun _ => 0), aI cI u.2.2 32 (fun _ => 0)]) (cc := cX0_init) (maxL := 1) (by decide) rfl (Nat.le_of_ble_eq_true rfl) ?_
  intro p e s m args below meth c A Q ls hsz hx hb hml hown hts hnm hret hp hl
  have hl : lv_has ls 1 [(0, .ref q0)] := hl
  have m3 := hts (.methodLink RX0 3 objectInit) (List.mem_of_getElem? (i := 1) rfl)
  have io := hts (.instanceMethod objectInit) (List.mem_of_getElem? (i := 2) rfl)
  have co := hts (.code objectInit ⟨#[0xb1]⟩ 1 none) (List.mem_of_getElem? (i := 3) rfl)
  have ac := hts (.arrayClass .int) (List.mem_of_getElem? (i := 4) rfl)
  have hi0 : ∀ w ∈ wsX00, w ∈ wsX0_init := fun w h => List.mem_cons_of_mem _ (List.mem_append_right _ (h))
  have f9 := hts (.fieldLink RX0 9 "SelfOpener$Machine" "memory" "[I") (List.mem_of_getElem? (i := 5) rfl)
  have f15 := hts (.fieldLink RX0 15 "SelfOpener$Machine" "registers" "[I") (List.mem_of_getElem? (i := 6) rfl)
  have f18 := hts (.fieldLink RX0 18 "SelfOpener$Machine" "kept" "[I") (List.mem_of_getElem? (i := 7) rfl)
  have f21 := hts (.fieldLink RX0 21 "SelfOpener$Machine" "state" "I") (List.mem_of_getElem? (i := 8) rfl)
  suffices hw : ∀ (H : Heap) (locs : List Loc), Hp G cI A s H locs [(q0, .inr (0, [.null, .null, .null, .int (iZ (0)), .int (iZ (0)), .int (iZ (0)), .int (iZ (0))]))] → W p l e rmX0_init s m args below meth c H locs 0 0 Q (F0 m 0 ls []) from hw _ _ hp
  clear hp; intro H locs hp
  refine lv_aload_n hx hb dX0_init_0 rfl (lv_at hl 0 rfl) ?_
  refine W.objInit hx hb hown m3 io co rfl (by rw [hml]; exact hl.1) rfl dX0_init_1 (Nat.le_of_ble_eq_true rfl) (Nat.le_of_ble_eq_true rfl) ?_
  refine W.eq (g2 := F0 m 4 ls []) rfl ?_
  refine lv_aload_n hx hb dX0_init_4 rfl (lv_at hl 0 rfl) ?_
  refine z_sipush hx hb dX0_init_5 (by decide +kernel) ?_
  refine z_newa hx hb 256 ac hp (by decide) (by decide) rfl (Nat.le_of_ble_eq_true rfl) (Nat.le_of_ble_eq_true rfl) dX0_init_8 (fun b1 H hp => ?_)
  have hp : Hp G cI A s H locs [(q0, .inr (0, [.null, .null, .null, .int (iZ (0)), .int (iZ (0)), .int (iZ (0)), .int (iZ (0))])), aI cI b1 256 (fun _ => 0)] := hp
  refine z_putF hx hb hts hi0 tyX0 tyX0_ok nmX0 hown hp 0 rfl rfl 0 (by decide) f9 rfl hnm rfl (rfl) (rfl) (Nat.le_of_ble_eq_true rfl) dX0_init_10 (ws' := [(q0, .inr (0, [.ref b1, .null, .null, .int (iZ (0)), .int (iZ (0)), .int (iZ (0)), .int (iZ (0))])), aI cI b1 256 (fun _ => 0)]) rfl (fun H locs hp => ?_)
  refine lv_aload_n hx hb dX0_init_13 rfl (lv_at hl 0 rfl) ?_
  refine z_bipush hx hb dX0_init_14 (by decide +kernel) ?_
  refine z_newa hx hb 8 ac hp (by decide) (by decide) rfl (Nat.le_of_ble_eq_true rfl) (Nat.le_of_ble_eq_true rfl) dX0_init_16 (fun b2 H hp => ?_)
  have hp : Hp G cI A s H locs [(q0, .inr (0, [.ref b1, .null, .null, .int (iZ (0)), .int (iZ (0)), .int (iZ (0)), .int (iZ (0))])), aI cI b1 256 (fun _ => 0), aI cI b2 8 (fun _ => 0)] := hp
  refine z_putF hx hb hts hi0 tyX0 tyX0_ok nmX0 hown hp 0 rfl rfl 1 (by decide) f15 rfl hnm rfl (rfl) (rfl) (Nat.le_of_ble_eq_true rfl) dX0_init_18 (ws' := [(q0, .inr (0, [.ref b1, .ref b2, .null, .int (iZ (0)), .int (iZ (0)), .int (iZ (0)), .int (iZ (0))])), aI cI b1 256 (fun _ => 0), aI cI b2 8 (fun _ => 0)]) rfl (fun H locs hp => ?_)
  refine lv_aload_n hx hb dX0_init_21 rfl (lv_at hl 0 rfl) ?_
  refine z_bipush hx hb dX0_init_22 (by decide +kernel) ?_
  refine z_newa hx hb 32 ac hp (by decide) (by decide) rfl (Nat.le_of_ble_eq_true rfl) (Nat.le_of_ble_eq_true rfl) dX0_init_24 (fun b3 H hp => ?_)
  have hp : Hp G cI A s H locs [(q0, .inr (0, [.ref b1, .ref b2, .null, .int (iZ (0)), .int (iZ (0)), .int (iZ (0)), .int (iZ (0))])), aI cI b1 256 (fun _ => 0), aI cI b2 8 (fun _ => 0), aI cI b3 32 (fun _ => 0)] := hp
  refine z_putF hx hb hts hi0 tyX0 tyX0_ok nmX0 hown hp 0 rfl rfl 2 (by decide) f18 rfl hnm rfl (rfl) (rfl) (Nat.le_of_ble_eq_true rfl) dX0_init_26 (ws' := [oM q0 b1 b2 b3 0 0 0 0, aI cI b1 256 (fun _ => 0), aI cI b2 8 (fun _ => 0), aI cI b3 32 (fun _ => 0)]) rfl (fun H locs hp => ?_)
  refine lv_aload_n hx hb dX0_init_29 rfl (lv_at hl 0 rfl) ?_
  refine z_iconst hx hb dX0_init_30 ?_
  refine z_put hx hb hts hi0 tyX0 tyX0_ok nmX0 hown hp 0 rfl rfl 4 (by decide) f21 rfl (rfl) (rfl) (Nat.le_of_ble_eq_true rfl) dX0_init_31 (ws' := [oM q0 b1 b2 b3 0 1 0 0, aI cI b1 256 (fun _ => 0), aI cI b2 8 (fun _ => 0), aI cI b3 32 (fun _ => 0)]) rfl (fun H locs hp => ?_)
  exact hret _ _ _ _ _ _ (b1, b2, b3) (trivial) hp dX0_init_34 (Nat.le_of_ble_eq_true rfl) (Nat.le_of_ble_eq_true rfl)
abbrev rmX0_runs : Room := { frames := 0, cells := 0, slots := 0, locals := 0 }
set_option maxRecDepth 100000 in
set_option maxHeartbeats 4000000 in
theorem c_X0_runs (l : Launch) (G : va_G) (cI : ClassId) (sz : Nat) (q0 a0 b0 c0 : Nat) (pl st sp po : Int) (h_0 : rg st) : Met l yX0_runs wsX0_runs rmX0_runs (zPre G cI [oM q0 a0 b0 c0 pl st sp po] sz [.ref q0]) (va_Qi (fun (r : Int32) (u : Unit) => r = iZ (if st = 0 then 1 else 0)) (fun (u : Unit) t => zB G cI (va_A [oM q0 a0 b0 c0 pl st sp po] sz) [oM q0 a0 b0 c0 pl st sp po] t) (va_A [oM q0 a0 b0 c0 pl st sp po] sz)) 0 0 (va_A [oM q0 a0 b0 c0 pl st sp po] sz) := by
  refine zm_i (W1 := fun (u : Unit) => [oM q0 a0 b0 c0 pl st sp po]) (cc := cX0_runs) (maxL := 1) (ty := .boolean) (by decide) rfl (Nat.le_of_ble_eq_true rfl) ?_
  intro p e s m args below meth c A Q ls hsz hx hb hml hown hts hret hp hl
  have hl : lv_has ls 1 [(0, .ref q0)] := hl
  have hi0 : ∀ w ∈ wsX00, w ∈ wsX0_runs := fun w h => List.mem_cons_of_mem _ (List.mem_append_right _ (h))
  have f21 := hts (.fieldLink RX0 21 "SelfOpener$Machine" "state" "I") (List.mem_of_getElem? (i := 1) rfl)
  suffices hw : ∀ (H : Heap) (locs : List Loc), Hp G cI A s H locs [oM q0 a0 b0 c0 pl st sp po] → W p l e rmX0_runs s m args below meth c H locs 0 0 Q (F0 m 0 ls []) from hw _ _ hp
  clear hp; intro H locs hp
  refine lv_aload_n hx hb dX0_runs_0 rfl (lv_at hl 0 rfl) ?_
  refine z_get hx hb hts hi0 hown hp 0 rfl rfl 4 (by decide) f21 rfl dX0_runs_1 ?_
  refine z_if_ne (tgt := 11) hx hb dX0_runs_4 (by decide) (by omega) (fun h1 => ?_) (fun h1 => ?_)
  · skip
    refine z_iconst hx hb dX0_runs_11 ?_
    exact hret _ _ _ _ _ _ _ () (congrArg iZ (by (repeat' split) <;> omega)) hp dX0_runs_12 (by decide +kernel) (Nat.le_of_ble_eq_true rfl) (Nat.le_of_ble_eq_true rfl)
  · skip
    refine z_iconst hx hb dX0_runs_7 ?_
    refine lv_goto (tgt := 12) hx hb dX0_runs_8 (by decide) ?_
    exact hret _ _ _ _ _ _ _ () (congrArg iZ (by (repeat' split) <;> omega)) hp dX0_runs_12 (by decide +kernel) (Nat.le_of_ble_eq_true rfl) (Nat.le_of_ble_eq_true rfl)
abbrev rmX0_keeps : Room := { frames := 0, cells := 0, slots := 0, locals := 0 }
set_option maxRecDepth 100000 in
set_option maxHeartbeats 4000000 in
theorem c_X0_keeps (l : Launch) (G : va_G) (cI : ClassId) (sz : Nat) (q0 a0 b0 c0 : Nat) (pl st sp po i : Int) (h_0 : rg i) (h_1 : 0 ≤ po ∧ po < 2147483648) : Met l yX0_keeps wsX0_keeps rmX0_keeps (zPre G cI [oM q0 a0 b0 c0 pl st sp po] sz [.ref q0, .int (iZ (i))]) (va_Qi (fun (r : Int32) (u : Unit) => r = iZ (if 0 ≤ i ∧ i < po ∧ po - 32 ≤ i then 1 else 0)) (fun (u : Unit) t => zB G cI (va_A [oM q0 a0 b0 c0 pl st sp po] sz) [oM q0 a0 b0 c0 pl st sp po] t) (va_A [oM q0 a0 b0 c0 pl st sp po] sz)) 0 0 (va_A [oM q0 a0 b0 c0 pl st sp po] sz) := by
  refine zm_i (W1 := fun (u : Unit) => [oM q0 a0 b0 c0 pl st sp po]) (cc := cX0_keeps) (maxL := 2) (ty := .boolean) (by decide) rfl (Nat.le_of_ble_eq_true rfl) ?_
  intro p e s m args below meth c A Q ls hsz hx hb hml hown hts hret hp hl
  have hl : lv_has ls 2 [(0, .ref q0), (1, .int (iZ (i)))] := hl
  have hi0 : ∀ w ∈ wsX00, w ∈ wsX0_keeps := fun w h => List.mem_cons_of_mem _ (List.mem_append_right _ (h))
  have f25 := hts (.fieldLink RX0 25 "SelfOpener$Machine" "putOut" "I") (List.mem_of_getElem? (i := 1) rfl)
  suffices hw : ∀ (H : Heap) (locs : List Loc), Hp G cI A s H locs [oM q0 a0 b0 c0 pl st sp po] → W p l e rmX0_keeps s m args below meth c H locs 0 0 Q (F0 m 0 ls []) from hw _ _ hp
  clear hp; intro H locs hp
  refine lv_iload_n hx hb dX0_keeps_0 rfl (lv_at hl 1 rfl) ?_
  refine z_if_lt (tgt := 27) hx hb dX0_keeps_1 (by decide) (by omega) (fun h1 => ?_) (fun h1 => ?_)
  · skip
    refine z_iconst hx hb dX0_keeps_27 ?_
    exact hret _ _ _ _ _ _ _ () (congrArg iZ (by (repeat' split) <;> omega)) hp dX0_keeps_28 (by decide +kernel) (Nat.le_of_ble_eq_true rfl) (Nat.le_of_ble_eq_true rfl)
  · skip
    refine lv_iload_n hx hb dX0_keeps_4 rfl (lv_at hl 1 rfl) ?_
    refine lv_aload_n hx hb dX0_keeps_5 rfl (lv_at hl 0 rfl) ?_
    refine z_get hx hb hts hi0 hown hp 0 rfl rfl 6 (by decide) f25 rfl dX0_keeps_6 ?_
    refine z_icmp_ge (tgt := 27) hx hb dX0_keeps_9 (by decide) (by omega) (fun h2 => ?_) (fun h2 => ?_)
    · skip
      refine z_iconst hx hb dX0_keeps_27 ?_
      exact hret _ _ _ _ _ _ _ () (congrArg iZ (by (repeat' split) <;> omega)) hp dX0_keeps_28 (by decide +kernel) (Nat.le_of_ble_eq_true rfl) (Nat.le_of_ble_eq_true rfl)
    · skip
      refine lv_iload_n hx hb dX0_keeps_12 rfl (lv_at hl 1 rfl) ?_
      refine lv_aload_n hx hb dX0_keeps_13 rfl (lv_at hl 0 rfl) ?_
      refine z_get hx hb hts hi0 hown hp 0 rfl rfl 6 (by decide) f25 rfl dX0_keeps_14 ?_
      refine z_bipush hx hb dX0_keeps_17 (by decide +kernel) ?_
      refine z_isub hx hb (po - 32) (rfl) dX0_keeps_19 ?_
      refine z_icmp_lt (tgt := 27) hx hb dX0_keeps_20 (by decide) (by omega) (fun h3 => ?_) (fun h3 => ?_)
      · skip
        refine z_iconst hx hb dX0_keeps_27 ?_
        exact hret _ _ _ _ _ _ _ () (congrArg iZ (by (repeat' split) <;> omega)) hp dX0_keeps_28 (by decide +kernel) (Nat.le_of_ble_eq_true rfl) (Nat.le_of_ble_eq_true rfl)
      · skip
        refine z_iconst hx hb dX0_keeps_23 ?_
        refine lv_goto (tgt := 28) hx hb dX0_keeps_24 (by decide) ?_
        exact hret _ _ _ _ _ _ _ () (congrArg iZ (by (repeat' split) <;> omega)) hp dX0_keeps_28 (by decide +kernel) (Nat.le_of_ble_eq_true rfl) (Nat.le_of_ble_eq_true rfl)
abbrev rmX0_clear : Room := { frames := 0, cells := 0, slots := 0, locals := 0 }
set_option maxRecDepth 100000 in
set_option maxHeartbeats 4000000 in
theorem c_X0_clear (l : Launch) (G : va_G) (cI : ClassId) (sz : Nat) (q0 a0 b0 c0 : Nat) (mem regs kept : Nat → Int) (pl st sp po fp : Int)  : Met l yX0_clear wsX0_clear rmX0_clear (zPre G cI [oM q0 a0 b0 c0 pl st sp po, aI cI a0 256 mem, aI cI b0 8 regs, aI cI c0 32 kept] sz [.ref q0, .int (iZ (fp))]) (va_Qv (fun (u : Unit) => True) (fun (u : Unit) t => zB G cI (va_A [oM q0 a0 b0 c0 pl st sp po, aI cI a0 256 mem, aI cI b0 8 regs, aI cI c0 32 kept] sz) [oM q0 a0 b0 c0 fp 0 0 0, aI cI a0 256 (fun _ => 0), aI cI b0 8 (fun _ => 0), aI cI c0 32 kept] t) (va_A [oM q0 a0 b0 c0 pl st sp po, aI cI a0 256 mem, aI cI b0 8 regs, aI cI c0 32 kept] sz)) 0 0 (va_A [oM q0 a0 b0 c0 pl st sp po, aI cI a0 256 mem, aI cI b0 8 regs, aI cI c0 32 kept] sz) := by
  refine zm_v (W1 := fun (u : Unit) => [oM q0 a0 b0 c0 fp 0 0 0, aI cI a0 256 (fun _ => 0), aI cI b0 8 (fun _ => 0), aI cI c0 32 kept]) (cc := cX0_clear) (maxL := 3) (by decide) rfl (Nat.le_of_ble_eq_true rfl) ?_
  intro p e s m args below meth c A Q ls hsz hx hb hml hown hts hnm hret hp hl
  have hl : lv_has ls 3 [(0, .ref q0), (1, .int (iZ (fp)))] := hl
  have hi0 : ∀ w ∈ wsX00, w ∈ wsX0_clear := fun w h => List.mem_cons_of_mem _ (List.mem_append_right _ (h))
  have f28 := hts (.fieldLink RX0 28 "SelfOpener$Machine" "place" "I") (List.mem_of_getElem? (i := 3) rfl)
  have f21 := hts (.fieldLink RX0 21 "SelfOpener$Machine" "state" "I") (List.mem_of_getElem? (i := 4) rfl)
  have f31 := hts (.fieldLink RX0 31 "SelfOpener$Machine" "steps" "I") (List.mem_of_getElem? (i := 5) rfl)
  have f25 := hts (.fieldLink RX0 25 "SelfOpener$Machine" "putOut" "I") (List.mem_of_getElem? (i := 6) rfl)
  have f15 := hts (.fieldLink RX0 15 "SelfOpener$Machine" "registers" "[I") (List.mem_of_getElem? (i := 2) rfl)
  have f9 := hts (.fieldLink RX0 9 "SelfOpener$Machine" "memory" "[I") (List.mem_of_getElem? (i := 1) rfl)
  suffices hw : ∀ (H : Heap) (locs : List Loc), Hp G cI A s H locs [oM q0 a0 b0 c0 pl st sp po, aI cI a0 256 mem, aI cI b0 8 regs, aI cI c0 32 kept] → W p l e rmX0_clear s m args below meth c H locs 0 0 Q (F0 m 0 ls []) from hw _ _ hp
  clear hp; intro H locs hp
  refine z_iconst hx hb dX0_clear_0 ?_
  refine lv_istore_n (lv' := [(2, .int (iZ (0))), (0, .ref q0), (1, .int (iZ (fp)))]) hx hb dX0_clear_1 rfl hl (by decide) rfl (fun ls hl => ?_)
  have lp1 : ∀ (N_lp1 : Nat) (i : Nat) (f : Nat → Int) (H : Heap) (locs : List Loc) (ls : Array Slot), (i ≤ 256) → (∀ j, j < i → f j = 0) → (256 - i) < N_lp1 → Hp G cI A s H locs [oM q0 a0 b0 c0 pl st sp po, aI cI a0 256 f, aI cI b0 8 regs, aI cI c0 32 kept] → lv_has ls 3 [(2, .int (iZ (↑i))), (0, .ref q0), (1, .int (iZ (fp)))] → W p l e rmX0_clear s m args below meth c H locs 0 0 Q (F0 m 2 ls []) := by
    intro N_lp1
    induction N_lp1 with
    | zero => intros; exfalso; omega
    | succ N_lp1 ih_lp1 =>
      intro i f H locs ls hi hf hN hp hl
      refine lv_iload_n hx hb dX0_clear_2 rfl (lv_at hl 0 rfl) ?_
      refine z_sipush hx hb dX0_clear_3 (by decide +kernel) ?_
      refine z_icmp_ge (tgt := 22) hx hb dX0_clear_6 (by decide) (by omega) (fun h2 => ?_) (fun h2 => ?_)
      · skip
        have hp := z_alike hp 1 rfl (fun _ => 0) (fun j hj => (hf j (by omega)).symm) (ws' := [oM q0 a0 b0 c0 pl st sp po, aI cI a0 256 (fun _ => 0), aI cI b0 8 regs, aI cI c0 32 kept]) rfl
        refine z_iconst hx hb dX0_clear_22 ?_
        refine lv_istore_n (lv' := [(2, .int (iZ (0))), (0, .ref q0), (1, .int (iZ (fp)))]) hx hb dX0_clear_23 rfl hl (by decide) rfl (fun ls hl => ?_)
        have lp3 : ∀ (N_lp3 : Nat) (i : Nat) (f : Nat → Int) (H : Heap) (locs : List Loc) (ls : Array Slot), (i ≤ 8) → (∀ j, j < i → f j = 0) → (8 - i) < N_lp3 → Hp G cI A s H locs [oM q0 a0 b0 c0 pl st sp po, aI cI a0 256 (fun _ => 0), aI cI b0 8 f, aI cI c0 32 kept] → lv_has ls 3 [(2, .int (iZ (↑i))), (0, .ref q0), (1, .int (iZ (fp)))] → W p l e rmX0_clear s m args below meth c H locs 0 0 Q (F0 m 24 ls []) := by
          intro N_lp3
          induction N_lp3 with
          | zero => intros; exfalso; omega
          | succ N_lp3 ih_lp3 =>
            intro i f H locs ls hi hf hN hp hl
            refine lv_iload_n hx hb dX0_clear_24 rfl (lv_at hl 0 rfl) ?_
            refine z_bipush hx hb dX0_clear_25 (by decide +kernel) ?_
            refine z_icmp_ge (tgt := 43) hx hb dX0_clear_27 (by decide) (by omega) (fun h4 => ?_) (fun h4 => ?_)
            · skip
              have hp := z_alike hp 2 rfl (fun _ => 0) (fun j hj => (hf j (by omega)).symm) (ws' := [oM q0 a0 b0 c0 pl st sp po, aI cI a0 256 (fun _ => 0), aI cI b0 8 (fun _ => 0), aI cI c0 32 kept]) rfl
              refine lv_aload_n hx hb dX0_clear_43 rfl (lv_at hl 1 rfl) ?_
              refine lv_iload_n hx hb dX0_clear_44 rfl (lv_at hl 2 rfl) ?_
              refine z_put hx hb hts hi0 tyX0 tyX0_ok nmX0 hown hp 0 rfl rfl 3 (by decide) f28 rfl (rfl) (rfl) (Nat.le_of_ble_eq_true rfl) dX0_clear_45 (ws' := [oM q0 a0 b0 c0 fp st sp po, aI cI a0 256 (fun _ => 0), aI cI b0 8 (fun _ => 0), aI cI c0 32 kept]) rfl (fun H locs hp => ?_)
              refine lv_aload_n hx hb dX0_clear_48 rfl (lv_at hl 1 rfl) ?_
              refine z_iconst hx hb dX0_clear_49 ?_
              refine z_put hx hb hts hi0 tyX0 tyX0_ok nmX0 hown hp 0 rfl rfl 4 (by decide) f21 rfl (rfl) (rfl) (Nat.le_of_ble_eq_true rfl) dX0_clear_50 (ws' := [oM q0 a0 b0 c0 fp 0 sp po, aI cI a0 256 (fun _ => 0), aI cI b0 8 (fun _ => 0), aI cI c0 32 kept]) rfl (fun H locs hp => ?_)
              refine lv_aload_n hx hb dX0_clear_53 rfl (lv_at hl 1 rfl) ?_
              refine z_iconst hx hb dX0_clear_54 ?_
              refine z_put hx hb hts hi0 tyX0 tyX0_ok nmX0 hown hp 0 rfl rfl 5 (by decide) f31 rfl (rfl) (rfl) (Nat.le_of_ble_eq_true rfl) dX0_clear_55 (ws' := [oM q0 a0 b0 c0 fp 0 0 po, aI cI a0 256 (fun _ => 0), aI cI b0 8 (fun _ => 0), aI cI c0 32 kept]) rfl (fun H locs hp => ?_)
              refine lv_aload_n hx hb dX0_clear_58 rfl (lv_at hl 1 rfl) ?_
              refine z_iconst hx hb dX0_clear_59 ?_
              refine z_put hx hb hts hi0 tyX0 tyX0_ok nmX0 hown hp 0 rfl rfl 6 (by decide) f25 rfl (rfl) (rfl) (Nat.le_of_ble_eq_true rfl) dX0_clear_60 (ws' := [oM q0 a0 b0 c0 fp 0 0 0, aI cI a0 256 (fun _ => 0), aI cI b0 8 (fun _ => 0), aI cI c0 32 kept]) rfl (fun H locs hp => ?_)
              exact hret _ _ _ _ _ _ () (trivial) hp dX0_clear_63 (Nat.le_of_ble_eq_true rfl) (Nat.le_of_ble_eq_true rfl)
            · skip
              refine lv_aload_n hx hb dX0_clear_30 rfl (lv_at hl 1 rfl) ?_
              refine z_get hx hb hts hi0 hown hp 0 rfl rfl 1 (by decide) f15 rfl dX0_clear_31 ?_
              refine lv_iload_n hx hb dX0_clear_34 rfl (lv_at hl 0 rfl) ?_
              refine z_iconst hx hb dX0_clear_35 ?_
              refine z_iast hx hb hp 2 rfl (i) (by omega) dX0_clear_36 (ws' := [oM q0 a0 b0 c0 pl st sp po, aI cI a0 256 (fun _ => 0), aI cI b0 8 (upZ f i 0), aI cI c0 32 kept]) rfl (fun H locs hp => ?_)
              refine z_iinc (k := 0) (lv' := [(2, .int (iZ (↑(i + 1)))), (0, .ref q0), (1, .int (iZ (fp)))]) hx hb (↑(i + 1)) (by omega) dX0_clear_37 hl rfl (by decide) rfl (fun ls hl => ?_)
              refine lv_goto (tgt := 24) hx hb dX0_clear_40 (by decide) ?_
              exact ih_lp3 (i + 1) (upZ f i 0) _ _ _ (by omega) (fun j hj => by unfold upZ; split; rfl; exact hf j (by omega)) (by omega) hp (lv_sub hl [0, 1, 2] rfl)
        exact lp3 _ 0 regs _ _ _ (by omega) (fun j hj => absurd hj (Nat.not_lt_zero j)) (Nat.lt_succ_self _) hp (lv_sub hl [0, 1, 2] rfl)
      · skip
        refine lv_aload_n hx hb dX0_clear_9 rfl (lv_at hl 1 rfl) ?_
        refine z_get hx hb hts hi0 hown hp 0 rfl rfl 0 (by decide) f9 rfl dX0_clear_10 ?_
        refine lv_iload_n hx hb dX0_clear_13 rfl (lv_at hl 0 rfl) ?_
        refine z_iconst hx hb dX0_clear_14 ?_
        refine z_iast hx hb hp 1 rfl (i) (by omega) dX0_clear_15 (ws' := [oM q0 a0 b0 c0 pl st sp po, aI cI a0 256 (upZ f i 0), aI cI b0 8 regs, aI cI c0 32 kept]) rfl (fun H locs hp => ?_)
        refine z_iinc (k := 0) (lv' := [(2, .int (iZ (↑(i + 1)))), (0, .ref q0), (1, .int (iZ (fp)))]) hx hb (↑(i + 1)) (by omega) dX0_clear_16 hl rfl (by decide) rfl (fun ls hl => ?_)
        refine lv_goto (tgt := 2) hx hb dX0_clear_19 (by decide) ?_
        exact ih_lp1 (i + 1) (upZ f i 0) _ _ _ (by omega) (fun j hj => by unfold upZ; split; rfl; exact hf j (by omega)) (by omega) hp (lv_sub hl [0, 1, 2] rfl)
  exact lp1 _ 0 mem _ _ _ (by omega) (fun j hj => absurd hj (Nat.not_lt_zero j)) (Nat.lt_succ_self _) hp (lv_sub hl [0, 1, 2] rfl)
abbrev rmX0_write : Room := { frames := 1, cells := 0, slots := 0, locals := 80 }
set_option maxRecDepth 100000 in
set_option maxHeartbeats 4000000 in
theorem c_X0_write (l : Launch) (G : va_G) (cI : ClassId) (sz : Nat) (q0 a0 b0 c0 : Nat) (ra rl fr nn : Nat) (mem row : Nat → Int) (pl st sp po : Int) (h_0 : fr + nn ≤ 256) (h_1 : nn ≤ rl) : Met l yX0_write wsX0_write rmX0_write (zPre G cI [oM q0 a0 b0 c0 pl st sp po, aI cI a0 256 mem, aI cI ra rl row] sz [.ref q0, .int (iZ (↑fr)), .ref ra, .int (iZ (↑nn))]) (va_Qv (fun (u : Unit) => True) (fun (u : Unit) t => zB G cI (va_A [oM q0 a0 b0 c0 pl st sp po, aI cI a0 256 mem, aI cI ra rl row] sz) [oM q0 a0 b0 c0 pl st sp po, aI cI a0 256 (cpZ row mem 0 fr nn), aI cI ra rl row] t) (va_A [oM q0 a0 b0 c0 pl st sp po, aI cI a0 256 mem, aI cI ra rl row] sz)) 0 0 (va_A [oM q0 a0 b0 c0 pl st sp po, aI cI a0 256 mem, aI cI ra rl row] sz) := by
  refine zm_v (W1 := fun (u : Unit) => [oM q0 a0 b0 c0 pl st sp po, aI cI a0 256 (cpZ row mem 0 fr nn), aI cI ra rl row]) (cc := cX0_write) (maxL := 4) (by decide) rfl (Nat.le_of_ble_eq_true rfl) ?_
  intro p e s m args below meth c A Q ls hsz hx hb hml hown hts hnm hret hp hl
  have hl : lv_has ls 4 [(0, .ref q0), (1, .int (iZ (↑fr))), (2, .ref ra), (3, .int (iZ (↑nn)))] := hl
  have hi0 : ∀ w ∈ wsX00, w ∈ wsX0_write := fun w h => List.mem_cons_of_mem _ (List.mem_append_right _ (h))
  have f9 := hts (.fieldLink RX0 9 "SelfOpener$Machine" "memory" "[I") (List.mem_of_getElem? (i := 1) rfl)
  have m34 := hts (.methodLink RX0 34 arraycopyName) (List.mem_of_getElem? (i := 2) rfl)
  have na := hts (.native arraycopyName) (List.mem_of_getElem? (i := 3) rfl)
  have sa := hts (.static arraycopyName) (List.mem_of_getElem? (i := 4) rfl)
  have is := hts (.initialized "java/lang/System") (List.mem_of_getElem? (i := 5) rfl)
  suffices hw : ∀ (H : Heap) (locs : List Loc), Hp G cI A s H locs [oM q0 a0 b0 c0 pl st sp po, aI cI a0 256 mem, aI cI ra rl row] → W p l e rmX0_write s m args below meth c H locs 0 0 Q (F0 m 0 ls []) from hw _ _ hp
  clear hp; intro H locs hp
  refine lv_aload_n hx hb dX0_write_0 rfl (lv_at hl 2 rfl) ?_
  refine z_iconst hx hb dX0_write_1 ?_
  refine lv_aload_n hx hb dX0_write_2 rfl (lv_at hl 0 rfl) ?_
  refine z_get hx hb hts hi0 hown hp 0 rfl rfl 0 (by decide) f9 rfl dX0_write_3 ?_
  refine lv_iload_n hx hb dX0_write_6 rfl (lv_at hl 1 rfl) ?_
  refine lv_iload_n hx hb dX0_write_7 rfl (lv_at hl 3 rfl) ?_
  refine z_copy hx hb (by rw [hml]; exact hl.1.symm) hown m34 na sa is hp 2 1 rfl rfl (0) (fr) (nn) (by omega) (by omega) (by omega) (by omega) (Nat.le_of_ble_eq_true rfl) (Nat.le_of_ble_eq_true rfl) dX0_write_8 (ws' := [oM q0 a0 b0 c0 pl st sp po, aI cI a0 256 (cpZ row mem 0 fr nn), aI cI ra rl row]) rfl (fun H locs hp => ?_)
  exact hret _ _ _ _ _ _ () (trivial) hp dX0_write_11 (Nat.le_of_ble_eq_true rfl) (Nat.le_of_ble_eq_true rfl)
abbrev rmX0_jump : Room := { frames := 0, cells := 0, slots := 0, locals := 0 }
set_option maxRecDepth 100000 in
set_option maxHeartbeats 4000000 in
theorem c_X0_jump (l : Launch) (G : va_G) (cI : ClassId) (sz : Nat) (q0 a0 b0 c0 : Nat) (pl st sp po k v y : Int) (h_0 : rg k) (h_1 : rg v) : Met l yX0_jump wsX0_jump rmX0_jump (zPre G cI [oM q0 a0 b0 c0 pl st sp po] sz [.ref q0, .int (iZ (k)), .int (iZ (v)), .int (iZ (y))]) (va_Qv (fun (u : Unit) => True) (fun (u : Unit) t => zB G cI (va_A [oM q0 a0 b0 c0 pl st sp po] sz) [oM q0 a0 b0 c0 (jPl k v y pl) st sp po] t) (va_A [oM q0 a0 b0 c0 pl st sp po] sz)) 0 0 (va_A [oM q0 a0 b0 c0 pl st sp po] sz) := by
  refine zm_v (W1 := fun (u : Unit) => [oM q0 a0 b0 c0 (jPl k v y pl) st sp po]) (cc := cX0_jump) (maxL := 4) (by decide) rfl (Nat.le_of_ble_eq_true rfl) ?_
  intro p e s m args below meth c A Q ls hsz hx hb hml hown hts hnm hret hp hl
  have hl : lv_has ls 4 [(0, .ref q0), (1, .int (iZ (k))), (2, .int (iZ (v))), (3, .int (iZ (y)))] := hl
  have hi0 : ∀ w ∈ wsX00, w ∈ wsX0_jump := fun w h => List.mem_cons_of_mem _ (List.mem_append_right _ (h))
  have f28 := hts (.fieldLink RX0 28 "SelfOpener$Machine" "place" "I") (List.mem_of_getElem? (i := 1) rfl)
  suffices hw : ∀ (H : Heap) (locs : List Loc), Hp G cI A s H locs [oM q0 a0 b0 c0 pl st sp po] → W p l e rmX0_jump s m args below meth c H locs 0 0 Q (F0 m 0 ls []) from hw _ _ hp
  clear hp; intro H locs hp
  refine lv_iload_n hx hb dX0_jump_0 rfl (lv_at hl 1 rfl) ?_
  refine z_bipush hx hb dX0_jump_1 (by decide +kernel) ?_
  refine z_icmp_ne (tgt := 14) hx hb dX0_jump_3 (by decide) (by omega) (fun h1 => ?_) (fun h1 => ?_)
  · skip
    refine lv_iload_n hx hb dX0_jump_14 rfl (lv_at hl 1 rfl) ?_
    refine z_bipush hx hb dX0_jump_15 (by decide +kernel) ?_
    refine z_icmp_eq (tgt := 42) hx hb dX0_jump_17 (by decide) (by omega) (fun h2 => ?_) (fun h2 => ?_)
    · skip
      refine lv_aload_n hx hb dX0_jump_42 rfl (lv_at hl 0 rfl) ?_
      refine lv_iload_n hx hb dX0_jump_43 rfl (lv_at hl 3 rfl) ?_
      refine z_put hx hb hts hi0 tyX0 tyX0_ok nmX0 hown hp 0 rfl rfl 3 (by decide) f28 rfl (rfl) (rfl) (Nat.le_of_ble_eq_true rfl) dX0_jump_44 (ws' := [oM q0 a0 b0 c0 y st sp po]) rfl (fun H locs hp => ?_)
      have hp : Hp G cI A s H locs [oM q0 a0 b0 c0 (jPl k v y pl) st sp po] := by
        have e9 : (jPl k v y pl : Int) = y := by unfold jPl; (repeat' split) <;> omega
        rw [e9]; exact hp
      exact hret _ _ _ _ _ _ () (trivial) hp dX0_jump_47 (Nat.le_of_ble_eq_true rfl) (Nat.le_of_ble_eq_true rfl)
    · skip
      refine lv_iload_n hx hb dX0_jump_20 rfl (lv_at hl 1 rfl) ?_
      refine z_bipush hx hb dX0_jump_21 (by decide +kernel) ?_
      refine z_icmp_ne (tgt := 30) hx hb dX0_jump_23 (by decide) (by omega) (fun h3 => ?_) (fun h3 => ?_)
      · skip
        refine lv_iload_n hx hb dX0_jump_30 rfl (lv_at hl 1 rfl) ?_
        refine z_bipush hx hb dX0_jump_31 (by decide +kernel) ?_
        refine z_icmp_ne (tgt := 47) hx hb dX0_jump_33 (by decide) (by omega) (fun h4 => ?_) (fun h4 => ?_)
        · skip
          have hp : Hp G cI A s H locs [oM q0 a0 b0 c0 (jPl k v y pl) st sp po] := by
            have e9 : (jPl k v y pl : Int) = pl := by unfold jPl; (repeat' split) <;> omega
            rw [e9]; exact hp
          exact hret _ _ _ _ _ _ () (trivial) hp dX0_jump_47 (Nat.le_of_ble_eq_true rfl) (Nat.le_of_ble_eq_true rfl)
        · skip
          refine lv_iload_n hx hb dX0_jump_36 rfl (lv_at hl 2 rfl) ?_
          refine z_bipush hx hb dX0_jump_37 (by decide +kernel) ?_
          refine z_icmp_le (tgt := 47) hx hb dX0_jump_39 (by decide) (by omega) (fun h5 => ?_) (fun h5 => ?_)
          · skip
            have hp : Hp G cI A s H locs [oM q0 a0 b0 c0 (jPl k v y pl) st sp po] := by
              have e9 : (jPl k v y pl : Int) = pl := by unfold jPl; (repeat' split) <;> omega
              rw [e9]; exact hp
            exact hret _ _ _ _ _ _ () (trivial) hp dX0_jump_47 (Nat.le_of_ble_eq_true rfl) (Nat.le_of_ble_eq_true rfl)
          · skip
            refine lv_aload_n hx hb dX0_jump_42 rfl (lv_at hl 0 rfl) ?_
            refine lv_iload_n hx hb dX0_jump_43 rfl (lv_at hl 3 rfl) ?_
            refine z_put hx hb hts hi0 tyX0 tyX0_ok nmX0 hown hp 0 rfl rfl 3 (by decide) f28 rfl (rfl) (rfl) (Nat.le_of_ble_eq_true rfl) dX0_jump_44 (ws' := [oM q0 a0 b0 c0 y st sp po]) rfl (fun H locs hp => ?_)
            have hp : Hp G cI A s H locs [oM q0 a0 b0 c0 (jPl k v y pl) st sp po] := by
              have e9 : (jPl k v y pl : Int) = y := by unfold jPl; (repeat' split) <;> omega
              rw [e9]; exact hp
            exact hret _ _ _ _ _ _ () (trivial) hp dX0_jump_47 (Nat.le_of_ble_eq_true rfl) (Nat.le_of_ble_eq_true rfl)
      · skip
        refine lv_iload_n hx hb dX0_jump_26 rfl (lv_at hl 2 rfl) ?_
        refine z_if_eq (tgt := 42) hx hb dX0_jump_27 (by decide) (by omega) (fun h6 => ?_) (fun h6 => ?_)
        · skip
          refine lv_aload_n hx hb dX0_jump_42 rfl (lv_at hl 0 rfl) ?_
          refine lv_iload_n hx hb dX0_jump_43 rfl (lv_at hl 3 rfl) ?_
          refine z_put hx hb hts hi0 tyX0 tyX0_ok nmX0 hown hp 0 rfl rfl 3 (by decide) f28 rfl (rfl) (rfl) (Nat.le_of_ble_eq_true rfl) dX0_jump_44 (ws' := [oM q0 a0 b0 c0 y st sp po]) rfl (fun H locs hp => ?_)
          have hp : Hp G cI A s H locs [oM q0 a0 b0 c0 (jPl k v y pl) st sp po] := by
            have e9 : (jPl k v y pl : Int) = y := by unfold jPl; (repeat' split) <;> omega
            rw [e9]; exact hp
          exact hret _ _ _ _ _ _ () (trivial) hp dX0_jump_47 (Nat.le_of_ble_eq_true rfl) (Nat.le_of_ble_eq_true rfl)
        · skip
          refine lv_iload_n hx hb dX0_jump_30 rfl (lv_at hl 1 rfl) ?_
          refine z_bipush hx hb dX0_jump_31 (by decide +kernel) ?_
          refine z_icmp_ne (tgt := 47) hx hb dX0_jump_33 (by decide) (by omega) (fun h7 => ?_) (fun h7 => ?_)
          · skip
            have hp : Hp G cI A s H locs [oM q0 a0 b0 c0 (jPl k v y pl) st sp po] := by
              have e9 : (jPl k v y pl : Int) = pl := by unfold jPl; (repeat' split) <;> omega
              rw [e9]; exact hp
            exact hret _ _ _ _ _ _ () (trivial) hp dX0_jump_47 (Nat.le_of_ble_eq_true rfl) (Nat.le_of_ble_eq_true rfl)
          · skip
            refine lv_iload_n hx hb dX0_jump_36 rfl (lv_at hl 2 rfl) ?_
            refine z_bipush hx hb dX0_jump_37 (by decide +kernel) ?_
            refine z_icmp_le (tgt := 47) hx hb dX0_jump_39 (by decide) (by omega) (fun h8 => ?_) (fun h8 => ?_)
            · skip
              have hp : Hp G cI A s H locs [oM q0 a0 b0 c0 (jPl k v y pl) st sp po] := by
                have e9 : (jPl k v y pl : Int) = pl := by unfold jPl; (repeat' split) <;> omega
                rw [e9]; exact hp
              exact hret _ _ _ _ _ _ () (trivial) hp dX0_jump_47 (Nat.le_of_ble_eq_true rfl) (Nat.le_of_ble_eq_true rfl)
            · skip
              refine lv_aload_n hx hb dX0_jump_42 rfl (lv_at hl 0 rfl) ?_
              refine lv_iload_n hx hb dX0_jump_43 rfl (lv_at hl 3 rfl) ?_
              refine z_put hx hb hts hi0 tyX0 tyX0_ok nmX0 hown hp 0 rfl rfl 3 (by decide) f28 rfl (rfl) (rfl) (Nat.le_of_ble_eq_true rfl) dX0_jump_44 (ws' := [oM q0 a0 b0 c0 y st sp po]) rfl (fun H locs hp => ?_)
              have hp : Hp G cI A s H locs [oM q0 a0 b0 c0 (jPl k v y pl) st sp po] := by
                have e9 : (jPl k v y pl : Int) = y := by unfold jPl; (repeat' split) <;> omega
                rw [e9]; exact hp
              exact hret _ _ _ _ _ _ () (trivial) hp dX0_jump_47 (Nat.le_of_ble_eq_true rfl) (Nat.le_of_ble_eq_true rfl)
  · skip
    refine lv_aload_n hx hb dX0_jump_6 rfl (lv_at hl 0 rfl) ?_
    refine lv_iload_n hx hb dX0_jump_7 rfl (lv_at hl 2 rfl) ?_
    refine z_put hx hb hts hi0 tyX0 tyX0_ok nmX0 hown hp 0 rfl rfl 3 (by decide) f28 rfl (rfl) (rfl) (Nat.le_of_ble_eq_true rfl) dX0_jump_8 (ws' := [oM q0 a0 b0 c0 v st sp po]) rfl (fun H locs hp => ?_)
    refine lv_goto (tgt := 47) hx hb dX0_jump_11 (by decide) ?_
    have hp : Hp G cI A s H locs [oM q0 a0 b0 c0 (jPl k v y pl) st sp po] := by
      have e9 : (jPl k v y pl : Int) = v := by unfold jPl; (repeat' split) <;> omega
      rw [e9]; exact hp
    exact hret _ _ _ _ _ _ () (trivial) hp dX0_jump_47 (Nat.le_of_ble_eq_true rfl) (Nat.le_of_ble_eq_true rfl)
abbrev rmX0_reckon : Room := { frames := 0, cells := 0, slots := 0, locals := 0 }
set_option maxRecDepth 100000 in
set_option maxHeartbeats 4000000 in
theorem c_X0_reckon (l : Launch) (G : va_G) (cI : ClassId) (sz : Nat) (q0 a0 b0 c0 : Nat) (mem : Nat → Int) (pl st sp po k v q y : Int) (h_0 : rg k) (h_1 : 0 ≤ q ∧ q < 256) (h_2 : rg v) : Met l yX0_reckon wsX0_reckon rmX0_reckon (zPre G cI [oM q0 a0 b0 c0 pl st sp po, aI cI a0 256 mem] sz [.ref q0, .int (iZ (k)), .int (iZ (v)), .int (iZ (q)), .int (iZ (y))]) (va_Qi (fun (r : Int32) (u : Unit) => r = iZ (rVal mem k v q y)) (fun (u : Unit) t => zB G cI (va_A [oM q0 a0 b0 c0 pl st sp po, aI cI a0 256 mem] sz) [oM q0 a0 b0 c0 pl st sp po, aI cI a0 256 mem] t) (va_A [oM q0 a0 b0 c0 pl st sp po, aI cI a0 256 mem] sz)) 0 0 (va_A [oM q0 a0 b0 c0 pl st sp po, aI cI a0 256 mem] sz) := by
  refine zm_i (W1 := fun (u : Unit) => [oM q0 a0 b0 c0 pl st sp po, aI cI a0 256 mem]) (cc := cX0_reckon) (maxL := 5) (ty := .int) (by decide) rfl (Nat.le_of_ble_eq_true rfl) ?_
  intro p e s m args below meth c A Q ls hsz hx hb hml hown hts hret hp hl
  have hl : lv_has ls 5 [(0, .ref q0), (1, .int (iZ (k))), (2, .int (iZ (v))), (3, .int (iZ (q))), (4, .int (iZ (y)))] := hl
  have hi0 : ∀ w ∈ wsX00, w ∈ wsX0_reckon := fun w h => List.mem_cons_of_mem _ (List.mem_append_right _ (h))
  have f9 := hts (.fieldLink RX0 9 "SelfOpener$Machine" "memory" "[I") (List.mem_of_getElem? (i := 1) rfl)
  suffices hw : ∀ (H : Heap) (locs : List Loc), Hp G cI A s H locs [oM q0 a0 b0 c0 pl st sp po, aI cI a0 256 mem] → W p l e rmX0_reckon s m args below meth c H locs 0 0 Q (F0 m 0 ls []) from hw _ _ hp
  clear hp; intro H locs hp
  refine lv_iload_n hx hb dX0_reckon_0 rfl (lv_at hl 1 rfl) ?_
  by_cases hk1 : k = 1
  · skip
    refine z_top (1) hk1 ?_
    refine z_tsI (off := 63) (tgt := 64) hx hb dX0_reckon_1 (by decide) (by decide) (by decide) (by decide +kernel) (by decide) ?_
    refine lv_iload hx hb dX0_reckon_64 (lv_at hl 4 rfl) ?_
    exact hret _ _ _ _ _ _ _ () (congrArg iZ (by unfold rVal; (repeat' split) <;> first | rfl | omega)) hp dX0_reckon_66 (rfl) (Nat.le_of_ble_eq_true rfl) (Nat.le_of_ble_eq_true rfl)
  by_cases hk2 : k = 2
  · skip
    refine z_top (2) hk2 ?_
    refine z_tsI (off := 66) (tgt := 67) hx hb dX0_reckon_1 (by decide) (by decide) (by decide) (by decide +kernel) (by decide) ?_
    refine lv_iload_n hx hb dX0_reckon_67 rfl (lv_at hl 3 rfl) ?_
    exact hret _ _ _ _ _ _ _ () (congrArg iZ (by unfold rVal; (repeat' split) <;> first | rfl | omega)) hp dX0_reckon_68 (rfl) (Nat.le_of_ble_eq_true rfl) (Nat.le_of_ble_eq_true rfl)
  by_cases hk3 : k = 3
  · skip
    refine z_top (3) hk3 ?_
    refine z_tsI (off := 68) (tgt := 69) hx hb dX0_reckon_1 (by decide) (by decide) (by decide) (by decide +kernel) (by decide) ?_
    refine lv_iload_n hx hb dX0_reckon_69 rfl (lv_at hl 2 rfl) ?_
    refine lv_iload_n hx hb dX0_reckon_70 rfl (lv_at hl 3 rfl) ?_
    refine z_iadd hx hb (v + q) (rfl) dX0_reckon_71 ?_
    exact hret _ _ _ _ _ _ _ () (congrArg iZ (by unfold rVal; (repeat' split) <;> first | rfl | omega)) hp dX0_reckon_72 (rfl) (Nat.le_of_ble_eq_true rfl) (Nat.le_of_ble_eq_true rfl)
  by_cases hk4 : k = 4
  · skip
    refine z_top (4) hk4 ?_
    refine z_tsI (off := 72) (tgt := 73) hx hb dX0_reckon_1 (by decide) (by decide) (by decide) (by decide +kernel) (by decide) ?_
    refine lv_iload_n hx hb dX0_reckon_73 rfl (lv_at hl 2 rfl) ?_
    refine lv_iload hx hb dX0_reckon_74 (lv_at hl 4 rfl) ?_
    refine z_iadd hx hb (v + y) (rfl) dX0_reckon_76 ?_
    exact hret _ _ _ _ _ _ _ () (congrArg iZ (by unfold rVal; (repeat' split) <;> first | rfl | omega)) hp dX0_reckon_77 (rfl) (Nat.le_of_ble_eq_true rfl) (Nat.le_of_ble_eq_true rfl)
  by_cases hk5 : k = 5
  · skip
    refine z_top (5) hk5 ?_
    refine z_tsI (off := 77) (tgt := 78) hx hb dX0_reckon_1 (by decide) (by decide) (by decide) (by decide +kernel) (by decide) ?_
    refine lv_aload_n hx hb dX0_reckon_78 rfl (lv_at hl 0 rfl) ?_
    refine z_get hx hb hts hi0 hown hp 0 rfl rfl 0 (by decide) f9 rfl dX0_reckon_79 ?_
    refine lv_iload_n hx hb dX0_reckon_82 rfl (lv_at hl 3 rfl) ?_
    refine z_iald hx hb hp 1 rfl (q.toNat) (by omega) dX0_reckon_83 (mem q.toNat) (rfl) ?_
    exact hret _ _ _ _ _ _ _ () (congrArg iZ (by unfold rVal; (repeat' split) <;> first | rfl | omega)) hp dX0_reckon_84 (rfl) (Nat.le_of_ble_eq_true rfl) (Nat.le_of_ble_eq_true rfl)
  by_cases hk6 : k = 6
  · skip
    refine z_top (6) hk6 ?_
    refine z_tsI (off := 92) (tgt := 93) hx hb dX0_reckon_1 (by decide) (by decide) (by decide) (by decide +kernel) (by decide) ?_
    refine lv_iload_n hx hb dX0_reckon_93 rfl (lv_at hl 2 rfl) ?_
    refine lv_iload hx hb dX0_reckon_94 (lv_at hl 4 rfl) ?_
    refine z_bipush hx hb dX0_reckon_96 (by decide +kernel) ?_
    refine z_iand hx hb (y % 8) (iZ_and7 _) dX0_reckon_98 ?_
    refine z_ishr hx hb (zshr v (y % 8)) (zshr_e _ _) dX0_reckon_99 ?_
    exact hret _ _ _ _ _ _ _ () (congrArg iZ (by unfold rVal; (repeat' split) <;> first | rfl | omega)) hp dX0_reckon_100 (rfl) (Nat.le_of_ble_eq_true rfl) (Nat.le_of_ble_eq_true rfl)
  by_cases hk7 : k = 7
  · skip
    refine z_top (7) hk7 ?_
    refine z_tsI (off := 84) (tgt := 85) hx hb dX0_reckon_1 (by decide) (by decide) (by decide) (by decide +kernel) (by decide) ?_
    refine lv_iload_n hx hb dX0_reckon_85 rfl (lv_at hl 2 rfl) ?_
    refine lv_iload_n hx hb dX0_reckon_86 rfl (lv_at hl 3 rfl) ?_
    refine z_isub hx hb (v - q) (rfl) dX0_reckon_87 ?_
    exact hret _ _ _ _ _ _ _ () (congrArg iZ (by unfold rVal; (repeat' split) <;> first | rfl | omega)) hp dX0_reckon_88 (rfl) (Nat.le_of_ble_eq_true rfl) (Nat.le_of_ble_eq_true rfl)
  by_cases hk8 : k = 8
  · skip
    refine z_top (8) hk8 ?_
    refine z_tsI (off := 92) (tgt := 93) hx hb dX0_reckon_1 (by decide) (by decide) (by decide) (by decide +kernel) (by decide) ?_
    refine lv_iload_n hx hb dX0_reckon_93 rfl (lv_at hl 2 rfl) ?_
    refine lv_iload hx hb dX0_reckon_94 (lv_at hl 4 rfl) ?_
    refine z_bipush hx hb dX0_reckon_96 (by decide +kernel) ?_
    refine z_iand hx hb (y % 8) (iZ_and7 _) dX0_reckon_98 ?_
    refine z_ishr hx hb (zshr v (y % 8)) (zshr_e _ _) dX0_reckon_99 ?_
    exact hret _ _ _ _ _ _ _ () (congrArg iZ (by unfold rVal; (repeat' split) <;> first | rfl | omega)) hp dX0_reckon_100 (rfl) (Nat.le_of_ble_eq_true rfl) (Nat.le_of_ble_eq_true rfl)
  by_cases hk9 : k = 9
  · skip
    refine z_top (9) hk9 ?_
    refine z_tsI (off := 92) (tgt := 93) hx hb dX0_reckon_1 (by decide) (by decide) (by decide) (by decide +kernel) (by decide) ?_
    refine lv_iload_n hx hb dX0_reckon_93 rfl (lv_at hl 2 rfl) ?_
    refine lv_iload hx hb dX0_reckon_94 (lv_at hl 4 rfl) ?_
    refine z_bipush hx hb dX0_reckon_96 (by decide +kernel) ?_
    refine z_iand hx hb (y % 8) (iZ_and7 _) dX0_reckon_98 ?_
    refine z_ishr hx hb (zshr v (y % 8)) (zshr_e _ _) dX0_reckon_99 ?_
    exact hret _ _ _ _ _ _ _ () (congrArg iZ (by unfold rVal; (repeat' split) <;> first | rfl | omega)) hp dX0_reckon_100 (rfl) (Nat.le_of_ble_eq_true rfl) (Nat.le_of_ble_eq_true rfl)
  by_cases hk10 : k = 10
  · skip
    refine z_top (10) hk10 ?_
    refine z_tsI (off := 92) (tgt := 93) hx hb dX0_reckon_1 (by decide) (by decide) (by decide) (by decide +kernel) (by decide) ?_
    refine lv_iload_n hx hb dX0_reckon_93 rfl (lv_at hl 2 rfl) ?_
    refine lv_iload hx hb dX0_reckon_94 (lv_at hl 4 rfl) ?_
    refine z_bipush hx hb dX0_reckon_96 (by decide +kernel) ?_
    refine z_iand hx hb (y % 8) (iZ_and7 _) dX0_reckon_98 ?_
    refine z_ishr hx hb (zshr v (y % 8)) (zshr_e _ _) dX0_reckon_99 ?_
    exact hret _ _ _ _ _ _ _ () (congrArg iZ (by unfold rVal; (repeat' split) <;> first | rfl | omega)) hp dX0_reckon_100 (rfl) (Nat.le_of_ble_eq_true rfl) (Nat.le_of_ble_eq_true rfl)
  by_cases hk11 : k = 11
  · skip
    refine z_top (11) hk11 ?_
    refine z_tsI (off := 92) (tgt := 93) hx hb dX0_reckon_1 (by decide) (by decide) (by decide) (by decide +kernel) (by decide) ?_
    refine lv_iload_n hx hb dX0_reckon_93 rfl (lv_at hl 2 rfl) ?_
    refine lv_iload hx hb dX0_reckon_94 (lv_at hl 4 rfl) ?_
    refine z_bipush hx hb dX0_reckon_96 (by decide +kernel) ?_
    refine z_iand hx hb (y % 8) (iZ_and7 _) dX0_reckon_98 ?_
    refine z_ishr hx hb (zshr v (y % 8)) (zshr_e _ _) dX0_reckon_99 ?_
    exact hret _ _ _ _ _ _ _ () (congrArg iZ (by unfold rVal; (repeat' split) <;> first | rfl | omega)) hp dX0_reckon_100 (rfl) (Nat.le_of_ble_eq_true rfl) (Nat.le_of_ble_eq_true rfl)
  by_cases hk12 : k = 12
  · skip
    refine z_top (12) hk12 ?_
    refine z_tsI (off := 88) (tgt := 89) hx hb dX0_reckon_1 (by decide) (by decide) (by decide) (by decide +kernel) (by decide) ?_
    refine lv_iload_n hx hb dX0_reckon_89 rfl (lv_at hl 2 rfl) ?_
    refine lv_iload_n hx hb dX0_reckon_90 rfl (lv_at hl 3 rfl) ?_
    refine z_iand hx hb (zand v q) (zand_e _ _) dX0_reckon_91 ?_
    exact hret _ _ _ _ _ _ _ () (congrArg iZ (by unfold rVal; (repeat' split) <;> first | rfl | omega)) hp dX0_reckon_92 (rfl) (Nat.le_of_ble_eq_true rfl) (Nat.le_of_ble_eq_true rfl)
  refine z_tsO (tgt := 93) hx hb dX0_reckon_1 (by assumption) (by omega) (by decide) ?_
  refine lv_iload_n hx hb dX0_reckon_93 rfl (lv_at hl 2 rfl) ?_
  refine lv_iload hx hb dX0_reckon_94 (lv_at hl 4 rfl) ?_
  refine z_bipush hx hb dX0_reckon_96 (by decide +kernel) ?_
  refine z_iand hx hb (y % 8) (iZ_and7 _) dX0_reckon_98 ?_
  refine z_ishr hx hb (zshr v (y % 8)) (zshr_e _ _) dX0_reckon_99 ?_
  exact hret _ _ _ _ _ _ _ () (congrArg iZ (by unfold rVal; (repeat' split) <;> first | rfl | omega)) hp dX0_reckon_100 (rfl) (Nat.le_of_ble_eq_true rfl) (Nat.le_of_ble_eq_true rfl)
abbrev rmX0_act : Room := { frames := 1, cells := 0, slots := 0, locals := 40 }
set_option maxRecDepth 100000 in
set_option maxHeartbeats 4000000 in
theorem c_X0_act (l : Launch) (G : va_G) (cI : ClassId) (sz : Nat) (q0 a0 b0 c0 : Nat) (mem regs kept : Nat → Int) (pl st sp po k : Int) (r : Nat) (y : Int) (h_k : 0 ≤ k ∧ k < 16) (h_r : r < 8) (h_y : 0 ≤ y ∧ y < 256) (h_mem : BB mem 256) (h_regs : BB regs 8) (h_po : 0 ≤ po ∧ po < 2147483647) : Met l yX0_act wsX0_act rmX0_act (zPre G cI [oM q0 a0 b0 c0 pl st sp po, aI cI a0 256 mem, aI cI b0 8 regs, aI cI c0 32 kept] sz [.ref q0, .int (iZ (k)), .int (iZ (↑r)), .int (iZ (y))]) (va_Qv (fun (u : Unit) => True) (fun (u : Unit) t => zB G cI (va_A [oM q0 a0 b0 c0 pl st sp po, aI cI a0 256 mem, aI cI b0 8 regs, aI cI c0 32 kept] sz) [oM q0 a0 b0 c0 (aPl regs k r y pl) (aSt k st) sp (aPo k po), aI cI a0 256 (aMem mem regs k r y), aI cI b0 8 (aRegs mem regs k r y), aI cI c0 32 (aKept regs kept k r po)] t) (va_A [oM q0 a0 b0 c0 pl st sp po, aI cI a0 256 mem, aI cI b0 8 regs, aI cI c0 32 kept] sz)) 0 0 (va_A [oM q0 a0 b0 c0 pl st sp po, aI cI a0 256 mem, aI cI b0 8 regs, aI cI c0 32 kept] sz) := by
  refine zm_v (W1 := fun (u : Unit) => [oM q0 a0 b0 c0 (aPl regs k r y pl) (aSt k st) sp (aPo k po), aI cI a0 256 (aMem mem regs k r y), aI cI b0 8 (aRegs mem regs k r y), aI cI c0 32 (aKept regs kept k r po)]) (cc := cX0_act) (maxL := 5) (by decide) rfl (Nat.le_of_ble_eq_true rfl) ?_
  intro p e s m args below meth c A Q ls hsz hx hb hml hown hts hnm hret hp hl
  have hl : lv_has ls 5 [(0, .ref q0), (1, .int (iZ (k))), (2, .int (iZ (↑r))), (3, .int (iZ (y)))] := hl
  have hi0 : ∀ w ∈ wsX00, w ∈ wsX0_act := fun w h => List.mem_cons_of_mem _ (List.mem_append_right _ (h))
  have f15 := hts (.fieldLink RX0 15 "SelfOpener$Machine" "registers" "[I") (List.mem_of_getElem? (i := 1) rfl)
  have f21 := hts (.fieldLink RX0 21 "SelfOpener$Machine" "state" "I") (List.mem_of_getElem? (i := 2) rfl)
  have f9 := hts (.fieldLink RX0 9 "SelfOpener$Machine" "memory" "[I") (List.mem_of_getElem? (i := 3) rfl)
  have f18 := hts (.fieldLink RX0 18 "SelfOpener$Machine" "kept" "[I") (List.mem_of_getElem? (i := 4) rfl)
  have f25 := hts (.fieldLink RX0 25 "SelfOpener$Machine" "putOut" "I") (List.mem_of_getElem? (i := 5) rfl)
  have hq := h_regs (y % 8).toNat (by omega)
  have hv := h_regs r h_r
  suffices hw : ∀ (H : Heap) (locs : List Loc), Hp G cI A s H locs [oM q0 a0 b0 c0 pl st sp po, aI cI a0 256 mem, aI cI b0 8 regs, aI cI c0 32 kept] → W p l e rmX0_act s m args below meth c H locs 0 0 Q (F0 m 0 ls []) from hw _ _ hp
  clear hp; intro H locs hp
  refine lv_aload_n hx hb dX0_act_0 rfl (lv_at hl 0 rfl) ?_
  refine z_get hx hb hts hi0 hown hp 0 rfl rfl 1 (by decide) f15 rfl dX0_act_1 ?_
  refine lv_iload_n hx hb dX0_act_4 rfl (lv_at hl 3 rfl) ?_
  refine z_bipush hx hb dX0_act_5 (by decide +kernel) ?_
  refine z_iand hx hb (y % 8) (iZ_and7 _) dX0_act_7 ?_
  refine z_iald hx hb hp 2 rfl ((y % 8).toNat) (by omega) dX0_act_8 (regs ((y % 8).toNat)) (rfl) ?_
  refine lv_istore (lv' := [(4, .int (iZ (regs ((y % 8).toNat)))), (0, .ref q0), (1, .int (iZ (k))), (2, .int (iZ (↑r))), (3, .int (iZ (y)))]) hx hb dX0_act_9 hl (by decide) rfl (fun ls hl => ?_)
  refine lv_iload_n hx hb dX0_act_11 rfl (lv_at hl 2 rfl) ?_
  by_cases hk1 : k = 0
  · skip
    refine z_top (0) hk1 ?_
    refine z_tsI (off := 80) (tgt := 92) hx hb dX0_act_12 (by decide) (by decide) (by decide) (by decide +kernel) (by decide) ?_
    subst hk1
    refine lv_aload_n hx hb dX0_act_92 rfl (lv_at hl 1 rfl) ?_
    refine z_iconst hx hb dX0_act_93 ?_
    refine z_put hx hb hts hi0 tyX0 tyX0_ok nmX0 hown hp 0 rfl rfl 4 (by decide) f21 rfl (rfl) (rfl) (Nat.le_of_ble_eq_true rfl) dX0_act_94 (ws' := [oM q0 a0 b0 c0 pl 1 sp po, aI cI a0 256 mem, aI cI b0 8 regs, aI cI c0 32 kept]) rfl (fun H locs hp => ?_)
    refine lv_goto (tgt := 194) hx hb dX0_act_97 (by decide) ?_
    exact hret _ _ _ _ _ _ () (trivial) hp dX0_act_194 (Nat.le_of_ble_eq_true rfl) (Nat.le_of_ble_eq_true rfl)
  by_cases hk2 : k = 1
  · skip
    refine z_top (1) hk2 ?_
    refine z_tsI (off := 158) (tgt := 170) hx hb dX0_act_12 (by decide) (by decide) (by decide) (by decide +kernel) (by decide) ?_
    subst hk2
    refine lv_aload_n hx hb dX0_act_170 rfl (lv_at hl 1 rfl) ?_
    refine z_get hx hb hts hi0 hown hp 0 rfl rfl 1 (by decide) f15 rfl dX0_act_171 ?_
    refine lv_iload_n hx hb dX0_act_174 rfl (lv_at hl 3 rfl) ?_
    refine lv_aload_n hx hb dX0_act_175 rfl (lv_at hl 1 rfl) ?_
    refine lv_iload_n hx hb dX0_act_176 rfl (lv_at hl 2 rfl) ?_
    refine lv_aload_n hx hb dX0_act_177 rfl (lv_at hl 1 rfl) ?_
    refine z_get hx hb hts hi0 hown hp 0 rfl rfl 1 (by decide) f15 rfl dX0_act_178 ?_
    refine lv_iload_n hx hb dX0_act_181 rfl (lv_at hl 3 rfl) ?_
    refine z_iald hx hb hp 2 rfl (r) (by omega) dX0_act_182 (regs r) (rfl) ?_
    refine lv_iload hx hb dX0_act_183 (lv_at hl 0 rfl) ?_
    refine lv_iload_n hx hb dX0_act_185 rfl (lv_at hl 4 rfl) ?_
    refine zc_i (wr := [aI cI b0 8 regs, aI cI c0 32 kept]) (W0 := [oM q0 a0 b0 c0 pl st sp po, aI cI a0 256 mem]) (wl2 := fun (u : Unit) => [oM q0 a0 b0 c0 pl st sp po, aI cI a0 256 mem, aI cI b0 8 regs, aI cI c0 32 kept]) (As := [.int (iZ (1)), .int (iZ (regs r)), .int (iZ (regs ((y % 8).toNat))), .int (iZ (y))]) (rest := [.int (iZ (↑r)), .ref b0]) hx hb hml hown hts hp (c_X0_reckon l G cI H.size q0 a0 b0 c0 mem pl st sp po 1 (regs r) (regs (y % 8).toNat) y (by omega) (by omega) (by omega)) zPre_blind (z_pre hp [0, 1] rfl (by decide) [.ref q0, .int (iZ (1)), .int (iZ (regs r)), .int (iZ (regs ((y % 8).toNat))), .int (iZ (y))]) (cwV 4 hts gX0_act_X0_reckon rfl rfl rfl (by decide +kernel) ⟨Nat.le_of_ble_eq_true rfl, Nat.le_of_ble_eq_true rfl⟩) [0, 1] [2, 3] [2, 3, 0, 1] rfl rfl ⟨by decide, by decide, by decide⟩ (fun _ => rfl) 0 0 rfl rfl rfl rfl hl.1 rfl (Nat.le_of_ble_eq_true rfl) dX0_act_186 ⟨Nat.le_of_ble_eq_true rfl, Nat.le_of_ble_eq_true rfl⟩ (fun rv u H locs hq3 hp => ?_)
    obtain rfl : rv = iZ (rVal mem 1 (regs r) (regs (y % 8).toNat) y) := hq3
    refine z_sipush hx hb dX0_act_189 (by decide +kernel) ?_
    refine z_iand hx hb (aVal mem regs 1 r y) (by rw [iZ_and255]; exact congrArg iZ (rVal_m (by omega) h_mem h_regs h_r h_y)) dX0_act_192 ?_
    refine z_iast hx hb hp 2 rfl (r) (by omega) dX0_act_193 (ws' := [oM q0 a0 b0 c0 pl st sp po, aI cI a0 256 mem, aI cI b0 8 (upZ regs r (aVal mem regs 1 r y)), aI cI c0 32 kept]) rfl (fun H locs hp => ?_)
    exact hret _ _ _ _ _ _ () (trivial) hp dX0_act_194 (Nat.le_of_ble_eq_true rfl) (Nat.le_of_ble_eq_true rfl)
  by_cases hk4 : k = 2
  · skip
    refine z_top (2) hk4 ?_
    refine z_tsI (off := 158) (tgt := 170) hx hb dX0_act_12 (by decide) (by decide) (by decide) (by decide +kernel) (by decide) ?_
    subst hk4
    refine lv_aload_n hx hb dX0_act_170 rfl (lv_at hl 1 rfl) ?_
    refine z_get hx hb hts hi0 hown hp 0 rfl rfl 1 (by decide) f15 rfl dX0_act_171 ?_
    refine lv_iload_n hx hb dX0_act_174 rfl (lv_at hl 3 rfl) ?_
    refine lv_aload_n hx hb dX0_act_175 rfl (lv_at hl 1 rfl) ?_
    refine lv_iload_n hx hb dX0_act_176 rfl (lv_at hl 2 rfl) ?_
    refine lv_aload_n hx hb dX0_act_177 rfl (lv_at hl 1 rfl) ?_
    refine z_get hx hb hts hi0 hown hp 0 rfl rfl 1 (by decide) f15 rfl dX0_act_178 ?_
    refine lv_iload_n hx hb dX0_act_181 rfl (lv_at hl 3 rfl) ?_
    refine z_iald hx hb hp 2 rfl (r) (by omega) dX0_act_182 (regs r) (rfl) ?_
    refine lv_iload hx hb dX0_act_183 (lv_at hl 0 rfl) ?_
    refine lv_iload_n hx hb dX0_act_185 rfl (lv_at hl 4 rfl) ?_
    refine zc_i (wr := [aI cI b0 8 regs, aI cI c0 32 kept]) (W0 := [oM q0 a0 b0 c0 pl st sp po, aI cI a0 256 mem]) (wl2 := fun (u : Unit) => [oM q0 a0 b0 c0 pl st sp po, aI cI a0 256 mem, aI cI b0 8 regs, aI cI c0 32 kept]) (As := [.int (iZ (2)), .int (iZ (regs r)), .int (iZ (regs ((y % 8).toNat))), .int (iZ (y))]) (rest := [.int (iZ (↑r)), .ref b0]) hx hb hml hown hts hp (c_X0_reckon l G cI H.size q0 a0 b0 c0 mem pl st sp po 2 (regs r) (regs (y % 8).toNat) y (by omega) (by omega) (by omega)) zPre_blind (z_pre hp [0, 1] rfl (by decide) [.ref q0, .int (iZ (2)), .int (iZ (regs r)), .int (iZ (regs ((y % 8).toNat))), .int (iZ (y))]) (cwV 4 hts gX0_act_X0_reckon rfl rfl rfl (by decide +kernel) ⟨Nat.le_of_ble_eq_true rfl, Nat.le_of_ble_eq_true rfl⟩) [0, 1] [2, 3] [2, 3, 0, 1] rfl rfl ⟨by decide, by decide, by decide⟩ (fun _ => rfl) 0 0 rfl rfl rfl rfl hl.1 rfl (Nat.le_of_ble_eq_true rfl) dX0_act_186 ⟨Nat.le_of_ble_eq_true rfl, Nat.le_of_ble_eq_true rfl⟩ (fun rv u H locs hq5 hp => ?_)
    obtain rfl : rv = iZ (rVal mem 2 (regs r) (regs (y % 8).toNat) y) := hq5
    refine z_sipush hx hb dX0_act_189 (by decide +kernel) ?_
    refine z_iand hx hb (aVal mem regs 2 r y) (by rw [iZ_and255]; exact congrArg iZ (rVal_m (by omega) h_mem h_regs h_r h_y)) dX0_act_192 ?_
    refine z_iast hx hb hp 2 rfl (r) (by omega) dX0_act_193 (ws' := [oM q0 a0 b0 c0 pl st sp po, aI cI a0 256 mem, aI cI b0 8 (upZ regs r (aVal mem regs 2 r y)), aI cI c0 32 kept]) rfl (fun H locs hp => ?_)
    exact hret _ _ _ _ _ _ () (trivial) hp dX0_act_194 (Nat.le_of_ble_eq_true rfl) (Nat.le_of_ble_eq_true rfl)
  by_cases hk6 : k = 3
  · skip
    refine z_top (3) hk6 ?_
    refine z_tsI (off := 158) (tgt := 170) hx hb dX0_act_12 (by decide) (by decide) (by decide) (by decide +kernel) (by decide) ?_
    subst hk6
    refine lv_aload_n hx hb dX0_act_170 rfl (lv_at hl 1 rfl) ?_
    refine z_get hx hb hts hi0 hown hp 0 rfl rfl 1 (by decide) f15 rfl dX0_act_171 ?_
    refine lv_iload_n hx hb dX0_act_174 rfl (lv_at hl 3 rfl) ?_
    refine lv_aload_n hx hb dX0_act_175 rfl (lv_at hl 1 rfl) ?_
    refine lv_iload_n hx hb dX0_act_176 rfl (lv_at hl 2 rfl) ?_
    refine lv_aload_n hx hb dX0_act_177 rfl (lv_at hl 1 rfl) ?_
    refine z_get hx hb hts hi0 hown hp 0 rfl rfl 1 (by decide) f15 rfl dX0_act_178 ?_
    refine lv_iload_n hx hb dX0_act_181 rfl (lv_at hl 3 rfl) ?_
    refine z_iald hx hb hp 2 rfl (r) (by omega) dX0_act_182 (regs r) (rfl) ?_
    refine lv_iload hx hb dX0_act_183 (lv_at hl 0 rfl) ?_
    refine lv_iload_n hx hb dX0_act_185 rfl (lv_at hl 4 rfl) ?_
    refine zc_i (wr := [aI cI b0 8 regs, aI cI c0 32 kept]) (W0 := [oM q0 a0 b0 c0 pl st sp po, aI cI a0 256 mem]) (wl2 := fun (u : Unit) => [oM q0 a0 b0 c0 pl st sp po, aI cI a0 256 mem, aI cI b0 8 regs, aI cI c0 32 kept]) (As := [.int (iZ (3)), .int (iZ (regs r)), .int (iZ (regs ((y % 8).toNat))), .int (iZ (y))]) (rest := [.int (iZ (↑r)), .ref b0]) hx hb hml hown hts hp (c_X0_reckon l G cI H.size q0 a0 b0 c0 mem pl st sp po 3 (regs r) (regs (y % 8).toNat) y (by omega) (by omega) (by omega)) zPre_blind (z_pre hp [0, 1] rfl (by decide) [.ref q0, .int (iZ (3)), .int (iZ (regs r)), .int (iZ (regs ((y % 8).toNat))), .int (iZ (y))]) (cwV 4 hts gX0_act_X0_reckon rfl rfl rfl (by decide +kernel) ⟨Nat.le_of_ble_eq_true rfl, Nat.le_of_ble_eq_true rfl⟩) [0, 1] [2, 3] [2, 3, 0, 1] rfl rfl ⟨by decide, by decide, by decide⟩ (fun _ => rfl) 0 0 rfl rfl rfl rfl hl.1 rfl (Nat.le_of_ble_eq_true rfl) dX0_act_186 ⟨Nat.le_of_ble_eq_true rfl, Nat.le_of_ble_eq_true rfl⟩ (fun rv u H locs hq7 hp => ?_)
    obtain rfl : rv = iZ (rVal mem 3 (regs r) (regs (y % 8).toNat) y) := hq7
    refine z_sipush hx hb dX0_act_189 (by decide +kernel) ?_
    refine z_iand hx hb (aVal mem regs 3 r y) (by rw [iZ_and255]; exact congrArg iZ (rVal_m (by omega) h_mem h_regs h_r h_y)) dX0_act_192 ?_
    refine z_iast hx hb hp 2 rfl (r) (by omega) dX0_act_193 (ws' := [oM q0 a0 b0 c0 pl st sp po, aI cI a0 256 mem, aI cI b0 8 (upZ regs r (aVal mem regs 3 r y)), aI cI c0 32 kept]) rfl (fun H locs hp => ?_)
    exact hret _ _ _ _ _ _ () (trivial) hp dX0_act_194 (Nat.le_of_ble_eq_true rfl) (Nat.le_of_ble_eq_true rfl)
  by_cases hk8 : k = 4
  · skip
    refine z_top (4) hk8 ?_
    refine z_tsI (off := 158) (tgt := 170) hx hb dX0_act_12 (by decide) (by decide) (by decide) (by decide +kernel) (by decide) ?_
    subst hk8
    refine lv_aload_n hx hb dX0_act_170 rfl (lv_at hl 1 rfl) ?_
    refine z_get hx hb hts hi0 hown hp 0 rfl rfl 1 (by decide) f15 rfl dX0_act_171 ?_
    refine lv_iload_n hx hb dX0_act_174 rfl (lv_at hl 3 rfl) ?_
    refine lv_aload_n hx hb dX0_act_175 rfl (lv_at hl 1 rfl) ?_
    refine lv_iload_n hx hb dX0_act_176 rfl (lv_at hl 2 rfl) ?_
    refine lv_aload_n hx hb dX0_act_177 rfl (lv_at hl 1 rfl) ?_
    refine z_get hx hb hts hi0 hown hp 0 rfl rfl 1 (by decide) f15 rfl dX0_act_178 ?_
    refine lv_iload_n hx hb dX0_act_181 rfl (lv_at hl 3 rfl) ?_
    refine z_iald hx hb hp 2 rfl (r) (by omega) dX0_act_182 (regs r) (rfl) ?_
    refine lv_iload hx hb dX0_act_183 (lv_at hl 0 rfl) ?_
    refine lv_iload_n hx hb dX0_act_185 rfl (lv_at hl 4 rfl) ?_
    refine zc_i (wr := [aI cI b0 8 regs, aI cI c0 32 kept]) (W0 := [oM q0 a0 b0 c0 pl st sp po, aI cI a0 256 mem]) (wl2 := fun (u : Unit) => [oM q0 a0 b0 c0 pl st sp po, aI cI a0 256 mem, aI cI b0 8 regs, aI cI c0 32 kept]) (As := [.int (iZ (4)), .int (iZ (regs r)), .int (iZ (regs ((y % 8).toNat))), .int (iZ (y))]) (rest := [.int (iZ (↑r)), .ref b0]) hx hb hml hown hts hp (c_X0_reckon l G cI H.size q0 a0 b0 c0 mem pl st sp po 4 (regs r) (regs (y % 8).toNat) y (by omega) (by omega) (by omega)) zPre_blind (z_pre hp [0, 1] rfl (by decide) [.ref q0, .int (iZ (4)), .int (iZ (regs r)), .int (iZ (regs ((y % 8).toNat))), .int (iZ (y))]) (cwV 4 hts gX0_act_X0_reckon rfl rfl rfl (by decide +kernel) ⟨Nat.le_of_ble_eq_true rfl, Nat.le_of_ble_eq_true rfl⟩) [0, 1] [2, 3] [2, 3, 0, 1] rfl rfl ⟨by decide, by decide, by decide⟩ (fun _ => rfl) 0 0 rfl rfl rfl rfl hl.1 rfl (Nat.le_of_ble_eq_true rfl) dX0_act_186 ⟨Nat.le_of_ble_eq_true rfl, Nat.le_of_ble_eq_true rfl⟩ (fun rv u H locs hq9 hp => ?_)
    obtain rfl : rv = iZ (rVal mem 4 (regs r) (regs (y % 8).toNat) y) := hq9
    refine z_sipush hx hb dX0_act_189 (by decide +kernel) ?_
    refine z_iand hx hb (aVal mem regs 4 r y) (by rw [iZ_and255]; exact congrArg iZ (rVal_m (by omega) h_mem h_regs h_r h_y)) dX0_act_192 ?_
    refine z_iast hx hb hp 2 rfl (r) (by omega) dX0_act_193 (ws' := [oM q0 a0 b0 c0 pl st sp po, aI cI a0 256 mem, aI cI b0 8 (upZ regs r (aVal mem regs 4 r y)), aI cI c0 32 kept]) rfl (fun H locs hp => ?_)
    exact hret _ _ _ _ _ _ () (trivial) hp dX0_act_194 (Nat.le_of_ble_eq_true rfl) (Nat.le_of_ble_eq_true rfl)
  by_cases hk10 : k = 5
  · skip
    refine z_top (5) hk10 ?_
    refine z_tsI (off := 158) (tgt := 170) hx hb dX0_act_12 (by decide) (by decide) (by decide) (by decide +kernel) (by decide) ?_
    subst hk10
    refine lv_aload_n hx hb dX0_act_170 rfl (lv_at hl 1 rfl) ?_
    refine z_get hx hb hts hi0 hown hp 0 rfl rfl 1 (by decide) f15 rfl dX0_act_171 ?_
    refine lv_iload_n hx hb dX0_act_174 rfl (lv_at hl 3 rfl) ?_
    refine lv_aload_n hx hb dX0_act_175 rfl (lv_at hl 1 rfl) ?_
    refine lv_iload_n hx hb dX0_act_176 rfl (lv_at hl 2 rfl) ?_
    refine lv_aload_n hx hb dX0_act_177 rfl (lv_at hl 1 rfl) ?_
    refine z_get hx hb hts hi0 hown hp 0 rfl rfl 1 (by decide) f15 rfl dX0_act_178 ?_
    refine lv_iload_n hx hb dX0_act_181 rfl (lv_at hl 3 rfl) ?_
    refine z_iald hx hb hp 2 rfl (r) (by omega) dX0_act_182 (regs r) (rfl) ?_
    refine lv_iload hx hb dX0_act_183 (lv_at hl 0 rfl) ?_
    refine lv_iload_n hx hb dX0_act_185 rfl (lv_at hl 4 rfl) ?_
    refine zc_i (wr := [aI cI b0 8 regs, aI cI c0 32 kept]) (W0 := [oM q0 a0 b0 c0 pl st sp po, aI cI a0 256 mem]) (wl2 := fun (u : Unit) => [oM q0 a0 b0 c0 pl st sp po, aI cI a0 256 mem, aI cI b0 8 regs, aI cI c0 32 kept]) (As := [.int (iZ (5)), .int (iZ (regs r)), .int (iZ (regs ((y % 8).toNat))), .int (iZ (y))]) (rest := [.int (iZ (↑r)), .ref b0]) hx hb hml hown hts hp (c_X0_reckon l G cI H.size q0 a0 b0 c0 mem pl st sp po 5 (regs r) (regs (y % 8).toNat) y (by omega) (by omega) (by omega)) zPre_blind (z_pre hp [0, 1] rfl (by decide) [.ref q0, .int (iZ (5)), .int (iZ (regs r)), .int (iZ (regs ((y % 8).toNat))), .int (iZ (y))]) (cwV 4 hts gX0_act_X0_reckon rfl rfl rfl (by decide +kernel) ⟨Nat.le_of_ble_eq_true rfl, Nat.le_of_ble_eq_true rfl⟩) [0, 1] [2, 3] [2, 3, 0, 1] rfl rfl ⟨by decide, by decide, by decide⟩ (fun _ => rfl) 0 0 rfl rfl rfl rfl hl.1 rfl (Nat.le_of_ble_eq_true rfl) dX0_act_186 ⟨Nat.le_of_ble_eq_true rfl, Nat.le_of_ble_eq_true rfl⟩ (fun rv u H locs hq11 hp => ?_)
    obtain rfl : rv = iZ (rVal mem 5 (regs r) (regs (y % 8).toNat) y) := hq11
    refine z_sipush hx hb dX0_act_189 (by decide +kernel) ?_
    refine z_iand hx hb (aVal mem regs 5 r y) (by rw [iZ_and255]; exact congrArg iZ (rVal_m (by omega) h_mem h_regs h_r h_y)) dX0_act_192 ?_
    refine z_iast hx hb hp 2 rfl (r) (by omega) dX0_act_193 (ws' := [oM q0 a0 b0 c0 pl st sp po, aI cI a0 256 mem, aI cI b0 8 (upZ regs r (aVal mem regs 5 r y)), aI cI c0 32 kept]) rfl (fun H locs hp => ?_)
    exact hret _ _ _ _ _ _ () (trivial) hp dX0_act_194 (Nat.le_of_ble_eq_true rfl) (Nat.le_of_ble_eq_true rfl)
  by_cases hk12 : k = 6
  · skip
    refine z_top (6) hk12 ?_
    refine z_tsI (off := 88) (tgt := 100) hx hb dX0_act_12 (by decide) (by decide) (by decide) (by decide +kernel) (by decide) ?_
    subst hk12
    refine lv_aload_n hx hb dX0_act_100 rfl (lv_at hl 1 rfl) ?_
    refine z_get hx hb hts hi0 hown hp 0 rfl rfl 0 (by decide) f9 rfl dX0_act_101 ?_
    refine lv_iload hx hb dX0_act_104 (lv_at hl 0 rfl) ?_
    refine lv_aload_n hx hb dX0_act_106 rfl (lv_at hl 1 rfl) ?_
    refine z_get hx hb hts hi0 hown hp 0 rfl rfl 1 (by decide) f15 rfl dX0_act_107 ?_
    refine lv_iload_n hx hb dX0_act_110 rfl (lv_at hl 3 rfl) ?_
    refine z_iald hx hb hp 2 rfl (r) (by omega) dX0_act_111 (regs r) (rfl) ?_
    refine z_iast hx hb hp 1 rfl ((regs (y % 8).toNat).toNat) (by omega) dX0_act_112 (ws' := [oM q0 a0 b0 c0 pl st sp po, aI cI a0 256 (upZ mem ((regs (y % 8).toNat).toNat) (regs r)), aI cI b0 8 regs, aI cI c0 32 kept]) rfl (fun H locs hp => ?_)
    refine lv_goto (tgt := 194) hx hb dX0_act_113 (by decide) ?_
    exact hret _ _ _ _ _ _ () (trivial) hp dX0_act_194 (Nat.le_of_ble_eq_true rfl) (Nat.le_of_ble_eq_true rfl)
  by_cases hk13 : k = 7
  · skip
    refine z_top (7) hk13 ?_
    refine z_tsI (off := 158) (tgt := 170) hx hb dX0_act_12 (by decide) (by decide) (by decide) (by decide +kernel) (by decide) ?_
    subst hk13
    refine lv_aload_n hx hb dX0_act_170 rfl (lv_at hl 1 rfl) ?_
    refine z_get hx hb hts hi0 hown hp 0 rfl rfl 1 (by decide) f15 rfl dX0_act_171 ?_
    refine lv_iload_n hx hb dX0_act_174 rfl (lv_at hl 3 rfl) ?_
    refine lv_aload_n hx hb dX0_act_175 rfl (lv_at hl 1 rfl) ?_
    refine lv_iload_n hx hb dX0_act_176 rfl (lv_at hl 2 rfl) ?_
    refine lv_aload_n hx hb dX0_act_177 rfl (lv_at hl 1 rfl) ?_
    refine z_get hx hb hts hi0 hown hp 0 rfl rfl 1 (by decide) f15 rfl dX0_act_178 ?_
    refine lv_iload_n hx hb dX0_act_181 rfl (lv_at hl 3 rfl) ?_
    refine z_iald hx hb hp 2 rfl (r) (by omega) dX0_act_182 (regs r) (rfl) ?_
    refine lv_iload hx hb dX0_act_183 (lv_at hl 0 rfl) ?_
    refine lv_iload_n hx hb dX0_act_185 rfl (lv_at hl 4 rfl) ?_
    refine zc_i (wr := [aI cI b0 8 regs, aI cI c0 32 kept]) (W0 := [oM q0 a0 b0 c0 pl st sp po, aI cI a0 256 mem]) (wl2 := fun (u : Unit) => [oM q0 a0 b0 c0 pl st sp po, aI cI a0 256 mem, aI cI b0 8 regs, aI cI c0 32 kept]) (As := [.int (iZ (7)), .int (iZ (regs r)), .int (iZ (regs ((y % 8).toNat))), .int (iZ (y))]) (rest := [.int (iZ (↑r)), .ref b0]) hx hb hml hown hts hp (c_X0_reckon l G cI H.size q0 a0 b0 c0 mem pl st sp po 7 (regs r) (regs (y % 8).toNat) y (by omega) (by omega) (by omega)) zPre_blind (z_pre hp [0, 1] rfl (by decide) [.ref q0, .int (iZ (7)), .int (iZ (regs r)), .int (iZ (regs ((y % 8).toNat))), .int (iZ (y))]) (cwV 4 hts gX0_act_X0_reckon rfl rfl rfl (by decide +kernel) ⟨Nat.le_of_ble_eq_true rfl, Nat.le_of_ble_eq_true rfl⟩) [0, 1] [2, 3] [2, 3, 0, 1] rfl rfl ⟨by decide, by decide, by decide⟩ (fun _ => rfl) 0 0 rfl rfl rfl rfl hl.1 rfl (Nat.le_of_ble_eq_true rfl) dX0_act_186 ⟨Nat.le_of_ble_eq_true rfl, Nat.le_of_ble_eq_true rfl⟩ (fun rv u H locs hq14 hp => ?_)
    obtain rfl : rv = iZ (rVal mem 7 (regs r) (regs (y % 8).toNat) y) := hq14
    refine z_sipush hx hb dX0_act_189 (by decide +kernel) ?_
    refine z_iand hx hb (aVal mem regs 7 r y) (by rw [iZ_and255]; exact congrArg iZ (rVal_m (by omega) h_mem h_regs h_r h_y)) dX0_act_192 ?_
    refine z_iast hx hb hp 2 rfl (r) (by omega) dX0_act_193 (ws' := [oM q0 a0 b0 c0 pl st sp po, aI cI a0 256 mem, aI cI b0 8 (upZ regs r (aVal mem regs 7 r y)), aI cI c0 32 kept]) rfl (fun H locs hp => ?_)
    exact hret _ _ _ _ _ _ () (trivial) hp dX0_act_194 (Nat.le_of_ble_eq_true rfl) (Nat.le_of_ble_eq_true rfl)
  by_cases hk15 : k = 8
  · skip
    refine z_top (8) hk15 ?_
    refine z_tsI (off := 104) (tgt := 116) hx hb dX0_act_12 (by decide) (by decide) (by decide) (by decide +kernel) (by decide) ?_
    subst hk15
    refine lv_aload_n hx hb dX0_act_116 rfl (lv_at hl 1 rfl) ?_
    refine lv_iload_n hx hb dX0_act_117 rfl (lv_at hl 2 rfl) ?_
    refine lv_aload_n hx hb dX0_act_118 rfl (lv_at hl 1 rfl) ?_
    refine z_get hx hb hts hi0 hown hp 0 rfl rfl 1 (by decide) f15 rfl dX0_act_119 ?_
    refine lv_iload_n hx hb dX0_act_122 rfl (lv_at hl 3 rfl) ?_
    refine z_iald hx hb hp 2 rfl (r) (by omega) dX0_act_123 (regs r) (rfl) ?_
    refine lv_iload_n hx hb dX0_act_124 rfl (lv_at hl 4 rfl) ?_
    refine zc_v (wr := [aI cI a0 256 mem, aI cI b0 8 regs, aI cI c0 32 kept]) (W0 := [oM q0 a0 b0 c0 pl st sp po]) (wl2 := fun (u : Unit) => [oM q0 a0 b0 c0 (jPl 8 (regs r) y pl) st sp po, aI cI a0 256 mem, aI cI b0 8 regs, aI cI c0 32 kept]) (As := [.int (iZ (8)), .int (iZ (regs r)), .int (iZ (y))]) (rest := []) hx hb hml hown hts hp (c_X0_jump l G cI H.size q0 a0 b0 c0 pl st sp po 8 (regs r) y (by omega) (by omega)) zPre_blind (z_pre hp [0] rfl (by decide) [.ref q0, .int (iZ (8)), .int (iZ (regs r)), .int (iZ (y))]) (cwV 3 hts gX0_act_X0_jump rfl rfl rfl (by decide +kernel) ⟨Nat.le_of_ble_eq_true rfl, Nat.le_of_ble_eq_true rfl⟩) [0] [1, 2, 3] [3, 0, 1, 2] rfl rfl ⟨by decide, by decide, by decide⟩ (fun _ => rfl) 0 0 rfl rfl rfl rfl hl.1 rfl (Nat.le_of_ble_eq_true rfl) dX0_act_125 ⟨Nat.le_of_ble_eq_true rfl, Nat.le_of_ble_eq_true rfl⟩ (fun u H locs hq16 hp => ?_)
    refine lv_goto (tgt := 194) hx hb dX0_act_128 (by decide) ?_
    have hp : Hp G cI A s H locs [oM q0 a0 b0 c0 (aPl regs 8 r y pl) st sp po, aI cI a0 256 mem, aI cI b0 8 regs, aI cI c0 32 kept] := by
      have e9 : (aPl regs 8 r y pl : Int) = jPl 8 (regs r) y pl := by unfold aPl jPl; (repeat' split) <;> omega
      rw [e9]; exact hp
    exact hret _ _ _ _ _ _ () (trivial) hp dX0_act_194 (Nat.le_of_ble_eq_true rfl) (Nat.le_of_ble_eq_true rfl)
  by_cases hk17 : k = 9
  · skip
    refine z_top (9) hk17 ?_
    refine z_tsI (off := 104) (tgt := 116) hx hb dX0_act_12 (by decide) (by decide) (by decide) (by decide +kernel) (by decide) ?_
    subst hk17
    refine lv_aload_n hx hb dX0_act_116 rfl (lv_at hl 1 rfl) ?_
    refine lv_iload_n hx hb dX0_act_117 rfl (lv_at hl 2 rfl) ?_
    refine lv_aload_n hx hb dX0_act_118 rfl (lv_at hl 1 rfl) ?_
    refine z_get hx hb hts hi0 hown hp 0 rfl rfl 1 (by decide) f15 rfl dX0_act_119 ?_
    refine lv_iload_n hx hb dX0_act_122 rfl (lv_at hl 3 rfl) ?_
    refine z_iald hx hb hp 2 rfl (r) (by omega) dX0_act_123 (regs r) (rfl) ?_
    refine lv_iload_n hx hb dX0_act_124 rfl (lv_at hl 4 rfl) ?_
    refine zc_v (wr := [aI cI a0 256 mem, aI cI b0 8 regs, aI cI c0 32 kept]) (W0 := [oM q0 a0 b0 c0 pl st sp po]) (wl2 := fun (u : Unit) => [oM q0 a0 b0 c0 (jPl 9 (regs r) y pl) st sp po, aI cI a0 256 mem, aI cI b0 8 regs, aI cI c0 32 kept]) (As := [.int (iZ (9)), .int (iZ (regs r)), .int (iZ (y))]) (rest := []) hx hb hml hown hts hp (c_X0_jump l G cI H.size q0 a0 b0 c0 pl st sp po 9 (regs r) y (by omega) (by omega)) zPre_blind (z_pre hp [0] rfl (by decide) [.ref q0, .int (iZ (9)), .int (iZ (regs r)), .int (iZ (y))]) (cwV 3 hts gX0_act_X0_jump rfl rfl rfl (by decide +kernel) ⟨Nat.le_of_ble_eq_true rfl, Nat.le_of_ble_eq_true rfl⟩) [0] [1, 2, 3] [3, 0, 1, 2] rfl rfl ⟨by decide, by decide, by decide⟩ (fun _ => rfl) 0 0 rfl rfl rfl rfl hl.1 rfl (Nat.le_of_ble_eq_true rfl) dX0_act_125 ⟨Nat.le_of_ble_eq_true rfl, Nat.le_of_ble_eq_true rfl⟩ (fun u H locs hq18 hp => ?_)
    refine lv_goto (tgt := 194) hx hb dX0_act_128 (by decide) ?_
    have hp : Hp G cI A s H locs [oM q0 a0 b0 c0 (aPl regs 9 r y pl) st sp po, aI cI a0 256 mem, aI cI b0 8 regs, aI cI c0 32 kept] := by
      have e9 : (aPl regs 9 r y pl : Int) = jPl 9 (regs r) y pl := by unfold aPl jPl; (repeat' split) <;> omega
      rw [e9]; exact hp
    exact hret _ _ _ _ _ _ () (trivial) hp dX0_act_194 (Nat.le_of_ble_eq_true rfl) (Nat.le_of_ble_eq_true rfl)
  by_cases hk19 : k = 10
  · skip
    refine z_top (10) hk19 ?_
    refine z_tsI (off := 104) (tgt := 116) hx hb dX0_act_12 (by decide) (by decide) (by decide) (by decide +kernel) (by decide) ?_
    subst hk19
    refine lv_aload_n hx hb dX0_act_116 rfl (lv_at hl 1 rfl) ?_
    refine lv_iload_n hx hb dX0_act_117 rfl (lv_at hl 2 rfl) ?_
    refine lv_aload_n hx hb dX0_act_118 rfl (lv_at hl 1 rfl) ?_
    refine z_get hx hb hts hi0 hown hp 0 rfl rfl 1 (by decide) f15 rfl dX0_act_119 ?_
    refine lv_iload_n hx hb dX0_act_122 rfl (lv_at hl 3 rfl) ?_
    refine z_iald hx hb hp 2 rfl (r) (by omega) dX0_act_123 (regs r) (rfl) ?_
    refine lv_iload_n hx hb dX0_act_124 rfl (lv_at hl 4 rfl) ?_
    refine zc_v (wr := [aI cI a0 256 mem, aI cI b0 8 regs, aI cI c0 32 kept]) (W0 := [oM q0 a0 b0 c0 pl st sp po]) (wl2 := fun (u : Unit) => [oM q0 a0 b0 c0 (jPl 10 (regs r) y pl) st sp po, aI cI a0 256 mem, aI cI b0 8 regs, aI cI c0 32 kept]) (As := [.int (iZ (10)), .int (iZ (regs r)), .int (iZ (y))]) (rest := []) hx hb hml hown hts hp (c_X0_jump l G cI H.size q0 a0 b0 c0 pl st sp po 10 (regs r) y (by omega) (by omega)) zPre_blind (z_pre hp [0] rfl (by decide) [.ref q0, .int (iZ (10)), .int (iZ (regs r)), .int (iZ (y))]) (cwV 3 hts gX0_act_X0_jump rfl rfl rfl (by decide +kernel) ⟨Nat.le_of_ble_eq_true rfl, Nat.le_of_ble_eq_true rfl⟩) [0] [1, 2, 3] [3, 0, 1, 2] rfl rfl ⟨by decide, by decide, by decide⟩ (fun _ => rfl) 0 0 rfl rfl rfl rfl hl.1 rfl (Nat.le_of_ble_eq_true rfl) dX0_act_125 ⟨Nat.le_of_ble_eq_true rfl, Nat.le_of_ble_eq_true rfl⟩ (fun u H locs hq20 hp => ?_)
    refine lv_goto (tgt := 194) hx hb dX0_act_128 (by decide) ?_
    have hp : Hp G cI A s H locs [oM q0 a0 b0 c0 (aPl regs 10 r y pl) st sp po, aI cI a0 256 mem, aI cI b0 8 regs, aI cI c0 32 kept] := by
      have e9 : (aPl regs 10 r y pl : Int) = jPl 10 (regs r) y pl := by unfold aPl jPl; (repeat' split) <;> omega
      rw [e9]; exact hp
    exact hret _ _ _ _ _ _ () (trivial) hp dX0_act_194 (Nat.le_of_ble_eq_true rfl) (Nat.le_of_ble_eq_true rfl)
  by_cases hk21 : k = 11
  · skip
    refine z_top (11) hk21 ?_
    refine z_tsI (off := 104) (tgt := 116) hx hb dX0_act_12 (by decide) (by decide) (by decide) (by decide +kernel) (by decide) ?_
    subst hk21
    refine lv_aload_n hx hb dX0_act_116 rfl (lv_at hl 1 rfl) ?_
    refine lv_iload_n hx hb dX0_act_117 rfl (lv_at hl 2 rfl) ?_
    refine lv_aload_n hx hb dX0_act_118 rfl (lv_at hl 1 rfl) ?_
    refine z_get hx hb hts hi0 hown hp 0 rfl rfl 1 (by decide) f15 rfl dX0_act_119 ?_
    refine lv_iload_n hx hb dX0_act_122 rfl (lv_at hl 3 rfl) ?_
    refine z_iald hx hb hp 2 rfl (r) (by omega) dX0_act_123 (regs r) (rfl) ?_
    refine lv_iload_n hx hb dX0_act_124 rfl (lv_at hl 4 rfl) ?_
    refine zc_v (wr := [aI cI a0 256 mem, aI cI b0 8 regs, aI cI c0 32 kept]) (W0 := [oM q0 a0 b0 c0 pl st sp po]) (wl2 := fun (u : Unit) => [oM q0 a0 b0 c0 (jPl 11 (regs r) y pl) st sp po, aI cI a0 256 mem, aI cI b0 8 regs, aI cI c0 32 kept]) (As := [.int (iZ (11)), .int (iZ (regs r)), .int (iZ (y))]) (rest := []) hx hb hml hown hts hp (c_X0_jump l G cI H.size q0 a0 b0 c0 pl st sp po 11 (regs r) y (by omega) (by omega)) zPre_blind (z_pre hp [0] rfl (by decide) [.ref q0, .int (iZ (11)), .int (iZ (regs r)), .int (iZ (y))]) (cwV 3 hts gX0_act_X0_jump rfl rfl rfl (by decide +kernel) ⟨Nat.le_of_ble_eq_true rfl, Nat.le_of_ble_eq_true rfl⟩) [0] [1, 2, 3] [3, 0, 1, 2] rfl rfl ⟨by decide, by decide, by decide⟩ (fun _ => rfl) 0 0 rfl rfl rfl rfl hl.1 rfl (Nat.le_of_ble_eq_true rfl) dX0_act_125 ⟨Nat.le_of_ble_eq_true rfl, Nat.le_of_ble_eq_true rfl⟩ (fun u H locs hq22 hp => ?_)
    refine lv_goto (tgt := 194) hx hb dX0_act_128 (by decide) ?_
    have hp : Hp G cI A s H locs [oM q0 a0 b0 c0 (aPl regs 11 r y pl) st sp po, aI cI a0 256 mem, aI cI b0 8 regs, aI cI c0 32 kept] := by
      have e9 : (aPl regs 11 r y pl : Int) = jPl 11 (regs r) y pl := by unfold aPl jPl; (repeat' split) <;> omega
      rw [e9]; exact hp
    exact hret _ _ _ _ _ _ () (trivial) hp dX0_act_194 (Nat.le_of_ble_eq_true rfl) (Nat.le_of_ble_eq_true rfl)
  by_cases hk23 : k = 12
  · skip
    refine z_top (12) hk23 ?_
    refine z_tsI (off := 158) (tgt := 170) hx hb dX0_act_12 (by decide) (by decide) (by decide) (by decide +kernel) (by decide) ?_
    subst hk23
    refine lv_aload_n hx hb dX0_act_170 rfl (lv_at hl 1 rfl) ?_
    refine z_get hx hb hts hi0 hown hp 0 rfl rfl 1 (by decide) f15 rfl dX0_act_171 ?_
    refine lv_iload_n hx hb dX0_act_174 rfl (lv_at hl 3 rfl) ?_
    refine lv_aload_n hx hb dX0_act_175 rfl (lv_at hl 1 rfl) ?_
    refine lv_iload_n hx hb dX0_act_176 rfl (lv_at hl 2 rfl) ?_
    refine lv_aload_n hx hb dX0_act_177 rfl (lv_at hl 1 rfl) ?_
    refine z_get hx hb hts hi0 hown hp 0 rfl rfl 1 (by decide) f15 rfl dX0_act_178 ?_
    refine lv_iload_n hx hb dX0_act_181 rfl (lv_at hl 3 rfl) ?_
    refine z_iald hx hb hp 2 rfl (r) (by omega) dX0_act_182 (regs r) (rfl) ?_
    refine lv_iload hx hb dX0_act_183 (lv_at hl 0 rfl) ?_
    refine lv_iload_n hx hb dX0_act_185 rfl (lv_at hl 4 rfl) ?_
    refine zc_i (wr := [aI cI b0 8 regs, aI cI c0 32 kept]) (W0 := [oM q0 a0 b0 c0 pl st sp po, aI cI a0 256 mem]) (wl2 := fun (u : Unit) => [oM q0 a0 b0 c0 pl st sp po, aI cI a0 256 mem, aI cI b0 8 regs, aI cI c0 32 kept]) (As := [.int (iZ (12)), .int (iZ (regs r)), .int (iZ (regs ((y % 8).toNat))), .int (iZ (y))]) (rest := [.int (iZ (↑r)), .ref b0]) hx hb hml hown hts hp (c_X0_reckon l G cI H.size q0 a0 b0 c0 mem pl st sp po 12 (regs r) (regs (y % 8).toNat) y (by omega) (by omega) (by omega)) zPre_blind (z_pre hp [0, 1] rfl (by decide) [.ref q0, .int (iZ (12)), .int (iZ (regs r)), .int (iZ (regs ((y % 8).toNat))), .int (iZ (y))]) (cwV 4 hts gX0_act_X0_reckon rfl rfl rfl (by decide +kernel) ⟨Nat.le_of_ble_eq_true rfl, Nat.le_of_ble_eq_true rfl⟩) [0, 1] [2, 3] [2, 3, 0, 1] rfl rfl ⟨by decide, by decide, by decide⟩ (fun _ => rfl) 0 0 rfl rfl rfl rfl hl.1 rfl (Nat.le_of_ble_eq_true rfl) dX0_act_186 ⟨Nat.le_of_ble_eq_true rfl, Nat.le_of_ble_eq_true rfl⟩ (fun rv u H locs hq24 hp => ?_)
    obtain rfl : rv = iZ (rVal mem 12 (regs r) (regs (y % 8).toNat) y) := hq24
    refine z_sipush hx hb dX0_act_189 (by decide +kernel) ?_
    refine z_iand hx hb (aVal mem regs 12 r y) (by rw [iZ_and255]; exact congrArg iZ (rVal_m (by omega) h_mem h_regs h_r h_y)) dX0_act_192 ?_
    refine z_iast hx hb hp 2 rfl (r) (by omega) dX0_act_193 (ws' := [oM q0 a0 b0 c0 pl st sp po, aI cI a0 256 mem, aI cI b0 8 (upZ regs r (aVal mem regs 12 r y)), aI cI c0 32 kept]) rfl (fun H locs hp => ?_)
    exact hret _ _ _ _ _ _ () (trivial) hp dX0_act_194 (Nat.le_of_ble_eq_true rfl) (Nat.le_of_ble_eq_true rfl)
  by_cases hk25 : k = 13
  · skip
    refine z_top (13) hk25 ?_
    refine z_tsI (off := 158) (tgt := 170) hx hb dX0_act_12 (by decide) (by decide) (by decide) (by decide +kernel) (by decide) ?_
    subst hk25
    refine lv_aload_n hx hb dX0_act_170 rfl (lv_at hl 1 rfl) ?_
    refine z_get hx hb hts hi0 hown hp 0 rfl rfl 1 (by decide) f15 rfl dX0_act_171 ?_
    refine lv_iload_n hx hb dX0_act_174 rfl (lv_at hl 3 rfl) ?_
    refine lv_aload_n hx hb dX0_act_175 rfl (lv_at hl 1 rfl) ?_
    refine lv_iload_n hx hb dX0_act_176 rfl (lv_at hl 2 rfl) ?_
    refine lv_aload_n hx hb dX0_act_177 rfl (lv_at hl 1 rfl) ?_
    refine z_get hx hb hts hi0 hown hp 0 rfl rfl 1 (by decide) f15 rfl dX0_act_178 ?_
    refine lv_iload_n hx hb dX0_act_181 rfl (lv_at hl 3 rfl) ?_
    refine z_iald hx hb hp 2 rfl (r) (by omega) dX0_act_182 (regs r) (rfl) ?_
    refine lv_iload hx hb dX0_act_183 (lv_at hl 0 rfl) ?_
    refine lv_iload_n hx hb dX0_act_185 rfl (lv_at hl 4 rfl) ?_
    refine zc_i (wr := [aI cI b0 8 regs, aI cI c0 32 kept]) (W0 := [oM q0 a0 b0 c0 pl st sp po, aI cI a0 256 mem]) (wl2 := fun (u : Unit) => [oM q0 a0 b0 c0 pl st sp po, aI cI a0 256 mem, aI cI b0 8 regs, aI cI c0 32 kept]) (As := [.int (iZ (13)), .int (iZ (regs r)), .int (iZ (regs ((y % 8).toNat))), .int (iZ (y))]) (rest := [.int (iZ (↑r)), .ref b0]) hx hb hml hown hts hp (c_X0_reckon l G cI H.size q0 a0 b0 c0 mem pl st sp po 13 (regs r) (regs (y % 8).toNat) y (by omega) (by omega) (by omega)) zPre_blind (z_pre hp [0, 1] rfl (by decide) [.ref q0, .int (iZ (13)), .int (iZ (regs r)), .int (iZ (regs ((y % 8).toNat))), .int (iZ (y))]) (cwV 4 hts gX0_act_X0_reckon rfl rfl rfl (by decide +kernel) ⟨Nat.le_of_ble_eq_true rfl, Nat.le_of_ble_eq_true rfl⟩) [0, 1] [2, 3] [2, 3, 0, 1] rfl rfl ⟨by decide, by decide, by decide⟩ (fun _ => rfl) 0 0 rfl rfl rfl rfl hl.1 rfl (Nat.le_of_ble_eq_true rfl) dX0_act_186 ⟨Nat.le_of_ble_eq_true rfl, Nat.le_of_ble_eq_true rfl⟩ (fun rv u H locs hq26 hp => ?_)
    obtain rfl : rv = iZ (rVal mem 13 (regs r) (regs (y % 8).toNat) y) := hq26
    refine z_sipush hx hb dX0_act_189 (by decide +kernel) ?_
    refine z_iand hx hb (aVal mem regs 13 r y) (by rw [iZ_and255]; exact congrArg iZ (rVal_m (by omega) h_mem h_regs h_r h_y)) dX0_act_192 ?_
    refine z_iast hx hb hp 2 rfl (r) (by omega) dX0_act_193 (ws' := [oM q0 a0 b0 c0 pl st sp po, aI cI a0 256 mem, aI cI b0 8 (upZ regs r (aVal mem regs 13 r y)), aI cI c0 32 kept]) rfl (fun H locs hp => ?_)
    exact hret _ _ _ _ _ _ () (trivial) hp dX0_act_194 (Nat.le_of_ble_eq_true rfl) (Nat.le_of_ble_eq_true rfl)
  by_cases hk27 : k = 14
  · skip
    refine z_top (14) hk27 ?_
    refine z_tsI (off := 119) (tgt := 131) hx hb dX0_act_12 (by decide) (by decide) (by decide) (by decide +kernel) (by decide) ?_
    subst hk27
    refine lv_aload_n hx hb dX0_act_131 rfl (lv_at hl 1 rfl) ?_
    refine z_get hx hb hts hi0 hown hp 0 rfl rfl 2 (by decide) f18 rfl dX0_act_132 ?_
    refine lv_aload_n hx hb dX0_act_135 rfl (lv_at hl 1 rfl) ?_
    refine z_get hx hb hts hi0 hown hp 0 rfl rfl 6 (by decide) f25 rfl dX0_act_136 ?_
    refine z_bipush hx hb dX0_act_139 (by decide +kernel) ?_
    refine z_irem hx hb (po % 32) (by omega) dX0_act_141 ?_
    refine lv_aload_n hx hb dX0_act_142 rfl (lv_at hl 1 rfl) ?_
    refine z_get hx hb hts hi0 hown hp 0 rfl rfl 1 (by decide) f15 rfl dX0_act_143 ?_
    refine lv_iload_n hx hb dX0_act_146 rfl (lv_at hl 3 rfl) ?_
    refine z_iald hx hb hp 2 rfl (r) (by omega) dX0_act_147 (regs r) (rfl) ?_
    refine z_iast hx hb hp 3 rfl ((po % 32).toNat) (by omega) dX0_act_148 (ws' := [oM q0 a0 b0 c0 pl st sp po, aI cI a0 256 mem, aI cI b0 8 regs, aI cI c0 32 (upZ kept ((po % 32).toNat) (regs r))]) rfl (fun H locs hp => ?_)
    refine lv_aload_n hx hb dX0_act_149 rfl (lv_at hl 1 rfl) ?_
    refine lv_dup hx hb dX0_act_150 rfl ?_
    refine z_get hx hb hts hi0 hown hp 0 rfl rfl 6 (by decide) f25 rfl dX0_act_151 ?_
    refine z_iconst hx hb dX0_act_154 ?_
    refine z_iadd hx hb (po + 1) (rfl) dX0_act_155 ?_
    refine z_put hx hb hts hi0 tyX0 tyX0_ok nmX0 hown hp 0 rfl rfl 6 (by decide) f25 rfl (rfl) (rfl) (Nat.le_of_ble_eq_true rfl) dX0_act_156 (ws' := [oM q0 a0 b0 c0 pl st sp (po + 1), aI cI a0 256 mem, aI cI b0 8 regs, aI cI c0 32 (upZ kept ((po % 32).toNat) (regs r))]) rfl (fun H locs hp => ?_)
    refine lv_goto (tgt := 194) hx hb dX0_act_159 (by decide) ?_
    exact hret _ _ _ _ _ _ () (trivial) hp dX0_act_194 (Nat.le_of_ble_eq_true rfl) (Nat.le_of_ble_eq_true rfl)
  by_cases hk28 : k = 15
  · skip
    refine z_top (15) hk28 ?_
    refine z_tsI (off := 150) (tgt := 162) hx hb dX0_act_12 (by decide) (by decide) (by decide) (by decide +kernel) (by decide) ?_
    subst hk28
    refine lv_aload_n hx hb dX0_act_162 rfl (lv_at hl 1 rfl) ?_
    refine z_iconst hx hb dX0_act_163 ?_
    refine z_put hx hb hts hi0 tyX0 tyX0_ok nmX0 hown hp 0 rfl rfl 4 (by decide) f21 rfl (rfl) (rfl) (Nat.le_of_ble_eq_true rfl) dX0_act_164 (ws' := [oM q0 a0 b0 c0 pl 2 sp po, aI cI a0 256 mem, aI cI b0 8 regs, aI cI c0 32 kept]) rfl (fun H locs hp => ?_)
    refine lv_goto (tgt := 194) hx hb dX0_act_167 (by decide) ?_
    exact hret _ _ _ _ _ _ () (trivial) hp dX0_act_194 (Nat.le_of_ble_eq_true rfl) (Nat.le_of_ble_eq_true rfl)
  exfalso; omega
abbrev rmX0_step : Room := { frames := 2, cells := 0, slots := 0, locals := 70 }
set_option maxRecDepth 100000 in
set_option maxHeartbeats 4000000 in
theorem c_X0_step (l : Launch) (G : va_G) (cI : ClassId) (sz : Nat) (q0 a0 b0 c0 : Nat) (w : MS) (b : Int) (h_0 : MB w b) (h_1 : b < 2147483646) : Met l yX0_step wsX0_step rmX0_step (zPre G cI [oM q0 a0 b0 c0 w.2.2.2.1 w.2.2.2.2.1 w.2.2.2.2.2.1 w.2.2.2.2.2.2, aI cI a0 256 w.1, aI cI b0 8 w.2.1, aI cI c0 32 w.2.2.1] sz [.ref q0]) (va_Qv (fun (u : Unit) => True) (fun (u : Unit) t => zB G cI (va_A [oM q0 a0 b0 c0 w.2.2.2.1 w.2.2.2.2.1 w.2.2.2.2.2.1 w.2.2.2.2.2.2, aI cI a0 256 w.1, aI cI b0 8 w.2.1, aI cI c0 32 w.2.2.1] sz) [oM q0 a0 b0 c0 ((mstep w).2.2.2.1) ((mstep w).2.2.2.2.1) ((mstep w).2.2.2.2.2.1) ((mstep w).2.2.2.2.2.2), aI cI a0 256 ((mstep w).1), aI cI b0 8 ((mstep w).2.1), aI cI c0 32 ((mstep w).2.2.1)] t) (va_A [oM q0 a0 b0 c0 w.2.2.2.1 w.2.2.2.2.1 w.2.2.2.2.2.1 w.2.2.2.2.2.2, aI cI a0 256 w.1, aI cI b0 8 w.2.1, aI cI c0 32 w.2.2.1] sz)) 0 0 (va_A [oM q0 a0 b0 c0 w.2.2.2.1 w.2.2.2.2.1 w.2.2.2.2.2.1 w.2.2.2.2.2.2, aI cI a0 256 w.1, aI cI b0 8 w.2.1, aI cI c0 32 w.2.2.1] sz) := by
  refine zm_v (W1 := fun (u : Unit) => [oM q0 a0 b0 c0 ((mstep w).2.2.2.1) ((mstep w).2.2.2.2.1) ((mstep w).2.2.2.2.2.1) ((mstep w).2.2.2.2.2.2), aI cI a0 256 ((mstep w).1), aI cI b0 8 ((mstep w).2.1), aI cI c0 32 ((mstep w).2.2.1)]) (cc := cX0_step) (maxL := 3) (by decide) rfl (Nat.le_of_ble_eq_true rfl) ?_
  intro p e s m args below meth c A Q ls hsz hx hb hml hown hts hnm hret hp hl
  have hl : lv_has ls 3 [(0, .ref q0)] := hl
  have hi0 : ∀ w ∈ wsX00, w ∈ wsX0_step := fun w h => List.mem_cons_of_mem _ (List.mem_append_right _ (h))
  have f9 := hts (.fieldLink RX0 9 "SelfOpener$Machine" "memory" "[I") (List.mem_of_getElem? (i := 1) rfl)
  have f28 := hts (.fieldLink RX0 28 "SelfOpener$Machine" "place" "I") (List.mem_of_getElem? (i := 2) rfl)
  have f31 := hts (.fieldLink RX0 31 "SelfOpener$Machine" "steps" "I") (List.mem_of_getElem? (i := 3) rfl)
  obtain ⟨h1, h2, h3, h4, h5, h6, h7⟩ := h_0
  have hxb : 0 ≤ w.1 w.2.2.2.1.toNat ∧ w.1 w.2.2.2.1.toNat < 256 := h1 _ (by omega)
  have hyb : 0 ≤ w.1 ((w.2.2.2.1 + 1) % 256).toNat ∧ w.1 ((w.2.2.2.1 + 1) % 256).toNat < 256 := h1 _ (by omega)
  suffices hw : ∀ (H : Heap) (locs : List Loc), Hp G cI A s H locs [oM q0 a0 b0 c0 w.2.2.2.1 w.2.2.2.2.1 w.2.2.2.2.2.1 w.2.2.2.2.2.2, aI cI a0 256 w.1, aI cI b0 8 w.2.1, aI cI c0 32 w.2.2.1] → W p l e rmX0_step s m args below meth c H locs 0 0 Q (F0 m 0 ls []) from hw _ _ hp
  clear hp; intro H locs hp
  refine lv_aload_n hx hb dX0_step_0 rfl (lv_at hl 0 rfl) ?_
  refine z_get hx hb hts hi0 hown hp 0 rfl rfl 0 (by decide) f9 rfl dX0_step_1 ?_
  refine lv_aload_n hx hb dX0_step_4 rfl (lv_at hl 0 rfl) ?_
  refine z_get hx hb hts hi0 hown hp 0 rfl rfl 3 (by decide) f28 rfl dX0_step_5 ?_
  refine z_iald hx hb hp 1 rfl (w.2.2.2.1.toNat) (by omega) dX0_step_8 (w.1 w.2.2.2.1.toNat) (rfl) ?_
  refine lv_istore_n (lv' := [(1, .int (iZ (w.1 w.2.2.2.1.toNat))), (0, .ref q0)]) hx hb dX0_step_9 rfl hl (by decide) rfl (fun ls hl => ?_)
  refine lv_aload_n hx hb dX0_step_10 rfl (lv_at hl 1 rfl) ?_
  refine z_get hx hb hts hi0 hown hp 0 rfl rfl 0 (by decide) f9 rfl dX0_step_11 ?_
  refine lv_aload_n hx hb dX0_step_14 rfl (lv_at hl 1 rfl) ?_
  refine z_get hx hb hts hi0 hown hp 0 rfl rfl 3 (by decide) f28 rfl dX0_step_15 ?_
  refine z_iconst hx hb dX0_step_18 ?_
  refine z_iadd hx hb (w.2.2.2.1 + 1) (rfl) dX0_step_19 ?_
  refine z_sipush hx hb dX0_step_20 (by decide +kernel) ?_
  refine z_iand hx hb ((w.2.2.2.1 + 1) % 256) (iZ_and255 _) dX0_step_23 ?_
  refine z_iald hx hb hp 1 rfl (((w.2.2.2.1 + 1) % 256).toNat) (by omega) dX0_step_24 (w.1 (((w.2.2.2.1 + 1) % 256).toNat)) (rfl) ?_
  refine lv_istore_n (lv' := [(2, .int (iZ (w.1 (((w.2.2.2.1 + 1) % 256).toNat)))), (1, .int (iZ (w.1 w.2.2.2.1.toNat))), (0, .ref q0)]) hx hb dX0_step_25 rfl hl (by decide) rfl (fun ls hl => ?_)
  refine lv_aload_n hx hb dX0_step_26 rfl (lv_at hl 2 rfl) ?_
  refine lv_aload_n hx hb dX0_step_27 rfl (lv_at hl 2 rfl) ?_
  refine z_get hx hb hts hi0 hown hp 0 rfl rfl 3 (by decide) f28 rfl dX0_step_28 ?_
  refine z_iconst hx hb dX0_step_31 ?_
  refine z_iadd hx hb (w.2.2.2.1 + 2) (rfl) dX0_step_32 ?_
  refine z_sipush hx hb dX0_step_33 (by decide +kernel) ?_
  refine z_iand hx hb ((w.2.2.2.1 + 2) % 256) (iZ_and255 _) dX0_step_36 ?_
  refine z_put hx hb hts hi0 tyX0 tyX0_ok nmX0 hown hp 0 rfl rfl 3 (by decide) f28 rfl (rfl) (rfl) (Nat.le_of_ble_eq_true rfl) dX0_step_37 (ws' := [oM q0 a0 b0 c0 ((w.2.2.2.1 + 2) % 256) w.2.2.2.2.1 w.2.2.2.2.2.1 w.2.2.2.2.2.2, aI cI a0 256 w.1, aI cI b0 8 w.2.1, aI cI c0 32 w.2.2.1]) rfl (fun H locs hp => ?_)
  refine lv_aload_n hx hb dX0_step_40 rfl (lv_at hl 2 rfl) ?_
  refine lv_dup hx hb dX0_step_41 rfl ?_
  refine z_get hx hb hts hi0 hown hp 0 rfl rfl 5 (by decide) f31 rfl dX0_step_42 ?_
  refine z_iconst hx hb dX0_step_45 ?_
  refine z_iadd hx hb (w.2.2.2.2.2.1 + 1) (rfl) dX0_step_46 ?_
  refine z_put hx hb hts hi0 tyX0 tyX0_ok nmX0 hown hp 0 rfl rfl 5 (by decide) f31 rfl (rfl) (rfl) (Nat.le_of_ble_eq_true rfl) dX0_step_47 (ws' := [oM q0 a0 b0 c0 ((w.2.2.2.1 + 2) % 256) w.2.2.2.2.1 (w.2.2.2.2.2.1 + 1) w.2.2.2.2.2.2, aI cI a0 256 w.1, aI cI b0 8 w.2.1, aI cI c0 32 w.2.2.1]) rfl (fun H locs hp => ?_)
  refine lv_aload_n hx hb dX0_step_50 rfl (lv_at hl 2 rfl) ?_
  refine lv_iload_n hx hb dX0_step_51 rfl (lv_at hl 1 rfl) ?_
  refine z_iconst hx hb dX0_step_52 ?_
  refine z_ishr hx hb (w.1 w.2.2.2.1.toNat / 16) (zshr_4 ⟨by omega, by omega⟩) dX0_step_53 ?_
  refine lv_iload_n hx hb dX0_step_54 rfl (lv_at hl 1 rfl) ?_
  refine z_bipush hx hb dX0_step_55 (by decide +kernel) ?_
  refine z_iand hx hb ((w.1 w.2.2.2.1.toNat) % 8) (iZ_and7 _) dX0_step_57 ?_
  refine z_top (↑((w.1 w.2.2.2.1.toNat % 8).toNat)) (by omega) ?_
  refine lv_iload_n hx hb dX0_step_58 rfl (lv_at hl 0 rfl) ?_
  refine zc_v (wr := []) (W0 := [oM q0 a0 b0 c0 ((w.2.2.2.1 + 2) % 256) w.2.2.2.2.1 (w.2.2.2.2.2.1 + 1) w.2.2.2.2.2.2, aI cI a0 256 w.1, aI cI b0 8 w.2.1, aI cI c0 32 w.2.2.1]) (wl2 := fun (u : Unit) => [oM q0 a0 b0 c0 (aPl w.2.1 (w.1 w.2.2.2.1.toNat / 16) ((w.1 w.2.2.2.1.toNat % 8).toNat) (w.1 ((w.2.2.2.1 + 1) % 256).toNat) ((w.2.2.2.1 + 2) % 256)) (aSt (w.1 w.2.2.2.1.toNat / 16) w.2.2.2.2.1) (w.2.2.2.2.2.1 + 1) (aPo (w.1 w.2.2.2.1.toNat / 16) w.2.2.2.2.2.2), aI cI a0 256 (aMem w.1 w.2.1 (w.1 w.2.2.2.1.toNat / 16) ((w.1 w.2.2.2.1.toNat % 8).toNat) (w.1 ((w.2.2.2.1 + 1) % 256).toNat)), aI cI b0 8 (aRegs w.1 w.2.1 (w.1 w.2.2.2.1.toNat / 16) ((w.1 w.2.2.2.1.toNat % 8).toNat) (w.1 ((w.2.2.2.1 + 1) % 256).toNat)), aI cI c0 32 (aKept w.2.1 w.2.2.1 (w.1 w.2.2.2.1.toNat / 16) ((w.1 w.2.2.2.1.toNat % 8).toNat) w.2.2.2.2.2.2)]) (As := [.int (iZ (w.1 w.2.2.2.1.toNat / 16)), .int (iZ (↑((w.1 w.2.2.2.1.toNat % 8).toNat))), .int (iZ (w.1 (((w.2.2.2.1 + 1) % 256).toNat)))]) (rest := []) hx hb hml hown hts hp (c_X0_act l G cI H.size q0 a0 b0 c0 w.1 w.2.1 w.2.2.1 ((w.2.2.2.1 + 2) % 256) w.2.2.2.2.1 (w.2.2.2.2.2.1 + 1) w.2.2.2.2.2.2 (w.1 w.2.2.2.1.toNat / 16) ((w.1 w.2.2.2.1.toNat % 8).toNat) (w.1 ((w.2.2.2.1 + 1) % 256).toNat) (by omega) (by omega) (by omega) (h1) (h2) (by omega)) zPre_blind (z_pre hp [0, 1, 2, 3] rfl (by decide) [.ref q0, .int (iZ (w.1 w.2.2.2.1.toNat / 16)), .int (iZ (↑((w.1 w.2.2.2.1.toNat % 8).toNat))), .int (iZ (w.1 (((w.2.2.2.1 + 1) % 256).toNat)))]) (cwV 3 hts gX0_step_X0_act rfl rfl rfl (by decide +kernel) ⟨Nat.le_of_ble_eq_true rfl, Nat.le_of_ble_eq_true rfl⟩) [0, 1, 2, 3] [] [0, 1, 2, 3] rfl rfl ⟨by decide, by decide, by decide⟩ (fun _ => rfl) 0 0 rfl rfl rfl rfl hl.1 rfl (Nat.le_of_ble_eq_true rfl) dX0_step_59 ⟨Nat.le_of_ble_eq_true rfl, Nat.le_of_ble_eq_true rfl⟩ (fun u H locs hq1 hp => ?_)
  exact hret _ _ _ _ _ _ () (trivial) hp dX0_step_62 (Nat.le_of_ble_eq_true rfl) (Nat.le_of_ble_eq_true rfl)
