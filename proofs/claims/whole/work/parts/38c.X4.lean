abbrev rmX4_clear : Room := { frames := 0, cells := 0, slots := 0, locals := 0 }
set_option maxRecDepth 100000 in
set_option maxHeartbeats 4000000 in
theorem c_X4_clear (l : Launch) (G : va_G) (cI : ClassId) (sz : Nat) (mq mp m1 m2 m3 m4 m5 m6 m7 m8 m9 : Nat) (n org : Nat) (th ent kn gp ln pl st sp po : Int) (mem regs : Nat → Int) (fp : Int)  : Met l yX4_clear wsX4_clear rmX4_clear (zPre G cI [oR mq th (↑n) mp (↑org) ent kn gp ln m1 m2 m3 m4 m5 m6 m7 m8 pl st sp po m9, aI cI m7 256 mem, aI cI m8 8 regs] sz [.ref mq, .int (iZ (fp))]) (va_Qv (fun (u : Unit) => True) (fun (u : Unit) t => zB G cI (va_A [oR mq th (↑n) mp (↑org) ent kn gp ln m1 m2 m3 m4 m5 m6 m7 m8 pl st sp po m9, aI cI m7 256 mem, aI cI m8 8 regs] sz) [oR mq th (↑n) mp (↑org) ent kn gp ln m1 m2 m3 m4 m5 m6 m7 m8 fp 0 0 0 m9, aI cI m7 256 (fun _ => 0), aI cI m8 8 (fun _ => 0)] t) (va_A [oR mq th (↑n) mp (↑org) ent kn gp ln m1 m2 m3 m4 m5 m6 m7 m8 pl st sp po m9, aI cI m7 256 mem, aI cI m8 8 regs] sz)) 0 0 (va_A [oR mq th (↑n) mp (↑org) ent kn gp ln m1 m2 m3 m4 m5 m6 m7 m8 pl st sp po m9, aI cI m7 256 mem, aI cI m8 8 regs] sz) := by
  refine zm_v (W1 := fun (u : Unit) => [oR mq th (↑n) mp (↑org) ent kn gp ln m1 m2 m3 m4 m5 m6 m7 m8 fp 0 0 0 m9, aI cI m7 256 (fun _ => 0), aI cI m8 8 (fun _ => 0)]) (cc := cX4_clear) (maxL := 3) (by decide) rfl (Nat.le_of_ble_eq_true rfl) ?_
  intro p e s m args below meth c A Q ls hsz hx hb hml hown hts hnm hret hp hl
  have hl : lv_has ls 3 [(0, .ref mq), (1, .int (iZ (fp)))] := hl
  have hi4 : ∀ w ∈ wsX40, w ∈ wsX4_clear := fun w h => List.mem_cons_of_mem _ (List.mem_append_right _ (h))
  have f88 := hts (.fieldLink RX4 88 "SelfOpenerModel" "place" "I") (List.mem_of_getElem? (i := 3) rfl)
  have f37 := hts (.fieldLink RX4 37 "SelfOpenerModel" "state" "I") (List.mem_of_getElem? (i := 4) rfl)
  have f91 := hts (.fieldLink RX4 91 "SelfOpenerModel" "steps" "I") (List.mem_of_getElem? (i := 5) rfl)
  have f94 := hts (.fieldLink RX4 94 "SelfOpenerModel" "outs" "I") (List.mem_of_getElem? (i := 6) rfl)
  have f34 := hts (.fieldLink RX4 34 "SelfOpenerModel" "registers" "[I") (List.mem_of_getElem? (i := 2) rfl)
  have f31 := hts (.fieldLink RX4 31 "SelfOpenerModel" "memory" "[I") (List.mem_of_getElem? (i := 1) rfl)
  suffices hw : ∀ (H : Heap) (locs : List Loc), Hp G cI A s H locs [oR mq th (↑n) mp (↑org) ent kn gp ln m1 m2 m3 m4 m5 m6 m7 m8 pl st sp po m9, aI cI m7 256 mem, aI cI m8 8 regs] → W p l e rmX4_clear s m args below meth c H locs 0 0 Q (F0 m 0 ls []) from hw _ _ hp
  clear hp; intro H locs hp
  refine z_iconst hx hb dX4_clear_0 ?_
  refine lv_istore_n (lv' := [(2, .int (iZ (0))), (0, .ref mq), (1, .int (iZ (fp)))]) hx hb dX4_clear_1 rfl hl (by decide) rfl (fun ls hl => ?_)
  have lp1 : ∀ (N_lp1 : Nat) (i : Nat) (f : Nat → Int) (H : Heap) (locs : List Loc) (ls : Array Slot), (i ≤ 256) → (∀ j, j < i → f j = 0) → (256 - i) < N_lp1 → Hp G cI A s H locs [oR mq th (↑n) mp (↑org) ent kn gp ln m1 m2 m3 m4 m5 m6 m7 m8 pl st sp po m9, aI cI m7 256 f, aI cI m8 8 regs] → lv_has ls 3 [(2, .int (iZ (↑i))), (0, .ref mq), (1, .int (iZ (fp)))] → W p l e rmX4_clear s m args below meth c H locs 0 0 Q (F0 m 2 ls []) := by
    intro N_lp1
    induction N_lp1 with
    | zero => intros; exfalso; omega
    | succ N_lp1 ih_lp1 =>
      intro i f H locs ls hi hf hN hp hl
      refine lv_iload_n hx hb dX4_clear_2 rfl (lv_at hl 0 rfl) ?_
      refine z_sipush hx hb dX4_clear_3 (by decide +kernel) ?_
      refine z_icmp_ge (tgt := 22) hx hb dX4_clear_6 (by decide) (by omega) (fun h2 => ?_) (fun h2 => ?_)
      · skip
        have hp := z_alike hp 1 rfl (fun _ => 0) (fun j hj => (hf j (by omega)).symm) (ws' := [oR mq th (↑n) mp (↑org) ent kn gp ln m1 m2 m3 m4 m5 m6 m7 m8 pl st sp po m9, aI cI m7 256 (fun _ => 0), aI cI m8 8 regs]) rfl
        refine z_iconst hx hb dX4_clear_22 ?_
        refine lv_istore_n (lv' := [(2, .int (iZ (0))), (0, .ref mq), (1, .int (iZ (fp)))]) hx hb dX4_clear_23 rfl hl (by decide) rfl (fun ls hl => ?_)
        have lp3 : ∀ (N_lp3 : Nat) (i : Nat) (f : Nat → Int) (H : Heap) (locs : List Loc) (ls : Array Slot), (i ≤ 8) → (∀ j, j < i → f j = 0) → (8 - i) < N_lp3 → Hp G cI A s H locs [oR mq th (↑n) mp (↑org) ent kn gp ln m1 m2 m3 m4 m5 m6 m7 m8 pl st sp po m9, aI cI m7 256 (fun _ => 0), aI cI m8 8 f] → lv_has ls 3 [(2, .int (iZ (↑i))), (0, .ref mq), (1, .int (iZ (fp)))] → W p l e rmX4_clear s m args below meth c H locs 0 0 Q (F0 m 24 ls []) := by
          intro N_lp3
          induction N_lp3 with
          | zero => intros; exfalso; omega
          | succ N_lp3 ih_lp3 =>
            intro i f H locs ls hi hf hN hp hl
            refine lv_iload_n hx hb dX4_clear_24 rfl (lv_at hl 0 rfl) ?_
            refine z_bipush hx hb dX4_clear_25 (by decide +kernel) ?_
            refine z_icmp_ge (tgt := 43) hx hb dX4_clear_27 (by decide) (by omega) (fun h4 => ?_) (fun h4 => ?_)
            · skip
              have hp := z_alike hp 2 rfl (fun _ => 0) (fun j hj => (hf j (by omega)).symm) (ws' := [oR mq th (↑n) mp (↑org) ent kn gp ln m1 m2 m3 m4 m5 m6 m7 m8 pl st sp po m9, aI cI m7 256 (fun _ => 0), aI cI m8 8 (fun _ => 0)]) rfl
              refine lv_aload_n hx hb dX4_clear_43 rfl (lv_at hl 1 rfl) ?_
              refine lv_iload_n hx hb dX4_clear_44 rfl (lv_at hl 2 rfl) ?_
              refine z_put hx hb hts hi4 tyX4 tyX4_ok nmX4 hown hp 0 rfl rfl 16 (by decide) f88 rfl (rfl) (rfl) (Nat.le_of_ble_eq_true rfl) dX4_clear_45 (ws' := [oR mq th (↑n) mp (↑org) ent kn gp ln m1 m2 m3 m4 m5 m6 m7 m8 fp st sp po m9, aI cI m7 256 (fun _ => 0), aI cI m8 8 (fun _ => 0)]) rfl (fun H locs hp => ?_)
              refine lv_aload_n hx hb dX4_clear_48 rfl (lv_at hl 1 rfl) ?_
              refine z_iconst hx hb dX4_clear_49 ?_
              refine z_put hx hb hts hi4 tyX4 tyX4_ok nmX4 hown hp 0 rfl rfl 17 (by decide) f37 rfl (rfl) (rfl) (Nat.le_of_ble_eq_true rfl) dX4_clear_50 (ws' := [oR mq th (↑n) mp (↑org) ent kn gp ln m1 m2 m3 m4 m5 m6 m7 m8 fp 0 sp po m9, aI cI m7 256 (fun _ => 0), aI cI m8 8 (fun _ => 0)]) rfl (fun H locs hp => ?_)
              refine lv_aload_n hx hb dX4_clear_53 rfl (lv_at hl 1 rfl) ?_
              refine z_iconst hx hb dX4_clear_54 ?_
              refine z_put hx hb hts hi4 tyX4 tyX4_ok nmX4 hown hp 0 rfl rfl 18 (by decide) f91 rfl (rfl) (rfl) (Nat.le_of_ble_eq_true rfl) dX4_clear_55 (ws' := [oR mq th (↑n) mp (↑org) ent kn gp ln m1 m2 m3 m4 m5 m6 m7 m8 fp 0 0 po m9, aI cI m7 256 (fun _ => 0), aI cI m8 8 (fun _ => 0)]) rfl (fun H locs hp => ?_)
              refine lv_aload_n hx hb dX4_clear_58 rfl (lv_at hl 1 rfl) ?_
              refine z_iconst hx hb dX4_clear_59 ?_
              refine z_put hx hb hts hi4 tyX4 tyX4_ok nmX4 hown hp 0 rfl rfl 19 (by decide) f94 rfl (rfl) (rfl) (Nat.le_of_ble_eq_true rfl) dX4_clear_60 (ws' := [oR mq th (↑n) mp (↑org) ent kn gp ln m1 m2 m3 m4 m5 m6 m7 m8 fp 0 0 0 m9, aI cI m7 256 (fun _ => 0), aI cI m8 8 (fun _ => 0)]) rfl (fun H locs hp => ?_)
              exact hret _ _ _ _ _ _ () (trivial) hp dX4_clear_63 (Nat.le_of_ble_eq_true rfl) (Nat.le_of_ble_eq_true rfl)
            · skip
              refine lv_aload_n hx hb dX4_clear_30 rfl (lv_at hl 1 rfl) ?_
              refine z_get hx hb hts hi4 hown hp 0 rfl rfl 15 (by decide) f34 rfl dX4_clear_31 ?_
              refine lv_iload_n hx hb dX4_clear_34 rfl (lv_at hl 0 rfl) ?_
              refine z_iconst hx hb dX4_clear_35 ?_
              refine z_iast hx hb hp 2 rfl (i) (by omega) dX4_clear_36 (ws' := [oR mq th (↑n) mp (↑org) ent kn gp ln m1 m2 m3 m4 m5 m6 m7 m8 pl st sp po m9, aI cI m7 256 (fun _ => 0), aI cI m8 8 (upZ f i 0)]) rfl (fun H locs hp => ?_)
              refine z_iinc (k := 0) (lv' := [(2, .int (iZ (↑(i + 1)))), (0, .ref mq), (1, .int (iZ (fp)))]) hx hb (↑(i + 1)) (by omega) dX4_clear_37 hl rfl (by decide) rfl (fun ls hl => ?_)
              refine lv_goto (tgt := 24) hx hb dX4_clear_40 (by decide) ?_
              exact ih_lp3 (i + 1) (upZ f i 0) _ _ _ (by omega) (fun j hj => by unfold upZ; split; rfl; exact hf j (by omega)) (by omega) hp (lv_sub hl [0, 1, 2] rfl)
        exact lp3 _ 0 regs _ _ _ (by omega) (fun j hj => absurd hj (Nat.not_lt_zero j)) (Nat.lt_succ_self _) hp (lv_sub hl [0, 1, 2] rfl)
      · skip
        refine lv_aload_n hx hb dX4_clear_9 rfl (lv_at hl 1 rfl) ?_
        refine z_get hx hb hts hi4 hown hp 0 rfl rfl 14 (by decide) f31 rfl dX4_clear_10 ?_
        refine lv_iload_n hx hb dX4_clear_13 rfl (lv_at hl 0 rfl) ?_
        refine z_iconst hx hb dX4_clear_14 ?_
        refine z_iast hx hb hp 1 rfl (i) (by omega) dX4_clear_15 (ws' := [oR mq th (↑n) mp (↑org) ent kn gp ln m1 m2 m3 m4 m5 m6 m7 m8 pl st sp po m9, aI cI m7 256 (upZ f i 0), aI cI m8 8 regs]) rfl (fun H locs hp => ?_)
        refine z_iinc (k := 0) (lv' := [(2, .int (iZ (↑(i + 1)))), (0, .ref mq), (1, .int (iZ (fp)))]) hx hb (↑(i + 1)) (by omega) dX4_clear_16 hl rfl (by decide) rfl (fun ls hl => ?_)
        refine lv_goto (tgt := 2) hx hb dX4_clear_19 (by decide) ?_
        exact ih_lp1 (i + 1) (upZ f i 0) _ _ _ (by omega) (fun j hj => by unfold upZ; split; rfl; exact hf j (by omega)) (by omega) hp (lv_sub hl [0, 1, 2] rfl)
  exact lp1 _ 0 mem _ _ _ (by omega) (fun j hj => absurd hj (Nat.not_lt_zero j)) (Nat.lt_succ_self _) hp (lv_sub hl [0, 1, 2] rfl)
abbrev rmX4_load : Room := { frames := 1, cells := 0, slots := 0, locals := 40 }
set_option maxRecDepth 100000 in
set_option maxHeartbeats 4000000 in
theorem c_X4_load (l : Launch) (G : va_G) (cI : ClassId) (sz : Nat) (mq mp m1 m2 m3 m4 m5 m6 m7 m8 m9 : Nat) (n org : Nat) (th ent kn gp ln pl st sp po : Int) (mem regs : Nat → Int) (pb : Nat → Int) (h_n : n ≤ 160) (h_o : org < 256) : Met l yX4_load wsX4_load rmX4_load (zPre G cI [oR mq th (↑n) mp (↑org) ent kn gp ln m1 m2 m3 m4 m5 m6 m7 m8 pl st sp po m9, aI cI mp 160 pb, aI cI m7 256 mem, aI cI m8 8 regs] sz [.ref mq]) (va_Qv (fun (u : Int × (Nat → Int) × (Nat → Int) × Int × Int × Int × Int) => u.1 = (if org + n ≤ 256 then 0 else 1) ∧ (u.1 = 0 → u.2 = (cpZ pb (fun _ => 0) 0 org n, fun _ => 0, ent, 0, 0, 0)) ∧ (u.1 ≠ 0 → u.2 = (mem, regs, pl, st, sp, po))) (fun (u : Int × (Nat → Int) × (Nat → Int) × Int × Int × Int × Int) t => zB G cI (va_A [oR mq th (↑n) mp (↑org) ent kn gp ln m1 m2 m3 m4 m5 m6 m7 m8 pl st sp po m9, aI cI mp 160 pb, aI cI m7 256 mem, aI cI m8 8 regs] sz) [oR mq u.1 (↑n) mp (↑org) ent kn gp ln m1 m2 m3 m4 m5 m6 m7 m8 u.2.2.2.1 u.2.2.2.2.1 u.2.2.2.2.2.1 u.2.2.2.2.2.2 m9, aI cI mp 160 pb, aI cI m7 256 u.2.1, aI cI m8 8 u.2.2.1] t) (va_A [oR mq th (↑n) mp (↑org) ent kn gp ln m1 m2 m3 m4 m5 m6 m7 m8 pl st sp po m9, aI cI mp 160 pb, aI cI m7 256 mem, aI cI m8 8 regs] sz)) 0 0 (va_A [oR mq th (↑n) mp (↑org) ent kn gp ln m1 m2 m3 m4 m5 m6 m7 m8 pl st sp po m9, aI cI mp 160 pb, aI cI m7 256 mem, aI cI m8 8 regs] sz) := by
  refine zm_v (W1 := fun (u : Int × (Nat → Int) × (Nat → Int) × Int × Int × Int × Int) => [oR mq u.1 (↑n) mp (↑org) ent kn gp ln m1 m2 m3 m4 m5 m6 m7 m8 u.2.2.2.1 u.2.2.2.2.1 u.2.2.2.2.2.1 u.2.2.2.2.2.2 m9, aI cI mp 160 pb, aI cI m7 256 u.2.1, aI cI m8 8 u.2.2.1]) (cc := cX4_load) (maxL := 2) (by decide) rfl (Nat.le_of_ble_eq_true rfl) ?_
  intro p e s m args below meth c A Q ls hsz hx hb hml hown hts hnm hret hp hl
  have hl : lv_has ls 2 [(0, .ref mq)] := hl
  have hi4 : ∀ w ∈ wsX40, w ∈ wsX4_load := fun w h => List.mem_cons_of_mem _ (List.mem_append_right _ (h))
  have f44 := hts (.fieldLink RX4 44 "SelfOpenerModel" "thrown" "I") (List.mem_of_getElem? (i := 3) rfl)
  have f63 := hts (.fieldLink RX4 63 "SelfOpenerModel" "entry" "I") (List.mem_of_getElem? (i := 4) rfl)
  have f47 := hts (.fieldLink RX4 47 "SelfOpenerModel" "size" "I") (List.mem_of_getElem? (i := 2) rfl)
  have f31 := hts (.fieldLink RX4 31 "SelfOpenerModel" "memory" "[I") (List.mem_of_getElem? (i := 5) rfl)
  have f60 := hts (.fieldLink RX4 60 "SelfOpenerModel" "origin" "I") (List.mem_of_getElem? (i := 1) rfl)
  have f7 := hts (.fieldLink RX4 7 "SelfOpenerModel" "program" "[I") (List.mem_of_getElem? (i := 6) rfl)
  suffices hw : ∀ (H : Heap) (locs : List Loc), Hp G cI A s H locs [oR mq th (↑n) mp (↑org) ent kn gp ln m1 m2 m3 m4 m5 m6 m7 m8 pl st sp po m9, aI cI mp 160 pb, aI cI m7 256 mem, aI cI m8 8 regs] → W p l e rmX4_load s m args below meth c H locs 0 0 Q (F0 m 0 ls []) from hw _ _ hp
  clear hp; intro H locs hp
  refine lv_aload_n hx hb dX4_load_0 rfl (lv_at hl 0 rfl) ?_
  have jn1 : ∀ (t : Int) (H : Heap) (locs : List Loc) (ls : Array Slot), (t = if org + n ≤ 256 then 0 else 1) → Hp G cI A s H locs [oR mq th (↑n) mp (↑org) ent kn gp ln m1 m2 m3 m4 m5 m6 m7 m8 pl st sp po m9, aI cI mp 160 pb, aI cI m7 256 mem, aI cI m8 8 regs] → lv_has ls 2 [(0, .ref mq)] → W p l e rmX4_load s m args below meth c H locs 0 0 Q (F0 m 21 ls [.int (iZ (t)), .ref mq]) := by
    intro t H locs ls ht hp hl
    have htb : 0 ≤ t ∧ t ≤ 4 := by rw [ht]; (repeat' split) <;> omega
    refine z_put hx hb hts hi4 tyX4 tyX4_ok nmX4 hown hp 0 rfl rfl 0 (by decide) f44 rfl (rfl) (rfl) (Nat.le_of_ble_eq_true rfl) dX4_load_21 (ws' := [oR mq t (↑n) mp (↑org) ent kn gp ln m1 m2 m3 m4 m5 m6 m7 m8 pl st sp po m9, aI cI mp 160 pb, aI cI m7 256 mem, aI cI m8 8 regs]) rfl (fun H locs hp => ?_)
    refine lv_aload_n hx hb dX4_load_24 rfl (lv_at hl 0 rfl) ?_
    refine z_get hx hb hts hi4 hown hp 0 rfl rfl 0 (by decide) f44 rfl dX4_load_25 ?_
    refine z_if_le (tgt := 32) hx hb dX4_load_28 (by decide) (by omega) (fun h3 => ?_) (fun h3 => ?_)
    · skip
      have hti : org + n ≤ 256 := by revert ht; split <;> omega
      obtain rfl : t = 0 := by omega
      skip
      refine lv_aload_n hx hb dX4_load_32 rfl (lv_at hl 0 rfl) ?_
      refine lv_aload_n hx hb dX4_load_33 rfl (lv_at hl 0 rfl) ?_
      refine z_get hx hb hts hi4 hown hp 0 rfl rfl 4 (by decide) f63 rfl dX4_load_34 ?_
      refine zc_v (wr := [aI cI mp 160 pb]) (W0 := [oR mq 0 (↑n) mp (↑org) ent kn gp ln m1 m2 m3 m4 m5 m6 m7 m8 pl st sp po m9, aI cI m7 256 mem, aI cI m8 8 regs]) (wl2 := fun (u : Unit) => [oR mq 0 (↑n) mp (↑org) ent kn gp ln m1 m2 m3 m4 m5 m6 m7 m8 ent 0 0 0 m9, aI cI mp 160 pb, aI cI m7 256 (fun _ => 0), aI cI m8 8 (fun _ => 0)]) (As := [.int (iZ (ent))]) (rest := []) hx hb hml hown hts hp (c_X4_clear l G cI H.size mq mp m1 m2 m3 m4 m5 m6 m7 m8 m9 n org 0 ent kn gp ln pl st sp po mem regs ent) zPre_blind (z_pre hp [0, 2, 3] rfl (by decide) [.ref mq, .int (iZ (ent))]) (cwV 1 hts gX4_load_X4_clear rfl rfl rfl (by decide +kernel) ⟨Nat.le_of_ble_eq_true rfl, Nat.le_of_ble_eq_true rfl⟩) [0, 2, 3] [1] [1, 0, 2, 3] rfl rfl ⟨by decide, by decide, by decide⟩ (fun _ => rfl) 0 4 rfl rfl rfl rfl hl.1 rfl (Nat.le_of_ble_eq_true rfl) dX4_load_37 ⟨Nat.le_of_ble_eq_true rfl, Nat.le_of_ble_eq_true rfl⟩ (fun u H locs hq4 hp => ?_)
      refine z_iconst hx hb dX4_load_40 ?_
      refine lv_istore_n (lv' := [(1, .int (iZ (0))), (0, .ref mq)]) hx hb dX4_load_41 rfl hl (by decide) rfl (fun ls hl => ?_)
      have hp := z_alike hp 2 rfl (cpZ pb (fun _ => 0) 0 org 0) (fun j _ => by rw [cpZ_0]) (ws' := [oR mq 0 (↑n) mp (↑org) ent kn gp ln m1 m2 m3 m4 m5 m6 m7 m8 ent 0 0 0 m9, aI cI mp 160 pb, aI cI m7 256 (cpZ pb (fun _ => 0) 0 org 0), aI cI m8 8 (fun _ => 0)]) rfl
      have lp5 : ∀ (N_lp5 : Nat) (i : Nat) (H : Heap) (locs : List Loc) (ls : Array Slot), (i ≤ n) → (n - i) < N_lp5 → Hp G cI A s H locs [oR mq 0 (↑n) mp (↑org) ent kn gp ln m1 m2 m3 m4 m5 m6 m7 m8 ent 0 0 0 m9, aI cI mp 160 pb, aI cI m7 256 (cpZ pb (fun _ => 0) 0 org i), aI cI m8 8 (fun _ => 0)] → lv_has ls 2 [(1, .int (iZ (↑i))), (0, .ref mq)] → W p l e rmX4_load s m args below meth c H locs 0 0 Q (F0 m 42 ls []) := by
        intro N_lp5
        induction N_lp5 with
        | zero => intros; exfalso; omega
        | succ N_lp5 ih_lp5 =>
          intro i H locs ls hi hN hp hl
          refine lv_iload_n hx hb dX4_load_42 rfl (lv_at hl 0 rfl) ?_
          refine lv_aload_n hx hb dX4_load_43 rfl (lv_at hl 1 rfl) ?_
          refine z_get hx hb hts hi4 hown hp 0 rfl rfl 1 (by decide) f47 rfl dX4_load_44 ?_
          refine z_icmp_ge (tgt := 73) hx hb dX4_load_47 (by decide) (by omega) (fun h6 => ?_) (fun h6 => ?_)
          · skip
            have hin : i = n := by omega
            exact hret _ _ _ _ _ _ (0, cpZ pb (fun _ => 0) 0 org i, fun _ => 0, ent, 0, 0, 0) (⟨ht, fun _ => by rw [hin], fun q => absurd rfl q⟩) hp dX4_load_73 (Nat.le_of_ble_eq_true rfl) (Nat.le_of_ble_eq_true rfl)
          · skip
            refine lv_aload_n hx hb dX4_load_50 rfl (lv_at hl 1 rfl) ?_
            refine z_get hx hb hts hi4 hown hp 0 rfl rfl 14 (by decide) f31 rfl dX4_load_51 ?_
            refine lv_aload_n hx hb dX4_load_54 rfl (lv_at hl 1 rfl) ?_
            refine z_get hx hb hts hi4 hown hp 0 rfl rfl 3 (by decide) f60 rfl dX4_load_55 ?_
            refine lv_iload_n hx hb dX4_load_58 rfl (lv_at hl 0 rfl) ?_
            refine z_iadd hx hb (↑(org + i)) (by omega) dX4_load_59 ?_
            refine lv_aload_n hx hb dX4_load_60 rfl (lv_at hl 1 rfl) ?_
            refine z_get hx hb hts hi4 hown hp 0 rfl rfl 2 (by decide) f7 rfl dX4_load_61 ?_
            refine lv_iload_n hx hb dX4_load_64 rfl (lv_at hl 0 rfl) ?_
            refine z_iald hx hb hp 1 rfl (i) (by omega) dX4_load_65 (pb i) (rfl) ?_
            refine z_iast hx hb hp 2 rfl (org + i) (by omega) dX4_load_66 (ws' := [oR mq 0 (↑n) mp (↑org) ent kn gp ln m1 m2 m3 m4 m5 m6 m7 m8 ent 0 0 0 m9, aI cI mp 160 pb, aI cI m7 256 (upZ (cpZ pb (fun _ => 0) 0 org i) (org + i) (pb i)), aI cI m8 8 (fun _ => 0)]) rfl (fun H locs hp => ?_)
            have hp := z_alike hp 2 rfl (cpZ pb (fun _ => 0) 0 org (i + 1)) (fun j _ => by rw [cpZ_up, Nat.zero_add]) (ws' := [oR mq 0 (↑n) mp (↑org) ent kn gp ln m1 m2 m3 m4 m5 m6 m7 m8 ent 0 0 0 m9, aI cI mp 160 pb, aI cI m7 256 (cpZ pb (fun _ => 0) 0 org (i + 1)), aI cI m8 8 (fun _ => 0)]) rfl
            refine z_iinc (k := 0) (lv' := [(1, .int (iZ (↑(i + 1)))), (0, .ref mq)]) hx hb (↑(i + 1)) (by omega) dX4_load_67 hl rfl (by decide) rfl (fun ls hl => ?_)
            refine lv_goto (tgt := 42) hx hb dX4_load_70 (by decide) ?_
            exact ih_lp5 (i + 1) _ _ _ (by omega) (by omega) hp (lv_sub hl [0, 1] rfl)
      exact lp5 _ 0 _ _ _ (by omega) (Nat.lt_succ_self _) hp (lv_sub hl [0, 1] rfl)
    · skip
      exact hret _ _ _ _ _ _ (t, mem, regs, pl, st, sp, po) (⟨ht, fun q => by dsimp only at q; omega, fun _ => rfl⟩) hp dX4_load_31 (Nat.le_of_ble_eq_true rfl) (Nat.le_of_ble_eq_true rfl)
  refine lv_aload_n hx hb dX4_load_1 rfl (lv_at hl 0 rfl) ?_
  refine z_get hx hb hts hi4 hown hp 0 rfl rfl 3 (by decide) f60 rfl dX4_load_2 ?_
  refine lv_aload_n hx hb dX4_load_5 rfl (lv_at hl 0 rfl) ?_
  refine z_get hx hb hts hi4 hown hp 0 rfl rfl 1 (by decide) f47 rfl dX4_load_6 ?_
  refine z_iadd hx hb ((↑org) + (↑n)) (rfl) dX4_load_9 ?_
  refine z_sipush hx hb dX4_load_10 (by decide +kernel) ?_
  refine z_icmp_le (tgt := 20) hx hb dX4_load_13 (by decide) (by omega) (fun h7 => ?_) (fun h7 => ?_)
  · skip
    refine z_iconst hx hb dX4_load_20 ?_
    exact jn1 0 _ _ _ (by (repeat' split) <;> omega) hp (lv_sub hl [0] rfl)
  · skip
    refine z_iconst hx hb dX4_load_16 ?_
    refine lv_goto (tgt := 21) hx hb dX4_load_17 (by decide) ?_
    exact jn1 1 _ _ _ (by (repeat' split) <;> omega) hp (lv_sub hl [0] rfl)
abbrev rmX4_eighth : Room := { frames := 0, cells := 0, slots := 0, locals := 0 }
set_option maxRecDepth 100000 in
set_option maxHeartbeats 4000000 in
theorem c_X4_eighth (l : Launch) (G : va_G) (cI : ClassId) (sz : Nat) (w : Int64) (k : Nat) (h_k : k < 8) : Met l yX4_eighth wsX4_eighth rmX4_eighth (zPre G cI [] sz [.long (w), .int (iZ (↑k))]) (va_Qi (fun (r : Int32) (u : Unit) => r = iZ (byteZ w k)) (fun (u : Unit) t => zB G cI (va_A [] sz) [] t) (va_A [] sz)) 0 0 (va_A [] sz) := by
  refine zm_i (W1 := fun (u : Unit) => []) (cc := cX4_eighth) (maxL := 3) (ty := .int) (by decide) rfl (Nat.le_of_ble_eq_true rfl) ?_
  intro p e s m args below meth c A Q ls hsz hx hb hml hown hts hret hp hl
  have hl : lv_has ls 3 [(0, .long (w)), (2, .int (iZ (↑k)))] := hl
  have k50 := hts (.constantLong RX4 50 255) (List.mem_of_getElem? (i := 1) rfl)
  suffices hw : ∀ (H : Heap) (locs : List Loc), Hp G cI A s H locs [] → W p l e rmX4_eighth s m args below meth c H locs 0 0 Q (F0 m 0 ls []) from hw _ _ hp
  clear hp; intro H locs hp
  refine lv_lload_n hx hb dX4_eighth_0 rfl (lv_at hl 0 rfl) ?_
  refine z_bipush hx hb dX4_eighth_1 (by decide +kernel) ?_
  refine lv_iload_n hx hb dX4_eighth_3 rfl (lv_at hl 1 rfl) ?_
  refine z_imul hx hb (8 * (↑k)) (rfl) dX4_eighth_4 ?_
  refine lv_lshr (v := w >>> ((iZ (8 * (↑k))).toInt64 &&& 63)) hx hb dX4_eighth_5 (rfl) ?_
  refine lv_ldc2 hx hb hown k50 dX4_eighth_6 ?_
  refine lv_land hx hb dX4_eighth_9 ?_
  refine lv_l2i (v := iZ (byteZ w k)) hx hb dX4_eighth_10 (byteZ_m w k (by omega) _ (sh8 k (by omega))) ?_
  exact hret _ _ _ _ _ _ _ () (rfl) hp dX4_eighth_11 (rfl) (Nat.le_of_ble_eq_true rfl) (Nat.le_of_ble_eq_true rfl)
abbrev rmX4_first : Room := { frames := 1, cells := 0, slots := 0, locals := 40 }
set_option maxRecDepth 100000 in
set_option maxHeartbeats 4000000 in
theorem c_X4_first (l : Launch) (G : va_G) (cI : ClassId) (sz : Nat) (p9 : Nat) (h_p : p9 < 30) : Met l yX4_first wsX4_first rmX4_first (zPre G cI [] sz [.int (iZ (↑p9))]) (va_Qi (fun (r : Int32) (u : Unit) => r = iZ (stubZ (2 * p9))) (fun (u : Unit) t => zB G cI (va_A [] sz) [] t) (va_A [] sz)) 0 0 (va_A [] sz) := by
  refine zm_i (W1 := fun (u : Unit) => []) (cc := cX4_first) (maxL := 3) (ty := .int) (by decide) rfl (Nat.le_of_ble_eq_true rfl) ?_
  intro p e s m args below meth c A Q ls hsz hx hb hml hown hts hret hp hl
  have hl : lv_has ls 3 [(0, .int (iZ (↑p9)))] := hl
  have k106 := hts (.constantLong RX4 106 140832314364288) (List.mem_of_getElem? (i := 4) rfl)
  have k104 := hts (.constantLong RX4 104 (-7835346056596130266)) (List.mem_of_getElem? (i := 3) rfl)
  have k102 := hts (.constantLong RX4 102 4707461730014544449) (List.mem_of_getElem? (i := 2) rfl)
  have k100 := hts (.constantLong RX4 100 7229583154687971857) (List.mem_of_getElem? (i := 1) rfl)
  suffices hw : ∀ (H : Heap) (locs : List Loc), Hp G cI A s H locs [] → W p l e rmX4_first s m args below meth c H locs 0 0 Q (F0 m 0 ls []) from hw _ _ hp
  clear hp; intro H locs hp
  have jn1 : ∀ (w : Int64) (H : Heap) (locs : List Loc) (ls : Array Slot), (w = refL p9) → Hp G cI A s H locs [] → lv_has ls 3 [(0, .int (iZ (↑p9)))] → W p l e rmX4_first s m args below meth c H locs 0 0 Q (F0 m 39 ls [.long (w)]) := by
    intro w H locs ls hw hp hl
    refine lv_lstore_n (lv' := [(1, .long (w)), (0, .int (iZ (↑p9)))]) hx hb dX4_first_39 rfl hl (by decide) rfl (fun ls hl => ?_)
    refine lv_lload_n hx hb dX4_first_40 rfl (lv_at hl 0 rfl) ?_
    refine lv_iload_n hx hb dX4_first_41 rfl (lv_at hl 1 rfl) ?_
    refine z_bipush hx hb dX4_first_42 (by decide +kernel) ?_
    refine z_irem hx hb (↑(p9 % 8)) (by omega) dX4_first_44 ?_
    refine zs_i (wr := []) (W0 := []) (wl2 := fun (u : Unit) => []) (As := [.long (w), .int (iZ (↑(p9 % 8)))]) (rest := []) hx hb hml hown hts hp (c_X4_eighth l G cI H.size w (p9 % 8) (by omega)) zPre_blind (z_pre hp [] rfl (by decide) [.long (w), .int (iZ (↑(p9 % 8)))]) (va_cwS 2 hts gX4_first_X4_eighth rfl rfl rfl (by decide +kernel) ⟨Nat.le_of_ble_eq_true rfl, Nat.le_of_ble_eq_true rfl⟩) [] [] [] rfl rfl ⟨by decide, by decide, by decide⟩ (fun _ => rfl) rfl hl.1 rfl (Nat.le_of_ble_eq_true rfl) dX4_first_45 ⟨Nat.le_of_ble_eq_true rfl, Nat.le_of_ble_eq_true rfl⟩ (fun rv u H locs hq3 hp => ?_)
    obtain rfl : rv = iZ (byteZ w (p9 % 8)) := hq3
    exact hret _ _ _ _ _ _ _ () (congrArg iZ (by rw [hw]; exact refL_e p9 (by omega))) hp dX4_first_48 (rfl) (Nat.le_of_ble_eq_true rfl) (Nat.le_of_ble_eq_true rfl)
  refine lv_iload_n hx hb dX4_first_0 rfl (lv_at hl 0 rfl) ?_
  refine z_bipush hx hb dX4_first_1 (by decide +kernel) ?_
  refine z_icmp_ge (tgt := 12) hx hb dX4_first_3 (by decide) (by omega) (fun h4 => ?_) (fun h4 => ?_)
  · skip
    refine lv_iload_n hx hb dX4_first_12 rfl (lv_at hl 0 rfl) ?_
    refine z_bipush hx hb dX4_first_13 (by decide +kernel) ?_
    refine z_icmp_ge (tgt := 24) hx hb dX4_first_15 (by decide) (by omega) (fun h5 => ?_) (fun h5 => ?_)
    · skip
      refine lv_iload_n hx hb dX4_first_24 rfl (lv_at hl 0 rfl) ?_
      refine z_bipush hx hb dX4_first_25 (by decide +kernel) ?_
      refine z_icmp_ge (tgt := 36) hx hb dX4_first_27 (by decide) (by omega) (fun h6 => ?_) (fun h6 => ?_)
      · skip
        refine lv_ldc2 hx hb hown k106 dX4_first_36 ?_
        exact jn1 140832314364288 _ _ _ (by unfold refL; (repeat' split) <;> first | rfl | omega) hp (lv_sub hl [0] rfl)
      · skip
        refine lv_ldc2 hx hb hown k104 dX4_first_30 ?_
        refine lv_goto (tgt := 39) hx hb dX4_first_33 (by decide) ?_
        exact jn1 (-7835346056596130266) _ _ _ (by unfold refL; (repeat' split) <;> first | rfl | omega) hp (lv_sub hl [0] rfl)
    · skip
      refine lv_ldc2 hx hb hown k102 dX4_first_18 ?_
      refine lv_goto (tgt := 39) hx hb dX4_first_21 (by decide) ?_
      exact jn1 4707461730014544449 _ _ _ (by unfold refL; (repeat' split) <;> first | rfl | omega) hp (lv_sub hl [0] rfl)
  · skip
    refine lv_ldc2 hx hb hown k100 dX4_first_6 ?_
    refine lv_goto (tgt := 39) hx hb dX4_first_9 (by decide) ?_
    exact jn1 7229583154687971857 _ _ _ (by unfold refL; (repeat' split) <;> first | rfl | omega) hp (lv_sub hl [0] rfl)
abbrev rmX4_second : Room := { frames := 1, cells := 0, slots := 0, locals := 40 }
set_option maxRecDepth 100000 in
set_option maxHeartbeats 4000000 in
theorem c_X4_second (l : Launch) (G : va_G) (cI : ClassId) (sz : Nat) (mq mp m1 m2 m3 m4 m5 m6 m7 m8 m9 : Nat) (n org : Nat) (th ent kn gp ln pl st sp po : Int) (p9 a9 : Nat) (h_p : p9 < 30) (h_a : 0 ≤ (a9 : Int) - ln ∧ a9 ≤ 256 ∧ 0 ≤ ln ∧ ln ≤ 200) (h_o : org < 256) (h_l : 1 ≤ ln) : Met l yX4_second wsX4_second rmX4_second (zPre G cI [oR mq th (↑n) mp (↑org) ent kn gp ln m1 m2 m3 m4 m5 m6 m7 m8 pl st sp po m9] sz [.ref mq, .int (iZ (↑p9)), .int (iZ (↑a9))]) (va_Qi (fun (r : Int32) (u : Unit) => r = iZ (stubV a9 (↑a9 - ln) ↑org ent (2 * p9 + 1))) (fun (u : Unit) t => zB G cI (va_A [oR mq th (↑n) mp (↑org) ent kn gp ln m1 m2 m3 m4 m5 m6 m7 m8 pl st sp po m9] sz) [oR mq th (↑n) mp (↑org) ent kn gp ln m1 m2 m3 m4 m5 m6 m7 m8 pl st sp po m9] t) (va_A [oR mq th (↑n) mp (↑org) ent kn gp ln m1 m2 m3 m4 m5 m6 m7 m8 pl st sp po m9] sz)) 0 0 (va_A [oR mq th (↑n) mp (↑org) ent kn gp ln m1 m2 m3 m4 m5 m6 m7 m8 pl st sp po m9] sz) := by
  refine zm_i (W1 := fun (u : Unit) => [oR mq th (↑n) mp (↑org) ent kn gp ln m1 m2 m3 m4 m5 m6 m7 m8 pl st sp po m9]) (cc := cX4_second) (maxL := 7) (ty := .int) (by decide) rfl (Nat.le_of_ble_eq_true rfl) ?_
  intro p e s m args below meth c A Q ls hsz hx hb hml hown hts hret hp hl
  have hl : lv_has ls 7 [(0, .ref mq), (1, .int (iZ (↑p9))), (2, .int (iZ (↑a9)))] := hl
  have k120 := hts (.constant RX4 120 25172016) (List.mem_of_getElem? (i := 5) rfl)
  have hi4 : ∀ w ∈ wsX40, w ∈ wsX4_second := fun w h => List.mem_cons_of_mem _ (List.mem_append_right _ (h))
  have f63 := hts (.fieldLink RX4 63 "SelfOpenerModel" "entry" "I") (List.mem_of_getElem? (i := 8) rfl)
  have f60 := hts (.fieldLink RX4 60 "SelfOpenerModel" "origin" "I") (List.mem_of_getElem? (i := 7) rfl)
  have f74 := hts (.fieldLink RX4 74 "SelfOpenerModel" "length" "I") (List.mem_of_getElem? (i := 6) rfl)
  have k118 := hts (.constantLong RX4 118 36) (List.mem_of_getElem? (i := 4) rfl)
  have k116 := hts (.constantLong RX4 116 360007599053472770) (List.mem_of_getElem? (i := 3) rfl)
  have k114 := hts (.constantLong RX4 114 72482057149677825) (List.mem_of_getElem? (i := 2) rfl)
  have k112 := hts (.constantLong RX4 112 144425465120096256) (List.mem_of_getElem? (i := 1) rfl)
  suffices hw : ∀ (H : Heap) (locs : List Loc), Hp G cI A s H locs [oR mq th (↑n) mp (↑org) ent kn gp ln m1 m2 m3 m4 m5 m6 m7 m8 pl st sp po m9] → W p l e rmX4_second s m args below meth c H locs 0 0 Q (F0 m 0 ls []) from hw _ _ hp
  clear hp; intro H locs hp
  have jn1 : ∀ (w : Int64) (H : Heap) (locs : List Loc) (ls : Array Slot), (w = refR p9) → Hp G cI A s H locs [oR mq th (↑n) mp (↑org) ent kn gp ln m1 m2 m3 m4 m5 m6 m7 m8 pl st sp po m9] → lv_has ls 7 [(0, .ref mq), (1, .int (iZ (↑p9))), (2, .int (iZ (↑a9)))] → W p l e rmX4_second s m args below meth c H locs 0 0 Q (F0 m 39 ls [.long (w)]) := by
    intro w H locs ls hw hp hl
    refine lv_lstore_n (lv' := [(3, .long (w)), (0, .ref mq), (1, .int (iZ (↑p9))), (2, .int (iZ (↑a9)))]) hx hb dX4_second_39 rfl hl (by decide) rfl (fun ls hl => ?_)
    refine lv_lload_n hx hb dX4_second_40 rfl (lv_at hl 0 rfl) ?_
    refine lv_iload_n hx hb dX4_second_41 rfl (lv_at hl 2 rfl) ?_
    refine z_bipush hx hb dX4_second_42 (by decide +kernel) ?_
    refine z_irem hx hb (↑(p9 % 8)) (by omega) dX4_second_44 ?_
    refine zs_i (wr := [oR mq th (↑n) mp (↑org) ent kn gp ln m1 m2 m3 m4 m5 m6 m7 m8 pl st sp po m9]) (W0 := []) (wl2 := fun (u : Unit) => [oR mq th (↑n) mp (↑org) ent kn gp ln m1 m2 m3 m4 m5 m6 m7 m8 pl st sp po m9]) (As := [.long (w), .int (iZ (↑(p9 % 8)))]) (rest := []) hx hb hml hown hts hp (c_X4_eighth l G cI H.size w (p9 % 8) (by omega)) zPre_blind (z_pre hp [] rfl (by decide) [.long (w), .int (iZ (↑(p9 % 8)))]) (va_cwS 2 hts gX4_second_X4_eighth rfl rfl rfl (by decide +kernel) ⟨Nat.le_of_ble_eq_true rfl, Nat.le_of_ble_eq_true rfl⟩) [] [0] [0] rfl rfl ⟨by decide, by decide, by decide⟩ (fun _ => rfl) rfl hl.1 rfl (Nat.le_of_ble_eq_true rfl) dX4_second_45 ⟨Nat.le_of_ble_eq_true rfl, Nat.le_of_ble_eq_true rfl⟩ (fun rv u H locs hq3 hp => ?_)
    obtain rfl : rv = iZ (byteZ w (p9 % 8)) := hq3
    refine lv_istore (lv' := [(5, .int (iZ (byteZ w (p9 % 8)))), (3, .long (w)), (0, .ref mq), (1, .int (iZ (↑p9))), (2, .int (iZ (↑a9)))]) hx hb dX4_second_48 hl (by decide) rfl (fun ls hl => ?_)
    refine lv_ldc hx hb hown k120 dX4_second_50 ?_
    refine z_cst (25172016) (by decide +kernel) ?_
    refine lv_iload_n hx hb dX4_second_52 rfl (lv_at hl 3 rfl) ?_
    refine z_ishr hx hb (zshr 25172016 ↑p9) (zshr_e _ _) dX4_second_53 ?_
    refine z_iconst hx hb dX4_second_54 ?_
    refine z_iand hx hb (zand (zshr 25172016 ↑p9) 1) (zand_e _ _) dX4_second_55 ?_
    have hnr : p9 ≠ 29 → _ := fun q => refN_e p9 (by omega) q
    have jn4 : ∀ (nr : Int) (H : Heap) (locs : List Loc) (ls : Array Slot), ((p9 ≠ 29 → nr = if 128 ≤ stubZ (2 * p9) then 1 else 0)) → (0 ≤ nr ∧ nr ≤ 1) → Hp G cI A s H locs [oR mq th (↑n) mp (↑org) ent kn gp ln m1 m2 m3 m4 m5 m6 m7 m8 pl st sp po m9] → lv_has ls 7 [(5, .int (iZ (byteZ w (p9 % 8)))), (3, .long (w)), (0, .ref mq), (1, .int (iZ (↑p9))), (2, .int (iZ (↑a9)))] → W p l e rmX4_second s m args below meth c H locs 0 0 Q (F0 m 65 ls [.int (iZ (nr))]) := by
      intro nr H locs ls hnr2 hnb hp hl
      refine lv_istore (lv' := [(6, .int (iZ (nr))), (5, .int (iZ (byteZ w (p9 % 8)))), (3, .long (w)), (0, .ref mq), (1, .int (iZ (↑p9))), (2, .int (iZ (↑a9)))]) hx hb dX4_second_65 hl (by decide) rfl (fun ls hl => ?_)
      refine lv_iload_n hx hb dX4_second_67 rfl (lv_at hl 4 rfl) ?_
      refine z_if_ne (tgt := 84) hx hb dX4_second_68 (by decide) (by omega) (fun h7 => ?_) (fun h7 => ?_)
      · skip
        refine lv_iload_n hx hb dX4_second_84 rfl (lv_at hl 4 rfl) ?_
        refine z_iconst hx hb dX4_second_85 ?_
        refine z_icmp_ne (tgt := 96) hx hb dX4_second_86 (by decide) (by omega) (fun h8 => ?_) (fun h8 => ?_)
        · skip
          refine lv_iload_n hx hb dX4_second_96 rfl (lv_at hl 4 rfl) ?_
          refine z_bipush hx hb dX4_second_97 (by decide +kernel) ?_
          refine z_icmp_ne (tgt := 109) hx hb dX4_second_99 (by decide) (by omega) (fun h9 => ?_) (fun h9 => ?_)
          · skip
            have hz := refR_e p9 (by omega) (by omega) (by omega) (by omega)
            rw [← hw] at hz
            have hz2 := stubZ_b (2 * p9 + 1)
            have hnr3 := hnr2 (by omega)
            refine lv_iload hx hb dX4_second_109 (lv_at hl 0 rfl) ?_
            refine z_if_eq (tgt := 125) hx hb dX4_second_111 (by decide) (by omega) (fun h10 => ?_) (fun h10 => ?_)
            · skip
              refine lv_iload hx hb dX4_second_125 (lv_at hl 1 rfl) ?_
              exact hret _ _ _ _ _ _ _ () (congrArg iZ (by rw [stubV_odd]; (repeat' split) <;> omega)) hp dX4_second_127 (rfl) (Nat.le_of_ble_eq_true rfl) (Nat.le_of_ble_eq_true rfl)
            · skip
              refine lv_iload_n hx hb dX4_second_114 rfl (lv_at hl 5 rfl) ?_
              refine lv_iload hx hb dX4_second_115 (lv_at hl 1 rfl) ?_
              refine z_iadd hx hb ((↑a9) + (byteZ w (p9 % 8))) (rfl) dX4_second_117 ?_
              refine z_sipush hx hb dX4_second_118 (by decide +kernel) ?_
              refine z_iand hx hb (((↑a9) + (byteZ w (p9 % 8))) % 256) (iZ_and255 _) dX4_second_121 ?_
              refine lv_goto (tgt := 127) hx hb dX4_second_122 (by decide) ?_
              exact hret _ _ _ _ _ _ _ () (congrArg iZ (by rw [stubV_odd]; (repeat' split) <;> omega)) hp dX4_second_127 (rfl) (Nat.le_of_ble_eq_true rfl) (Nat.le_of_ble_eq_true rfl)
          · skip
            refine lv_aload_n hx hb dX4_second_102 rfl (lv_at hl 3 rfl) ?_
            refine z_get hx hb hts hi4 hown hp 0 rfl rfl 4 (by decide) f63 rfl dX4_second_103 ?_
            refine lv_goto (tgt := 127) hx hb dX4_second_106 (by decide) ?_
            exact hret _ _ _ _ _ _ _ () (congrArg iZ (by rw [stubV_odd]; (repeat' split) <;> omega)) hp dX4_second_127 (rfl) (Nat.le_of_ble_eq_true rfl) (Nat.le_of_ble_eq_true rfl)
        · skip
          refine lv_aload_n hx hb dX4_second_89 rfl (lv_at hl 3 rfl) ?_
          refine z_get hx hb hts hi4 hown hp 0 rfl rfl 3 (by decide) f60 rfl dX4_second_90 ?_
          refine lv_goto (tgt := 127) hx hb dX4_second_93 (by decide) ?_
          exact hret _ _ _ _ _ _ _ () (congrArg iZ (by rw [stubV_odd]; (repeat' split) <;> omega)) hp dX4_second_127 (rfl) (Nat.le_of_ble_eq_true rfl) (Nat.le_of_ble_eq_true rfl)
      · skip
        refine lv_iload_n hx hb dX4_second_71 rfl (lv_at hl 5 rfl) ?_
        refine lv_aload_n hx hb dX4_second_72 rfl (lv_at hl 3 rfl) ?_
        refine z_get hx hb hts hi4 hown hp 0 rfl rfl 7 (by decide) f74 rfl dX4_second_73 ?_
        refine z_isub hx hb ((↑a9) - ln) (rfl) dX4_second_76 ?_
        refine z_sipush hx hb dX4_second_77 (by decide +kernel) ?_
        refine z_iand hx hb (((↑a9) - ln) % 256) (iZ_and255 _) dX4_second_80 ?_
        refine lv_goto (tgt := 127) hx hb dX4_second_81 (by decide) ?_
        exact hret _ _ _ _ _ _ _ () (congrArg iZ (by rw [stubV_odd]; (repeat' split) <;> omega)) hp dX4_second_127 (rfl) (Nat.le_of_ble_eq_true rfl) (Nat.le_of_ble_eq_true rfl)
    refine z_iconst hx hb dX4_second_56 ?_
    refine z_icmp_ne (tgt := 64) hx hb dX4_second_57 (by decide) (⟨refN_b _ _, by omega⟩) (fun h11 => ?_) (fun h11 => ?_)
    · skip
      refine z_iconst hx hb dX4_second_64 ?_
      exact jn4 0 _ _ _ (fun q => by have q2 := hnr q; split <;> omega) (by omega) hp (lv_sub hl [0, 1, 2, 3, 4] rfl)
    · skip
      refine z_iconst hx hb dX4_second_60 ?_
      refine lv_goto (tgt := 65) hx hb dX4_second_61 (by decide) ?_
      exact jn4 1 _ _ _ (fun q => by have q2 := hnr q; split <;> omega) (by omega) hp (lv_sub hl [0, 1, 2, 3, 4] rfl)
  refine lv_iload_n hx hb dX4_second_0 rfl (lv_at hl 1 rfl) ?_
  refine z_bipush hx hb dX4_second_1 (by decide +kernel) ?_
  refine z_icmp_ge (tgt := 12) hx hb dX4_second_3 (by decide) (by omega) (fun h12 => ?_) (fun h12 => ?_)
  · skip
    refine lv_iload_n hx hb dX4_second_12 rfl (lv_at hl 1 rfl) ?_
    refine z_bipush hx hb dX4_second_13 (by decide +kernel) ?_
    refine z_icmp_ge (tgt := 24) hx hb dX4_second_15 (by decide) (by omega) (fun h13 => ?_) (fun h13 => ?_)
    · skip
      refine lv_iload_n hx hb dX4_second_24 rfl (lv_at hl 1 rfl) ?_
      refine z_bipush hx hb dX4_second_25 (by decide +kernel) ?_
      refine z_icmp_ge (tgt := 36) hx hb dX4_second_27 (by decide) (by omega) (fun h14 => ?_) (fun h14 => ?_)
      · skip
        refine lv_ldc2 hx hb hown k118 dX4_second_36 ?_
        exact jn1 36 _ _ _ (by unfold refR; (repeat' split) <;> first | rfl | omega) hp (lv_sub hl [0, 1, 2] rfl)
      · skip
        refine lv_ldc2 hx hb hown k116 dX4_second_30 ?_
        refine lv_goto (tgt := 39) hx hb dX4_second_33 (by decide) ?_
        exact jn1 360007599053472770 _ _ _ (by unfold refR; (repeat' split) <;> first | rfl | omega) hp (lv_sub hl [0, 1, 2] rfl)
    · skip
      refine lv_ldc2 hx hb hown k114 dX4_second_18 ?_
      refine lv_goto (tgt := 39) hx hb dX4_second_21 (by decide) ?_
      exact jn1 72482057149677825 _ _ _ (by unfold refR; (repeat' split) <;> first | rfl | omega) hp (lv_sub hl [0, 1, 2] rfl)
  · skip
    refine lv_ldc2 hx hb hown k112 dX4_second_6 ?_
    refine lv_goto (tgt := 39) hx hb dX4_second_9 (by decide) ?_
    exact jn1 144425465120096256 _ _ _ (by unfold refR; (repeat' split) <;> first | rfl | omega) hp (lv_sub hl [0, 1, 2] rfl)
abbrev rmX4_isPackable : Room := { frames := 2, cells := 0, slots := 0, locals := 80 }
set_option maxRecDepth 100000 in
set_option maxHeartbeats 4000000 in
theorem c_X4_isPackable (l : Launch) (G : va_G) (cI : ClassId) (sz : Nat) (mq mp m1 m2 m3 m4 m5 m6 m7 m8 m9 : Nat) (n org : Nat) (th ent kn gp ln pl st sp po : Int) (pb strm cst tok dst rgt : Nat → Int) (h_n : n ≤ 160) (h_b : BB pb 160) (h_kn : rg kn) (h_f : kn ≠ 0 → Fresh pb n ln gp strm) (h_o : org < 256) : Met l yX4_isPackable wsX4_isPackable rmX4_isPackable (zPre G cI [oR mq th (↑n) mp (↑org) ent kn gp ln m1 m2 m3 m4 m5 m6 m7 m8 pl st sp po m9, aI cI mp 160 pb, aI cI m1 400 strm, aI cI m2 161 cst, aI cI m3 161 tok, aI cI m4 161 dst, aI cI m5 161 rgt] sz [.ref mq]) (va_Qi (fun (r : Int32) (u : Int × Int × Int × (Nat → Int) × (Nat → Int) × (Nat → Int) × (Nat → Int) × (Nat → Int)) => (u.1 ≠ 0 ∧ rg u.1) ∧ Fresh pb n u.2.1 u.2.2.1 u.2.2.2.1 ∧ r = iZ (if ↑org + ↑n + u.2.2.1 + 60 ≤ 256 then 1 else 0)) (fun (u : Int × Int × Int × (Nat → Int) × (Nat → Int) × (Nat → Int) × (Nat → Int) × (Nat → Int)) t => zB G cI (va_A [oR mq th (↑n) mp (↑org) ent kn gp ln m1 m2 m3 m4 m5 m6 m7 m8 pl st sp po m9, aI cI mp 160 pb, aI cI m1 400 strm, aI cI m2 161 cst, aI cI m3 161 tok, aI cI m4 161 dst, aI cI m5 161 rgt] sz) [oR mq th (↑n) mp (↑org) ent u.1 u.2.2.1 u.2.1 m1 m2 m3 m4 m5 m6 m7 m8 pl st sp po m9, aI cI mp 160 pb, aI cI m1 400 u.2.2.2.1, aI cI m2 161 u.2.2.2.2.1, aI cI m3 161 u.2.2.2.2.2.1, aI cI m4 161 u.2.2.2.2.2.2.1, aI cI m5 161 u.2.2.2.2.2.2.2] t) (va_A [oR mq th (↑n) mp (↑org) ent kn gp ln m1 m2 m3 m4 m5 m6 m7 m8 pl st sp po m9, aI cI mp 160 pb, aI cI m1 400 strm, aI cI m2 161 cst, aI cI m3 161 tok, aI cI m4 161 dst, aI cI m5 161 rgt] sz)) 0 0 (va_A [oR mq th (↑n) mp (↑org) ent kn gp ln m1 m2 m3 m4 m5 m6 m7 m8 pl st sp po m9, aI cI mp 160 pb, aI cI m1 400 strm, aI cI m2 161 cst, aI cI m3 161 tok, aI cI m4 161 dst, aI cI m5 161 rgt] sz) := by
  refine zm_i (W1 := fun (u : Int × Int × Int × (Nat → Int) × (Nat → Int) × (Nat → Int) × (Nat → Int) × (Nat → Int)) => [oR mq th (↑n) mp (↑org) ent u.1 u.2.2.1 u.2.1 m1 m2 m3 m4 m5 m6 m7 m8 pl st sp po m9, aI cI mp 160 pb, aI cI m1 400 u.2.2.2.1, aI cI m2 161 u.2.2.2.2.1, aI cI m3 161 u.2.2.2.2.2.1, aI cI m4 161 u.2.2.2.2.2.2.1, aI cI m5 161 u.2.2.2.2.2.2.2]) (cc := cX4_isPackable) (maxL := 1) (ty := .boolean) (by decide) rfl (Nat.le_of_ble_eq_true rfl) ?_
  intro p e s m args below meth c A Q ls hsz hx hb hml hown hts hret hp hl
  have hl : lv_has ls 1 [(0, .ref mq)] := hl
  have hi4 : ∀ w ∈ wsX40, w ∈ wsX4_isPackable := fun w h => List.mem_cons_of_mem _ (List.mem_append_right _ (h))
  have f60 := hts (.fieldLink RX4 60 "SelfOpenerModel" "origin" "I") (List.mem_of_getElem? (i := 1) rfl)
  have f47 := hts (.fieldLink RX4 47 "SelfOpenerModel" "size" "I") (List.mem_of_getElem? (i := 2) rfl)
  have f71 := hts (.fieldLink RX4 71 "SelfOpenerModel" "gap" "I") (List.mem_of_getElem? (i := 3) rfl)
  suffices hw : ∀ (H : Heap) (locs : List Loc), Hp G cI A s H locs [oR mq th (↑n) mp (↑org) ent kn gp ln m1 m2 m3 m4 m5 m6 m7 m8 pl st sp po m9, aI cI mp 160 pb, aI cI m1 400 strm, aI cI m2 161 cst, aI cI m3 161 tok, aI cI m4 161 dst, aI cI m5 161 rgt] → W p l e rmX4_isPackable s m args below meth c H locs 0 0 Q (F0 m 0 ls []) from hw _ _ hp
  clear hp; intro H locs hp
  refine lv_aload_n hx hb dX4_isPackable_0 rfl (lv_at hl 0 rfl) ?_
  refine zc_v (wr := []) (W0 := [oR mq th (↑n) mp (↑org) ent kn gp ln m1 m2 m3 m4 m5 m6 m7 m8 pl st sp po m9, aI cI mp 160 pb, aI cI m1 400 strm, aI cI m2 161 cst, aI cI m3 161 tok, aI cI m4 161 dst, aI cI m5 161 rgt]) (wl2 := fun (u : Int × Int × Int × (Nat → Int) × (Nat → Int) × (Nat → Int) × (Nat → Int) × (Nat → Int)) => [oR mq th (↑n) mp (↑org) ent u.1 u.2.2.1 u.2.1 m1 m2 m3 m4 m5 m6 m7 m8 pl st sp po m9, aI cI mp 160 pb, aI cI m1 400 u.2.2.2.1, aI cI m2 161 u.2.2.2.2.1, aI cI m3 161 u.2.2.2.2.2.1, aI cI m4 161 u.2.2.2.2.2.2.1, aI cI m5 161 u.2.2.2.2.2.2.2]) (As := []) (rest := []) hx hb hml hown hts hp (c_X4_pack l G cI H.size mq mp m1 m2 m3 m4 m5 m6 m7 m8 m9 n org th ent kn gp ln pl st sp po pb strm cst tok dst rgt (by omega) (h_b) (h_kn) (h_f)) zPre_blind (z_pre hp [0, 1, 2, 3, 4, 5, 6] rfl (by decide) [.ref mq]) (cwV 0 hts gX4_isPackable_X4_pack rfl rfl rfl (by decide +kernel) ⟨Nat.le_of_ble_eq_true rfl, Nat.le_of_ble_eq_true rfl⟩) [0, 1, 2, 3, 4, 5, 6] [] [0, 1, 2, 3, 4, 5, 6] rfl rfl ⟨by decide, by decide, by decide⟩ (fun _ => rfl) 0 4 rfl rfl rfl rfl hl.1 rfl (Nat.le_of_ble_eq_true rfl) dX4_isPackable_1 ⟨Nat.le_of_ble_eq_true rfl, Nat.le_of_ble_eq_true rfl⟩ (fun u4 H locs hq1 hp => ?_)
  have hpk : (u4.1 ≠ 0 ∧ rg u4.1) ∧ Fresh pb n u4.2.1 u4.2.2.1 u4.2.2.2.1 := hq1
  have hfb := Fresh_b h_n h_b hpk.2
  have hfb1 := hfb.1
  have hfb2 := hfb.2.1
  refine lv_aload_n hx hb dX4_isPackable_4 rfl (lv_at hl 0 rfl) ?_
  refine z_get hx hb hts hi4 hown hp 0 rfl rfl 3 (by decide) f60 rfl dX4_isPackable_5 ?_
  refine lv_aload_n hx hb dX4_isPackable_8 rfl (lv_at hl 0 rfl) ?_
  refine z_get hx hb hts hi4 hown hp 0 rfl rfl 1 (by decide) f47 rfl dX4_isPackable_9 ?_
  refine z_iadd hx hb ((↑org) + (↑n)) (rfl) dX4_isPackable_12 ?_
  refine lv_aload_n hx hb dX4_isPackable_13 rfl (lv_at hl 0 rfl) ?_
  refine z_get hx hb hts hi4 hown hp 0 rfl rfl 6 (by decide) f71 rfl dX4_isPackable_14 ?_
  refine z_iadd hx hb (((↑org) + (↑n)) + u4.2.2.1) (rfl) dX4_isPackable_17 ?_
  refine z_bipush hx hb dX4_isPackable_18 (by decide +kernel) ?_
  refine z_iadd hx hb ((((↑org) + (↑n)) + u4.2.2.1) + 60) (rfl) dX4_isPackable_20 ?_
  refine z_sipush hx hb dX4_isPackable_21 (by decide +kernel) ?_
  refine z_icmp_gt (tgt := 31) hx hb dX4_isPackable_24 (by decide) (by omega) (fun h2 => ?_) (fun h2 => ?_)
  · skip
    refine z_iconst hx hb dX4_isPackable_31 ?_
    exact hret _ _ _ _ _ _ _ u4 (⟨hpk.1, hpk.2, congrArg iZ (by (repeat' split) <;> omega)⟩) hp dX4_isPackable_32 (by decide +kernel) (Nat.le_of_ble_eq_true rfl) (Nat.le_of_ble_eq_true rfl)
  · skip
    refine z_iconst hx hb dX4_isPackable_27 ?_
    refine lv_goto (tgt := 32) hx hb dX4_isPackable_28 (by decide) ?_
    exact hret _ _ _ _ _ _ _ u4 (⟨hpk.1, hpk.2, congrArg iZ (by (repeat' split) <;> omega)⟩) hp dX4_isPackable_32 (by decide +kernel) (Nat.le_of_ble_eq_true rfl) (Nat.le_of_ble_eq_true rfl)
abbrev rmX4_loadPacked : Room := { frames := 3, cells := 0, slots := 0, locals := 120 }
set_option maxRecDepth 100000 in
set_option maxHeartbeats 4000000 in
theorem c_X4_loadPacked (l : Launch) (G : va_G) (cI : ClassId) (sz : Nat) (mq mp m1 m2 m3 m4 m5 m6 m7 m8 m9 : Nat) (n org : Nat) (th ent kn gp ln pl st sp po : Int) (pb strm cst tok dst rgt : Nat → Int) (mem regs : Nat → Int) (h_n : n ≤ 160) (h_b : BB pb 160) (h_kn : rg kn) (h_f : kn ≠ 0 → Fresh pb n ln gp strm) (h_o : org < 256) : Met l yX4_loadPacked wsX4_loadPacked rmX4_loadPacked (zPre G cI [oR mq th (↑n) mp (↑org) ent kn gp ln m1 m2 m3 m4 m5 m6 m7 m8 pl st sp po m9, aI cI mp 160 pb, aI cI m1 400 strm, aI cI m2 161 cst, aI cI m3 161 tok, aI cI m4 161 dst, aI cI m5 161 rgt, aI cI m7 256 mem, aI cI m8 8 regs] sz [.ref mq]) (va_Qi (fun (r : Int32) (u : Int × (Int × Int × Int × (Nat → Int) × (Nat → Int) × (Nat → Int) × (Nat → Int) × (Nat → Int)) × (Nat → Int) × (Nat → Int) × Int × Int × Int × Int) => u.1 = (if ↑org + ↑n + u.2.1.2.2.1 + 60 ≤ 256 then 0 else 1) ∧ (u.2.1.1 ≠ 0 ∧ rg u.2.1.1) ∧ Fresh pb n u.2.1.2.1 u.2.1.2.2.1 u.2.1.2.2.2.1 ∧ (u.1 = 0 → u.2.2 = (stubRow (cpZ u.2.1.2.2.2.1 (fun _ => 0) 0 (org + n + u.2.1.2.2.1.toNat - u.2.1.2.1.toNat) u.2.1.2.1.toNat) (org + n + u.2.1.2.2.1.toNat) (↑(org + n + u.2.1.2.2.1.toNat - u.2.1.2.1.toNat)) ↑org ent, fun _ => 0, ↑(org + n + u.2.1.2.2.1.toNat), 0, 0, 0) ∧ r = iZ (↑n + u.2.1.2.2.1 + 60)) ∧ (u.1 ≠ 0 → u.2.2 = (mem, regs, pl, st, sp, po))) (fun (u : Int × (Int × Int × Int × (Nat → Int) × (Nat → Int) × (Nat → Int) × (Nat → Int) × (Nat → Int)) × (Nat → Int) × (Nat → Int) × Int × Int × Int × Int) t => zB G cI (va_A [oR mq th (↑n) mp (↑org) ent kn gp ln m1 m2 m3 m4 m5 m6 m7 m8 pl st sp po m9, aI cI mp 160 pb, aI cI m1 400 strm, aI cI m2 161 cst, aI cI m3 161 tok, aI cI m4 161 dst, aI cI m5 161 rgt, aI cI m7 256 mem, aI cI m8 8 regs] sz) [oR mq u.1 (↑n) mp (↑org) ent u.2.1.1 u.2.1.2.2.1 u.2.1.2.1 m1 m2 m3 m4 m5 m6 m7 m8 u.2.2.2.2.1 u.2.2.2.2.2.1 u.2.2.2.2.2.2.1 u.2.2.2.2.2.2.2 m9, aI cI mp 160 pb, aI cI m1 400 u.2.1.2.2.2.1, aI cI m2 161 u.2.1.2.2.2.2.1, aI cI m3 161 u.2.1.2.2.2.2.2.1, aI cI m4 161 u.2.1.2.2.2.2.2.2.1, aI cI m5 161 u.2.1.2.2.2.2.2.2.2, aI cI m7 256 u.2.2.1, aI cI m8 8 u.2.2.2.1] t) (va_A [oR mq th (↑n) mp (↑org) ent kn gp ln m1 m2 m3 m4 m5 m6 m7 m8 pl st sp po m9, aI cI mp 160 pb, aI cI m1 400 strm, aI cI m2 161 cst, aI cI m3 161 tok, aI cI m4 161 dst, aI cI m5 161 rgt, aI cI m7 256 mem, aI cI m8 8 regs] sz)) 0 0 (va_A [oR mq th (↑n) mp (↑org) ent kn gp ln m1 m2 m3 m4 m5 m6 m7 m8 pl st sp po m9, aI cI mp 160 pb, aI cI m1 400 strm, aI cI m2 161 cst, aI cI m3 161 tok, aI cI m4 161 dst, aI cI m5 161 rgt, aI cI m7 256 mem, aI cI m8 8 regs] sz) := by
  refine zm_i (W1 := fun (u : Int × (Int × Int × Int × (Nat → Int) × (Nat → Int) × (Nat → Int) × (Nat → Int) × (Nat → Int)) × (Nat → Int) × (Nat → Int) × Int × Int × Int × Int) => [oR mq u.1 (↑n) mp (↑org) ent u.2.1.1 u.2.1.2.2.1 u.2.1.2.1 m1 m2 m3 m4 m5 m6 m7 m8 u.2.2.2.2.1 u.2.2.2.2.2.1 u.2.2.2.2.2.2.1 u.2.2.2.2.2.2.2 m9, aI cI mp 160 pb, aI cI m1 400 u.2.1.2.2.2.1, aI cI m2 161 u.2.1.2.2.2.2.1, aI cI m3 161 u.2.1.2.2.2.2.2.1, aI cI m4 161 u.2.1.2.2.2.2.2.2.1, aI cI m5 161 u.2.1.2.2.2.2.2.2.2, aI cI m7 256 u.2.2.1, aI cI m8 8 u.2.2.2.1]) (cc := cX4_loadPacked) (maxL := 3) (ty := .int) (by decide) rfl (Nat.le_of_ble_eq_true rfl) ?_
  intro p e s m args below meth c A Q ls hsz hx hb hml hown hts hret hp hl
  have hl : lv_has ls 3 [(0, .ref mq)] := hl
  have hi4 : ∀ w ∈ wsX40, w ∈ wsX4_loadPacked := fun w h => List.mem_cons_of_mem _ (List.mem_append_right _ (h))
  have f44 := hts (.fieldLink RX4 44 "SelfOpenerModel" "thrown" "I") (List.mem_of_getElem? (i := 1) rfl)
  have f60 := hts (.fieldLink RX4 60 "SelfOpenerModel" "origin" "I") (List.mem_of_getElem? (i := 2) rfl)
  have f47 := hts (.fieldLink RX4 47 "SelfOpenerModel" "size" "I") (List.mem_of_getElem? (i := 3) rfl)
  have f71 := hts (.fieldLink RX4 71 "SelfOpenerModel" "gap" "I") (List.mem_of_getElem? (i := 4) rfl)
  have f74 := hts (.fieldLink RX4 74 "SelfOpenerModel" "length" "I") (List.mem_of_getElem? (i := 5) rfl)
  have f31 := hts (.fieldLink RX4 31 "SelfOpenerModel" "memory" "[I") (List.mem_of_getElem? (i := 6) rfl)
  have f13 := hts (.fieldLink RX4 13 "SelfOpenerModel" "stream" "[I") (List.mem_of_getElem? (i := 7) rfl)
  suffices hw : ∀ (H : Heap) (locs : List Loc), Hp G cI A s H locs [oR mq th (↑n) mp (↑org) ent kn gp ln m1 m2 m3 m4 m5 m6 m7 m8 pl st sp po m9, aI cI mp 160 pb, aI cI m1 400 strm, aI cI m2 161 cst, aI cI m3 161 tok, aI cI m4 161 dst, aI cI m5 161 rgt, aI cI m7 256 mem, aI cI m8 8 regs] → W p l e rmX4_loadPacked s m args below meth c H locs 0 0 Q (F0 m 0 ls []) from hw _ _ hp
  clear hp; intro H locs hp
  refine lv_aload_n hx hb dX4_loadPacked_0 rfl (lv_at hl 0 rfl) ?_
  refine lv_aload_n hx hb dX4_loadPacked_1 rfl (lv_at hl 0 rfl) ?_
  refine zc_i (wr := [aI cI m7 256 mem, aI cI m8 8 regs]) (W0 := [oR mq th (↑n) mp (↑org) ent kn gp ln m1 m2 m3 m4 m5 m6 m7 m8 pl st sp po m9, aI cI mp 160 pb, aI cI m1 400 strm, aI cI m2 161 cst, aI cI m3 161 tok, aI cI m4 161 dst, aI cI m5 161 rgt]) (wl2 := fun (u : Int × Int × Int × (Nat → Int) × (Nat → Int) × (Nat → Int) × (Nat → Int) × (Nat → Int)) => [oR mq th (↑n) mp (↑org) ent u.1 u.2.2.1 u.2.1 m1 m2 m3 m4 m5 m6 m7 m8 pl st sp po m9, aI cI mp 160 pb, aI cI m1 400 u.2.2.2.1, aI cI m2 161 u.2.2.2.2.1, aI cI m3 161 u.2.2.2.2.2.1, aI cI m4 161 u.2.2.2.2.2.2.1, aI cI m5 161 u.2.2.2.2.2.2.2, aI cI m7 256 mem, aI cI m8 8 regs]) (As := []) (rest := [.ref mq]) hx hb hml hown hts hp (c_X4_isPackable l G cI H.size mq mp m1 m2 m3 m4 m5 m6 m7 m8 m9 n org th ent kn gp ln pl st sp po pb strm cst tok dst rgt (by omega) (h_b) (h_kn) (h_f) (by omega)) zPre_blind (z_pre hp [0, 1, 2, 3, 4, 5, 6] rfl (by decide) [.ref mq]) (cwV 0 hts gX4_loadPacked_X4_isPackable rfl rfl rfl (by decide +kernel) ⟨Nat.le_of_ble_eq_true rfl, Nat.le_of_ble_eq_true rfl⟩) [0, 1, 2, 3, 4, 5, 6] [7, 8] [2, 3, 4, 5, 6, 7, 8, 0, 1] rfl rfl ⟨by decide, by decide, by decide⟩ (fun _ => rfl) 0 4 rfl rfl rfl rfl hl.1 rfl (Nat.le_of_ble_eq_true rfl) dX4_loadPacked_2 ⟨Nat.le_of_ble_eq_true rfl, Nat.le_of_ble_eq_true rfl⟩ (fun rv u4 H locs hq1 hp => ?_)
  have hpk1 : u4.1 ≠ 0 ∧ rg u4.1 := hq1.1
  have hpk2 : Fresh pb n u4.2.1 u4.2.2.1 u4.2.2.2.1 := hq1.2.1
  have hfb := Fresh_b h_n h_b hpk2
  have hfb1 := hfb.1
  have hfb2 := hfb.2.1
  obtain rfl : rv = iZ (if ↑org + ↑n + u4.2.2.1 + 60 ≤ 256 then 1 else 0) := hq1.2.2
  have jn2 : ∀ (t : Int) (H : Heap) (locs : List Loc) (ls : Array Slot), (t = if ↑org + ↑n + u4.2.2.1 + 60 ≤ 256 then 0 else 1) → Hp G cI A s H locs [oR mq th (↑n) mp (↑org) ent u4.1 u4.2.2.1 u4.2.1 m1 m2 m3 m4 m5 m6 m7 m8 pl st sp po m9, aI cI mp 160 pb, aI cI m1 400 u4.2.2.2.1, aI cI m2 161 u4.2.2.2.2.1, aI cI m3 161 u4.2.2.2.2.2.1, aI cI m4 161 u4.2.2.2.2.2.2.1, aI cI m5 161 u4.2.2.2.2.2.2.2, aI cI m7 256 mem, aI cI m8 8 regs] → lv_has ls 3 [(0, .ref mq)] → W p l e rmX4_loadPacked s m args below meth c H locs 0 0 Q (F0 m 13 ls [.int (iZ (t)), .ref mq]) := by
    intro t H locs ls ht hp hl
    have htb : 0 ≤ t ∧ t ≤ 4 := by rw [ht]; (repeat' split) <;> omega
    refine z_put hx hb hts hi4 tyX4 tyX4_ok nmX4 hown hp 0 rfl rfl 0 (by decide) f44 rfl (rfl) (rfl) (Nat.le_of_ble_eq_true rfl) dX4_loadPacked_13 (ws' := [oR mq t (↑n) mp (↑org) ent u4.1 u4.2.2.1 u4.2.1 m1 m2 m3 m4 m5 m6 m7 m8 pl st sp po m9, aI cI mp 160 pb, aI cI m1 400 u4.2.2.2.1, aI cI m2 161 u4.2.2.2.2.1, aI cI m3 161 u4.2.2.2.2.2.1, aI cI m4 161 u4.2.2.2.2.2.2.1, aI cI m5 161 u4.2.2.2.2.2.2.2, aI cI m7 256 mem, aI cI m8 8 regs]) rfl (fun H locs hp => ?_)
    refine lv_aload_n hx hb dX4_loadPacked_16 rfl (lv_at hl 0 rfl) ?_
    refine z_get hx hb hts hi4 hown hp 0 rfl rfl 0 (by decide) f44 rfl dX4_loadPacked_17 ?_
    refine z_if_le (tgt := 25) hx hb dX4_loadPacked_20 (by decide) (by omega) (fun h4 => ?_) (fun h4 => ?_)
    · skip
      have hti : ↑org + ↑n + u4.2.2.1 + 60 ≤ 256 := by revert ht; split <;> omega
      obtain rfl : t = 0 := by omega
      skip
      refine lv_aload_n hx hb dX4_loadPacked_25 rfl (lv_at hl 0 rfl) ?_
      refine z_get hx hb hts hi4 hown hp 0 rfl rfl 3 (by decide) f60 rfl dX4_loadPacked_26 ?_
      refine lv_aload_n hx hb dX4_loadPacked_29 rfl (lv_at hl 0 rfl) ?_
      refine z_get hx hb hts hi4 hown hp 0 rfl rfl 1 (by decide) f47 rfl dX4_loadPacked_30 ?_
      refine z_iadd hx hb ((↑org) + (↑n)) (rfl) dX4_loadPacked_33 ?_
      refine lv_aload_n hx hb dX4_loadPacked_34 rfl (lv_at hl 0 rfl) ?_
      refine z_get hx hb hts hi4 hown hp 0 rfl rfl 6 (by decide) f71 rfl dX4_loadPacked_35 ?_
      refine z_iadd hx hb (↑(org + n + u4.2.2.1.toNat)) (by omega) dX4_loadPacked_38 ?_
      refine lv_istore_n (lv' := [(1, .int (iZ (↑(org + n + u4.2.2.1.toNat)))), (0, .ref mq)]) hx hb dX4_loadPacked_39 rfl hl (by decide) rfl (fun ls hl => ?_)
      refine lv_aload_n hx hb dX4_loadPacked_40 rfl (lv_at hl 1 rfl) ?_
      refine lv_iload_n hx hb dX4_loadPacked_41 rfl (lv_at hl 0 rfl) ?_
      refine zc_v (wr := [aI cI mp 160 pb, aI cI m1 400 u4.2.2.2.1, aI cI m2 161 u4.2.2.2.2.1, aI cI m3 161 u4.2.2.2.2.2.1, aI cI m4 161 u4.2.2.2.2.2.2.1, aI cI m5 161 u4.2.2.2.2.2.2.2]) (W0 := [oR mq 0 (↑n) mp (↑org) ent u4.1 u4.2.2.1 u4.2.1 m1 m2 m3 m4 m5 m6 m7 m8 pl st sp po m9, aI cI m7 256 mem, aI cI m8 8 regs]) (wl2 := fun (u : Unit) => [oR mq 0 (↑n) mp (↑org) ent u4.1 u4.2.2.1 u4.2.1 m1 m2 m3 m4 m5 m6 m7 m8 (↑(org + n + u4.2.2.1.toNat)) 0 0 0 m9, aI cI mp 160 pb, aI cI m1 400 u4.2.2.2.1, aI cI m2 161 u4.2.2.2.2.1, aI cI m3 161 u4.2.2.2.2.2.1, aI cI m4 161 u4.2.2.2.2.2.2.1, aI cI m5 161 u4.2.2.2.2.2.2.2, aI cI m7 256 (fun _ => 0), aI cI m8 8 (fun _ => 0)]) (As := [.int (iZ (↑(org + n + u4.2.2.1.toNat)))]) (rest := []) hx hb hml hown hts hp (c_X4_clear l G cI H.size mq mp m1 m2 m3 m4 m5 m6 m7 m8 m9 n org 0 ent u4.1 u4.2.2.1 u4.2.1 pl st sp po mem regs (↑(org + n + u4.2.2.1.toNat))) zPre_blind (z_pre hp [0, 7, 8] rfl (by decide) [.ref mq, .int (iZ (↑(org + n + u4.2.2.1.toNat)))]) (cwV 1 hts gX4_loadPacked_X4_clear rfl rfl rfl (by decide +kernel) ⟨Nat.le_of_ble_eq_true rfl, Nat.le_of_ble_eq_true rfl⟩) [0, 7, 8] [1, 2, 3, 4, 5, 6] [6, 0, 1, 2, 3, 4, 5, 7, 8] rfl rfl ⟨by decide, by decide, by decide⟩ (fun _ => rfl) 0 4 rfl rfl rfl rfl hl.1 rfl (Nat.le_of_ble_eq_true rfl) dX4_loadPacked_42 ⟨Nat.le_of_ble_eq_true rfl, Nat.le_of_ble_eq_true rfl⟩ (fun u H locs hq5 hp => ?_)
      refine z_iconst hx hb dX4_loadPacked_45 ?_
      refine lv_istore_n (lv' := [(2, .int (iZ (0))), (1, .int (iZ (↑(org + n + u4.2.2.1.toNat)))), (0, .ref mq)]) hx hb dX4_loadPacked_46 rfl hl (by decide) rfl (fun ls hl => ?_)
      have hp := z_alike hp 7 rfl (cpZ u4.2.2.2.1 (fun _ => 0) 0 ((org + n + u4.2.2.1.toNat) - u4.2.1.toNat) 0) (fun j _ => by rw [cpZ_0]) (ws' := [oR mq 0 (↑n) mp (↑org) ent u4.1 u4.2.2.1 u4.2.1 m1 m2 m3 m4 m5 m6 m7 m8 (↑(org + n + u4.2.2.1.toNat)) 0 0 0 m9, aI cI mp 160 pb, aI cI m1 400 u4.2.2.2.1, aI cI m2 161 u4.2.2.2.2.1, aI cI m3 161 u4.2.2.2.2.2.1, aI cI m4 161 u4.2.2.2.2.2.2.1, aI cI m5 161 u4.2.2.2.2.2.2.2, aI cI m7 256 (cpZ u4.2.2.2.1 (fun _ => 0) 0 ((org + n + u4.2.2.1.toNat) - u4.2.1.toNat) 0), aI cI m8 8 (fun _ => 0)]) rfl
      have lp6 : ∀ (N_lp6 : Nat) (i : Nat) (H : Heap) (locs : List Loc) (ls : Array Slot), (i ≤ u4.2.1.toNat) → (u4.2.1.toNat - i) < N_lp6 → Hp G cI A s H locs [oR mq 0 (↑n) mp (↑org) ent u4.1 u4.2.2.1 u4.2.1 m1 m2 m3 m4 m5 m6 m7 m8 (↑(org + n + u4.2.2.1.toNat)) 0 0 0 m9, aI cI mp 160 pb, aI cI m1 400 u4.2.2.2.1, aI cI m2 161 u4.2.2.2.2.1, aI cI m3 161 u4.2.2.2.2.2.1, aI cI m4 161 u4.2.2.2.2.2.2.1, aI cI m5 161 u4.2.2.2.2.2.2.2, aI cI m7 256 (cpZ u4.2.2.2.1 (fun _ => 0) 0 ((org + n + u4.2.2.1.toNat) - u4.2.1.toNat) i), aI cI m8 8 (fun _ => 0)] → lv_has ls 3 [(2, .int (iZ (↑i))), (1, .int (iZ (↑(org + n + u4.2.2.1.toNat)))), (0, .ref mq)] → W p l e rmX4_loadPacked s m args below meth c H locs 0 0 Q (F0 m 47 ls []) := by
        intro N_lp6
        induction N_lp6 with
        | zero => intros; exfalso; omega
        | succ N_lp6 ih_lp6 =>
          intro i H locs ls hi hN hp hl
          refine lv_iload_n hx hb dX4_loadPacked_47 rfl (lv_at hl 0 rfl) ?_
          refine lv_aload_n hx hb dX4_loadPacked_48 rfl (lv_at hl 2 rfl) ?_
          refine z_get hx hb hts hi4 hown hp 0 rfl rfl 7 (by decide) f74 rfl dX4_loadPacked_49 ?_
          refine z_icmp_ge (tgt := 80) hx hb dX4_loadPacked_52 (by decide) (by omega) (fun h7 => ?_) (fun h7 => ?_)
          · skip
            obtain rfl : i = u4.2.1.toNat := by omega
            skip
            refine z_iconst hx hb dX4_loadPacked_80 ?_
            refine lv_istore_n (lv' := [(2, .int (iZ (0))), (1, .int (iZ (↑(org + n + u4.2.2.1.toNat)))), (0, .ref mq)]) hx hb dX4_loadPacked_81 rfl hl (by decide) rfl (fun ls hl => ?_)
            have lp8 : ∀ (N_lp8 : Nat) (k : Nat) (f : Nat → Int) (H : Heap) (locs : List Loc) (ls : Array Slot), (k ≤ 30) → (∀ j, f j = if (org + n + u4.2.2.1.toNat) ≤ j ∧ j < (org + n + u4.2.2.1.toNat) + 2 * k then stubV (org + n + u4.2.2.1.toNat) (↑(org + n + u4.2.2.1.toNat) - u4.2.1) ↑org ent (j - (org + n + u4.2.2.1.toNat)) else (cpZ u4.2.2.2.1 (fun _ => 0) 0 ((org + n + u4.2.2.1.toNat) - u4.2.1.toNat) u4.2.1.toNat) j) → (30 - k) < N_lp8 → Hp G cI A s H locs [oR mq 0 (↑n) mp (↑org) ent u4.1 u4.2.2.1 u4.2.1 m1 m2 m3 m4 m5 m6 m7 m8 (↑(org + n + u4.2.2.1.toNat)) 0 0 0 m9, aI cI mp 160 pb, aI cI m1 400 u4.2.2.2.1, aI cI m2 161 u4.2.2.2.2.1, aI cI m3 161 u4.2.2.2.2.2.1, aI cI m4 161 u4.2.2.2.2.2.2.1, aI cI m5 161 u4.2.2.2.2.2.2.2, aI cI m7 256 f, aI cI m8 8 (fun _ => 0)] → lv_has ls 3 [(2, .int (iZ (↑k))), (1, .int (iZ (↑(org + n + u4.2.2.1.toNat)))), (0, .ref mq)] → W p l e rmX4_loadPacked s m args below meth c H locs 0 0 Q (F0 m 82 ls []) := by
              intro N_lp8
              induction N_lp8 with
              | zero => intros; exfalso; omega
              | succ N_lp8 ih_lp8 =>
                intro k f H locs ls hk9 hf hN hp hl
                refine lv_iload_n hx hb dX4_loadPacked_82 rfl (lv_at hl 0 rfl) ?_
                refine z_bipush hx hb dX4_loadPacked_83 (by decide +kernel) ?_
                refine z_icmp_ge (tgt := 126) hx hb dX4_loadPacked_85 (by decide) (by omega) (fun h9 => ?_) (fun h9 => ?_)
                · skip
                  obtain rfl : k = 30 := by omega
                  have hst9 : ((((org + n + u4.2.2.1.toNat) - u4.2.1.toNat : Nat)) : Int) = ↑(org + n + u4.2.2.1.toNat) - u4.2.1 := by omega
                  have hp := z_alike hp 7 rfl (stubRow (cpZ u4.2.2.2.1 (fun _ => 0) 0 ((org + n + u4.2.2.1.toNat) - u4.2.1.toNat) u4.2.1.toNat) (org + n + u4.2.2.1.toNat) (↑((org + n + u4.2.2.1.toNat) - u4.2.1.toNat)) ↑org ent) (fun j _ => by rw [hst9]; exact (hf j).symm) (ws' := [oR mq 0 (↑n) mp (↑org) ent u4.1 u4.2.2.1 u4.2.1 m1 m2 m3 m4 m5 m6 m7 m8 (↑(org + n + u4.2.2.1.toNat)) 0 0 0 m9, aI cI mp 160 pb, aI cI m1 400 u4.2.2.2.1, aI cI m2 161 u4.2.2.2.2.1, aI cI m3 161 u4.2.2.2.2.2.1, aI cI m4 161 u4.2.2.2.2.2.2.1, aI cI m5 161 u4.2.2.2.2.2.2.2, aI cI m7 256 (stubRow (cpZ u4.2.2.2.1 (fun _ => 0) 0 ((org + n + u4.2.2.1.toNat) - u4.2.1.toNat) u4.2.1.toNat) (org + n + u4.2.2.1.toNat) (↑((org + n + u4.2.2.1.toNat) - u4.2.1.toNat)) ↑org ent), aI cI m8 8 (fun _ => 0)]) rfl
                  refine lv_aload_n hx hb dX4_loadPacked_126 rfl (lv_at hl 2 rfl) ?_
                  refine z_get hx hb hts hi4 hown hp 0 rfl rfl 1 (by decide) f47 rfl dX4_loadPacked_127 ?_
                  refine lv_aload_n hx hb dX4_loadPacked_130 rfl (lv_at hl 2 rfl) ?_
                  refine z_get hx hb hts hi4 hown hp 0 rfl rfl 6 (by decide) f71 rfl dX4_loadPacked_131 ?_
                  refine z_iadd hx hb ((↑n) + u4.2.2.1) (rfl) dX4_loadPacked_134 ?_
                  refine z_bipush hx hb dX4_loadPacked_135 (by decide +kernel) ?_
                  refine z_iadd hx hb (((↑n) + u4.2.2.1) + 60) (rfl) dX4_loadPacked_137 ?_
                  exact hret _ _ _ _ _ _ _ (0, u4, stubRow (cpZ u4.2.2.2.1 (fun _ => 0) 0 ((org + n + u4.2.2.1.toNat) - u4.2.1.toNat) u4.2.1.toNat) (org + n + u4.2.2.1.toNat) (↑((org + n + u4.2.2.1.toNat) - u4.2.1.toNat)) ↑org ent, fun _ => 0, ↑(org + n + u4.2.2.1.toNat), 0, 0, 0) (⟨ht, hpk1, hpk2, fun _ => ⟨rfl, rfl⟩, fun q => absurd rfl q⟩) hp dX4_loadPacked_138 (rfl) (Nat.le_of_ble_eq_true rfl) (Nat.le_of_ble_eq_true rfl)
                · skip
                  refine lv_aload_n hx hb dX4_loadPacked_88 rfl (lv_at hl 2 rfl) ?_
                  refine z_get hx hb hts hi4 hown hp 0 rfl rfl 14 (by decide) f31 rfl dX4_loadPacked_89 ?_
                  refine lv_iload_n hx hb dX4_loadPacked_92 rfl (lv_at hl 1 rfl) ?_
                  refine z_iconst hx hb dX4_loadPacked_93 ?_
                  refine lv_iload_n hx hb dX4_loadPacked_94 rfl (lv_at hl 0 rfl) ?_
                  refine z_imul hx hb (2 * (↑k)) (rfl) dX4_loadPacked_95 ?_
                  refine z_iadd hx hb (↑((org + n + u4.2.2.1.toNat) + 2 * k)) (by omega) dX4_loadPacked_96 ?_
                  refine lv_iload_n hx hb dX4_loadPacked_97 rfl (lv_at hl 0 rfl) ?_
                  refine zs_i (wr := [oR mq 0 (↑n) mp (↑org) ent u4.1 u4.2.2.1 u4.2.1 m1 m2 m3 m4 m5 m6 m7 m8 (↑(org + n + u4.2.2.1.toNat)) 0 0 0 m9, aI cI mp 160 pb, aI cI m1 400 u4.2.2.2.1, aI cI m2 161 u4.2.2.2.2.1, aI cI m3 161 u4.2.2.2.2.2.1, aI cI m4 161 u4.2.2.2.2.2.2.1, aI cI m5 161 u4.2.2.2.2.2.2.2, aI cI m7 256 f, aI cI m8 8 (fun _ => 0)]) (W0 := []) (wl2 := fun (u : Unit) => [oR mq 0 (↑n) mp (↑org) ent u4.1 u4.2.2.1 u4.2.1 m1 m2 m3 m4 m5 m6 m7 m8 (↑(org + n + u4.2.2.1.toNat)) 0 0 0 m9, aI cI mp 160 pb, aI cI m1 400 u4.2.2.2.1, aI cI m2 161 u4.2.2.2.2.1, aI cI m3 161 u4.2.2.2.2.2.1, aI cI m4 161 u4.2.2.2.2.2.2.1, aI cI m5 161 u4.2.2.2.2.2.2.2, aI cI m7 256 f, aI cI m8 8 (fun _ => 0)]) (As := [.int (iZ (↑k))]) (rest := [.int (iZ (↑((org + n + u4.2.2.1.toNat) + 2 * k))), .ref m7]) hx hb hml hown hts hp (c_X4_first l G cI H.size k (by omega)) zPre_blind (z_pre hp [] rfl (by decide) [.int (iZ (↑k))]) (va_cwS 1 hts gX4_loadPacked_X4_first rfl rfl rfl (by decide +kernel) ⟨Nat.le_of_ble_eq_true rfl, Nat.le_of_ble_eq_true rfl⟩) [] [0, 1, 2, 3, 4, 5, 6, 7, 8] [0, 1, 2, 3, 4, 5, 6, 7, 8] rfl rfl ⟨by decide, by decide, by decide⟩ (fun _ => rfl) rfl hl.1 rfl (Nat.le_of_ble_eq_true rfl) dX4_loadPacked_98 ⟨Nat.le_of_ble_eq_true rfl, Nat.le_of_ble_eq_true rfl⟩ (fun rv u H locs hq10 hp => ?_)
                  obtain rfl : rv = iZ (stubZ (2 * k)) := hq10
                  refine z_iast hx hb hp 7 rfl ((org + n + u4.2.2.1.toNat) + 2 * k) (by omega) dX4_loadPacked_101 (ws' := [oR mq 0 (↑n) mp (↑org) ent u4.1 u4.2.2.1 u4.2.1 m1 m2 m3 m4 m5 m6 m7 m8 (↑(org + n + u4.2.2.1.toNat)) 0 0 0 m9, aI cI mp 160 pb, aI cI m1 400 u4.2.2.2.1, aI cI m2 161 u4.2.2.2.2.1, aI cI m3 161 u4.2.2.2.2.2.1, aI cI m4 161 u4.2.2.2.2.2.2.1, aI cI m5 161 u4.2.2.2.2.2.2.2, aI cI m7 256 (upZ f ((org + n + u4.2.2.1.toNat) + 2 * k) (stubZ (2 * k))), aI cI m8 8 (fun _ => 0)]) rfl (fun H locs hp => ?_)
                  refine lv_aload_n hx hb dX4_loadPacked_102 rfl (lv_at hl 2 rfl) ?_
                  refine z_get hx hb hts hi4 hown hp 0 rfl rfl 14 (by decide) f31 rfl dX4_loadPacked_103 ?_
                  refine lv_iload_n hx hb dX4_loadPacked_106 rfl (lv_at hl 1 rfl) ?_
                  refine z_iconst hx hb dX4_loadPacked_107 ?_
                  refine lv_iload_n hx hb dX4_loadPacked_108 rfl (lv_at hl 0 rfl) ?_
                  refine z_imul hx hb (2 * (↑k)) (rfl) dX4_loadPacked_109 ?_
                  refine z_iadd hx hb (↑((org + n + u4.2.2.1.toNat) + 2 * k)) (by omega) dX4_loadPacked_110 ?_
                  refine z_iconst hx hb dX4_loadPacked_111 ?_
                  refine z_iadd hx hb (↑((org + n + u4.2.2.1.toNat) + 2 * k + 1)) (by omega) dX4_loadPacked_112 ?_
                  refine lv_aload_n hx hb dX4_loadPacked_113 rfl (lv_at hl 2 rfl) ?_
                  refine lv_iload_n hx hb dX4_loadPacked_114 rfl (lv_at hl 0 rfl) ?_
                  refine lv_iload_n hx hb dX4_loadPacked_115 rfl (lv_at hl 1 rfl) ?_
                  refine zc_i (wr := [aI cI mp 160 pb, aI cI m1 400 u4.2.2.2.1, aI cI m2 161 u4.2.2.2.2.1, aI cI m3 161 u4.2.2.2.2.2.1, aI cI m4 161 u4.2.2.2.2.2.2.1, aI cI m5 161 u4.2.2.2.2.2.2.2, aI cI m7 256 (upZ f ((org + n + u4.2.2.1.toNat) + 2 * k) (stubZ (2 * k))), aI cI m8 8 (fun _ => 0)]) (W0 := [oR mq 0 (↑n) mp (↑org) ent u4.1 u4.2.2.1 u4.2.1 m1 m2 m3 m4 m5 m6 m7 m8 (↑(org + n + u4.2.2.1.toNat)) 0 0 0 m9]) (wl2 := fun (u : Unit) => [oR mq 0 (↑n) mp (↑org) ent u4.1 u4.2.2.1 u4.2.1 m1 m2 m3 m4 m5 m6 m7 m8 (↑(org + n + u4.2.2.1.toNat)) 0 0 0 m9, aI cI mp 160 pb, aI cI m1 400 u4.2.2.2.1, aI cI m2 161 u4.2.2.2.2.1, aI cI m3 161 u4.2.2.2.2.2.1, aI cI m4 161 u4.2.2.2.2.2.2.1, aI cI m5 161 u4.2.2.2.2.2.2.2, aI cI m7 256 (upZ f ((org + n + u4.2.2.1.toNat) + 2 * k) (stubZ (2 * k))), aI cI m8 8 (fun _ => 0)]) (As := [.int (iZ (↑k)), .int (iZ (↑(org + n + u4.2.2.1.toNat)))]) (rest := [.int (iZ (↑((org + n + u4.2.2.1.toNat) + 2 * k + 1))), .ref m7]) hx hb hml hown hts hp (c_X4_second l G cI H.size mq mp m1 m2 m3 m4 m5 m6 m7 m8 m9 n org 0 ent u4.1 u4.2.2.1 u4.2.1 (↑(org + n + u4.2.2.1.toNat)) 0 0 0 k ((org + n + u4.2.2.1.toNat)) (by omega) (by omega) (by omega) (by omega)) zPre_blind (z_pre hp [0] rfl (by decide) [.ref mq, .int (iZ (↑k)), .int (iZ (↑(org + n + u4.2.2.1.toNat)))]) (cwV 2 hts gX4_loadPacked_X4_second rfl rfl rfl (by decide +kernel) ⟨Nat.le_of_ble_eq_true rfl, Nat.le_of_ble_eq_true rfl⟩) [0] [1, 2, 3, 4, 5, 6, 7, 8] [8, 0, 1, 2, 3, 4, 5, 6, 7] rfl rfl ⟨by decide, by decide, by decide⟩ (fun _ => rfl) 0 4 rfl rfl rfl rfl hl.1 rfl (Nat.le_of_ble_eq_true rfl) dX4_loadPacked_116 ⟨Nat.le_of_ble_eq_true rfl, Nat.le_of_ble_eq_true rfl⟩ (fun rv u H locs hq11 hp => ?_)
                  obtain rfl : rv = iZ (stubV ((org + n + u4.2.2.1.toNat)) (↑((org + n + u4.2.2.1.toNat)) - u4.2.1) ↑org ent (2 * k + 1)) := hq11
                  refine z_iast hx hb hp 7 rfl ((org + n + u4.2.2.1.toNat) + 2 * k + 1) (by omega) dX4_loadPacked_119 (ws' := [oR mq 0 (↑n) mp (↑org) ent u4.1 u4.2.2.1 u4.2.1 m1 m2 m3 m4 m5 m6 m7 m8 (↑(org + n + u4.2.2.1.toNat)) 0 0 0 m9, aI cI mp 160 pb, aI cI m1 400 u4.2.2.2.1, aI cI m2 161 u4.2.2.2.2.1, aI cI m3 161 u4.2.2.2.2.2.1, aI cI m4 161 u4.2.2.2.2.2.2.1, aI cI m5 161 u4.2.2.2.2.2.2.2, aI cI m7 256 (upZ (upZ f ((org + n + u4.2.2.1.toNat) + 2 * k) (stubZ (2 * k))) ((org + n + u4.2.2.1.toNat) + 2 * k + 1) (stubV ((org + n + u4.2.2.1.toNat)) (↑((org + n + u4.2.2.1.toNat)) - u4.2.1) ↑org ent (2 * k + 1))), aI cI m8 8 (fun _ => 0)]) rfl (fun H locs hp => ?_)
                  refine z_iinc (k := 0) (lv' := [(2, .int (iZ (↑(k + 1)))), (1, .int (iZ (↑(org + n + u4.2.2.1.toNat)))), (0, .ref mq)]) hx hb (↑(k + 1)) (by omega) dX4_loadPacked_120 hl rfl (by decide) rfl (fun ls hl => ?_)
                  refine lv_goto (tgt := 82) hx hb dX4_loadPacked_123 (by decide) ?_
                  exact ih_lp8 (k + 1) (upZ (upZ f ((org + n + u4.2.2.1.toNat) + 2 * k) (stubZ (2 * k))) ((org + n + u4.2.2.1.toNat) + 2 * k + 1) (stubV (org + n + u4.2.2.1.toNat) (↑(org + n + u4.2.2.1.toNat) - u4.2.1) ↑org ent (2 * k + 1))) _ _ _ (by omega) (stub2 hf (stubV_even _ _ _ _ _ (by omega)).symm rfl) (by omega) hp (lv_sub hl [0, 1, 2] rfl)
            exact lp8 _ 0 (cpZ u4.2.2.2.1 (fun _ => 0) 0 ((org + n + u4.2.2.1.toNat) - u4.2.1.toNat) u4.2.1.toNat) _ _ _ (by omega) (fun j => by rw [if_neg (by omega)]) (Nat.lt_succ_self _) hp (lv_sub hl [0, 1, 2] rfl)
          · skip
            refine lv_aload_n hx hb dX4_loadPacked_55 rfl (lv_at hl 2 rfl) ?_
            refine z_get hx hb hts hi4 hown hp 0 rfl rfl 14 (by decide) f31 rfl dX4_loadPacked_56 ?_
            refine lv_iload_n hx hb dX4_loadPacked_59 rfl (lv_at hl 1 rfl) ?_
            refine lv_aload_n hx hb dX4_loadPacked_60 rfl (lv_at hl 2 rfl) ?_
            refine z_get hx hb hts hi4 hown hp 0 rfl rfl 7 (by decide) f74 rfl dX4_loadPacked_61 ?_
            refine z_isub hx hb ((↑(org + n + u4.2.2.1.toNat)) - u4.2.1) (rfl) dX4_loadPacked_64 ?_
            refine lv_iload_n hx hb dX4_loadPacked_65 rfl (lv_at hl 0 rfl) ?_
            refine z_iadd hx hb (↑((org + n + u4.2.2.1.toNat) - u4.2.1.toNat + i)) (by omega) dX4_loadPacked_66 ?_
            refine lv_aload_n hx hb dX4_loadPacked_67 rfl (lv_at hl 2 rfl) ?_
            refine z_get hx hb hts hi4 hown hp 0 rfl rfl 8 (by decide) f13 rfl dX4_loadPacked_68 ?_
            refine lv_iload_n hx hb dX4_loadPacked_71 rfl (lv_at hl 0 rfl) ?_
            refine z_iald hx hb hp 2 rfl (i) (by omega) dX4_loadPacked_72 (u4.2.2.2.1 i) (rfl) ?_
            refine z_iast hx hb hp 7 rfl ((org + n + u4.2.2.1.toNat) - u4.2.1.toNat + i) (by omega) dX4_loadPacked_73 (ws' := [oR mq 0 (↑n) mp (↑org) ent u4.1 u4.2.2.1 u4.2.1 m1 m2 m3 m4 m5 m6 m7 m8 (↑(org + n + u4.2.2.1.toNat)) 0 0 0 m9, aI cI mp 160 pb, aI cI m1 400 u4.2.2.2.1, aI cI m2 161 u4.2.2.2.2.1, aI cI m3 161 u4.2.2.2.2.2.1, aI cI m4 161 u4.2.2.2.2.2.2.1, aI cI m5 161 u4.2.2.2.2.2.2.2, aI cI m7 256 (upZ (cpZ u4.2.2.2.1 (fun _ => 0) 0 ((org + n + u4.2.2.1.toNat) - u4.2.1.toNat) i) ((org + n + u4.2.2.1.toNat) - u4.2.1.toNat + i) (u4.2.2.2.1 i)), aI cI m8 8 (fun _ => 0)]) rfl (fun H locs hp => ?_)
            have hp := z_alike hp 7 rfl (cpZ u4.2.2.2.1 (fun _ => 0) 0 ((org + n + u4.2.2.1.toNat) - u4.2.1.toNat) (i + 1)) (fun j _ => by rw [cpZ_up, Nat.zero_add]) (ws' := [oR mq 0 (↑n) mp (↑org) ent u4.1 u4.2.2.1 u4.2.1 m1 m2 m3 m4 m5 m6 m7 m8 (↑(org + n + u4.2.2.1.toNat)) 0 0 0 m9, aI cI mp 160 pb, aI cI m1 400 u4.2.2.2.1, aI cI m2 161 u4.2.2.2.2.1, aI cI m3 161 u4.2.2.2.2.2.1, aI cI m4 161 u4.2.2.2.2.2.2.1, aI cI m5 161 u4.2.2.2.2.2.2.2, aI cI m7 256 (cpZ u4.2.2.2.1 (fun _ => 0) 0 ((org + n + u4.2.2.1.toNat) - u4.2.1.toNat) (i + 1)), aI cI m8 8 (fun _ => 0)]) rfl
            refine z_iinc (k := 0) (lv' := [(2, .int (iZ (↑(i + 1)))), (1, .int (iZ (↑(org + n + u4.2.2.1.toNat)))), (0, .ref mq)]) hx hb (↑(i + 1)) (by omega) dX4_loadPacked_74 hl rfl (by decide) rfl (fun ls hl => ?_)
            refine lv_goto (tgt := 47) hx hb dX4_loadPacked_77 (by decide) ?_
            exact ih_lp6 (i + 1) _ _ _ (by omega) (by omega) hp (lv_sub hl [0, 1, 2] rfl)
      exact lp6 _ 0 _ _ _ (by omega) (Nat.lt_succ_self _) hp (lv_sub hl [0, 1, 2] rfl)
    · skip
      refine z_iconst hx hb dX4_loadPacked_23 ?_
      exact hret _ _ _ _ _ _ _ (t, u4, mem, regs, pl, st, sp, po) (⟨ht, hpk1, hpk2, fun q => by dsimp only at q; omega, fun _ => rfl⟩) hp dX4_loadPacked_24 (rfl) (Nat.le_of_ble_eq_true rfl) (Nat.le_of_ble_eq_true rfl)
  refine z_if_eq (tgt := 12) hx hb dX4_loadPacked_5 (by decide) (by omega) (fun h12 => ?_) (fun h12 => ?_)
  · skip
    refine z_iconst hx hb dX4_loadPacked_12 ?_
    exact jn2 1 _ _ _ (by (repeat' split) <;> omega) hp (lv_sub hl [0] rfl)
  · skip
    refine z_iconst hx hb dX4_loadPacked_8 ?_
    refine lv_goto (tgt := 13) hx hb dX4_loadPacked_9 (by decide) ?_
    exact jn2 0 _ _ _ (by (repeat' split) <;> omega) hp (lv_sub hl [0] rfl)
