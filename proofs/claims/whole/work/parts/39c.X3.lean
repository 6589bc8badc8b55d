abbrev rmX3_isByte : Room := { frames := 0, cells := 0, slots := 0, locals := 0 }
set_option maxRecDepth 100000 in
set_option maxHeartbeats 4000000 in
theorem c_X3_isByte (l : Launch) (G : va_G) (cI : ClassId) (sz : Nat) (v : Int) (h_v : rg v) : Met l yX3_isByte wsX3_isByte rmX3_isByte (zPre G cI [] sz [.int (iZ (v))]) (va_Qi (fun (r : Int32) (u : Unit) => r = iZ (if 0 ≤ v ∧ v < 256 then 1 else 0)) (fun (u : Unit) t => zB G cI (va_A [] sz) [] t) (va_A [] sz)) 0 0 (va_A [] sz) := by
  refine zm_i (W1 := fun (u : Unit) => []) (cc := cX3_isByte) (maxL := 1) (ty := .boolean) (by decide) rfl (Nat.le_of_ble_eq_true rfl) ?_
  intro p e s m args below meth c A Q ls hsz hx hb hml hown hts hret hp hl
  have hl : lv_has ls 1 [(0, .int (iZ (v)))] := hl
  suffices hw : ∀ (H : Heap) (locs : List Loc), Hp G cI A s H locs [] → W p l e rmX3_isByte s m args below meth c H locs 0 0 Q (F0 m 0 ls []) from hw _ _ hp
  clear hp; intro H locs hp
  refine lv_iload_n hx hb dX3_isByte_0 rfl (lv_at hl 0 rfl) ?_
  refine z_if_lt (tgt := 15) hx hb dX3_isByte_1 (by decide) (by omega) (fun h1 => ?_) (fun h1 => ?_)
  · skip
    refine z_iconst hx hb dX3_isByte_15 ?_
    exact hret _ _ _ _ _ _ _ () (congrArg iZ (by (repeat' split) <;> omega)) hp dX3_isByte_16 (by decide +kernel) (Nat.le_of_ble_eq_true rfl) (Nat.le_of_ble_eq_true rfl)
  · skip
    refine lv_iload_n hx hb dX3_isByte_4 rfl (lv_at hl 0 rfl) ?_
    refine z_sipush hx hb dX3_isByte_5 (by decide +kernel) ?_
    refine z_icmp_gt (tgt := 15) hx hb dX3_isByte_8 (by decide) (by omega) (fun h2 => ?_) (fun h2 => ?_)
    · skip
      refine z_iconst hx hb dX3_isByte_15 ?_
      exact hret _ _ _ _ _ _ _ () (congrArg iZ (by (repeat' split) <;> omega)) hp dX3_isByte_16 (by decide +kernel) (Nat.le_of_ble_eq_true rfl) (Nat.le_of_ble_eq_true rfl)
    · skip
      refine z_iconst hx hb dX3_isByte_11 ?_
      refine lv_goto (tgt := 16) hx hb dX3_isByte_12 (by decide) ?_
      exact hret _ _ _ _ _ _ _ () (congrArg iZ (by (repeat' split) <;> omega)) hp dX3_isByte_16 (by decide +kernel) (Nat.le_of_ble_eq_true rfl) (Nat.le_of_ble_eq_true rfl)
abbrev rmX3_init : Room := { frames := 3, cells := 13, slots := 1442, locals := 70 }
set_option maxRecDepth 100000 in
set_option maxHeartbeats 4000000 in
theorem c_X3_init (l : Launch) (G : va_G) (cI : ClassId) (sz : Nat) (sq : Nat)  : Met l yX3_init wsX3_init rmX3_init (zPre G cI [(sq, .inr (3, [.null, .null, .null]))] sz [.ref sq]) (va_Qv (fun (u : Nat × (Nat × Nat × Nat × Nat × Nat × Nat × Nat × Nat) × Nat × Nat × Nat × Nat) => True) (fun (u : Nat × (Nat × Nat × Nat × Nat × Nat × Nat × Nat × Nat) × Nat × Nat × Nat × Nat) t => zB G cI (va_A [(sq, .inr (3, [.null, .null, .null]))] sz) [oS sq u.1 u.2.1.1 u.2.2.1, oK u.1 u.2.1.1 u.2.1.2.2.2.1 0 0 (-1) u.2.1.2.2.2.2.1 u.2.1.2.2.2.2.2.1 u.2.1.2.2.2.2.2.2.1 u.2.1.2.2.2.2.2.2.2, oP u.2.1.1 u.2.1.2.1 u.2.1.2.2.1 0 0 0 0, aI cI u.2.1.2.1 160 (fun _ => 0), aI cI u.2.1.2.2.1 160 (fun _ => 0), aI cI u.2.1.2.2.2.1 163 (fun _ => 0), aI cI u.2.1.2.2.2.2.1 161 (fun _ => 0), aI cI u.2.1.2.2.2.2.2.1 160 (fun _ => 0), aI cI u.2.1.2.2.2.2.2.2.1 160 (fun _ => 0), aI cI u.2.1.2.2.2.2.2.2.2 160 (fun _ => 0), oM u.2.2.1 u.2.2.2.1 u.2.2.2.2.1 u.2.2.2.2.2 0 1 0 0, aI cI u.2.2.2.1 256 (fun _ => 0), aI cI u.2.2.2.2.1 8 (fun _ => 0), aI cI u.2.2.2.2.2 32 (fun _ => 0)] t) (va_A [(sq, .inr (3, [.null, .null, .null]))] sz)) 13 1442 (va_A [(sq, .inr (3, [.null, .null, .null]))] sz) := by
  refine zm_v (W1 := fun (u : Nat × (Nat × Nat × Nat × Nat × Nat × Nat × Nat × Nat) × Nat × Nat × Nat × Nat) => [oS sq u.1 u.2.1.1 u.2.2.1, oK u.1 u.2.1.1 u.2.1.2.2.2.1 0 0 (-1) u.2.1.2.2.2.2.1 u.2.1.2.2.2.2.2.1 u.2.1.2.2.2.2.2.2.1 u.2.1.2.2.2.2.2.2.2, oP u.2.1.1 u.2.1.2.1 u.2.1.2.2.1 0 0 0 0, aI cI u.2.1.2.1 160 (fun _ => 0), aI cI u.2.1.2.2.1 160 (fun _ => 0), aI cI u.2.1.2.2.2.1 163 (fun _ => 0), aI cI u.2.1.2.2.2.2.1 161 (fun _ => 0), aI cI u.2.1.2.2.2.2.2.1 160 (fun _ => 0), aI cI u.2.1.2.2.2.2.2.2.1 160 (fun _ => 0), aI cI u.2.1.2.2.2.2.2.2.2 160 (fun _ => 0), oM u.2.2.1 u.2.2.2.1 u.2.2.2.2.1 u.2.2.2.2.2 0 1 0 0, aI cI u.2.2.2.1 256 (fun _ => 0), aI cI u.2.2.2.2.1 8 (fun _ => 0), aI cI u.2.2.2.2.2 32 (fun _ => 0)]) (cc := cX3_init) (maxL := 1) (by decide) rfl (Nat.le_of_ble_eq_true rfl) ?_
  intro p e s m args below meth c A Q ls hsz hx hb hml hown hts hnm hret hp hl
  have hl : lv_has ls 1 [(0, .ref sq)] := hl
  have m1 := hts (.methodLink RX3 1 objectInit) (List.mem_of_getElem? (i := 1) rfl)
  have io := hts (.instanceMethod objectInit) (List.mem_of_getElem? (i := 2) rfl)
  have co := hts (.code objectInit ⟨#[0xb1]⟩ 1 none) (List.mem_of_getElem? (i := 3) rfl)
  have l7 := hts (.classLink RX3 7 RX1) (List.mem_of_getElem? (i := 4) rfl)
  have nX1 := hts (.instantiable RX1 9) (List.mem_of_getElem? (i := 5) rfl)
  have iniX1 := hts (.initialized RX1) (List.mem_of_getElem? (i := 6) rfl)
  have hi1 : ∀ w ∈ wsX10, w ∈ wsX3_init := fun w h => List.mem_cons_of_mem _ (List.mem_append_left _ (List.mem_append_left _ (List.mem_append_left _ (List.mem_append_right _ (h)))))
  have m9 := hts (.methodLink RX3 9 yX1_init) (List.mem_of_getElem? (i := 14) rfl)
  have iX1_init := hts (.instanceMethod yX1_init) (List.mem_of_getElem? (i := 15) rfl)
  have hi3 : ∀ w ∈ wsX30, w ∈ wsX3_init := fun w h => List.mem_cons_of_mem _ (List.mem_append_left _ (List.mem_append_left _ (List.mem_append_right _ (h))))
  have f10 := hts (.fieldLink RX3 10 "SelfOpener" "packing" "LSelfOpener$Packing;") (List.mem_of_getElem? (i := 7) rfl)
  have f16 := hts (.fieldLink RX3 16 "SelfOpener$Packing" "program" "LSelfOpener$Program;") (List.mem_of_getElem? (i := 8) rfl)
  have f20 := hts (.fieldLink RX3 20 "SelfOpener" "program" "LSelfOpener$Program;") (List.mem_of_getElem? (i := 9) rfl)
  have l21 := hts (.classLink RX3 21 RX0) (List.mem_of_getElem? (i := 10) rfl)
  have nX0 := hts (.instantiable RX0 7) (List.mem_of_getElem? (i := 11) rfl)
  have iniX0 := hts (.initialized RX0) (List.mem_of_getElem? (i := 12) rfl)
  have hi0 : ∀ w ∈ wsX00, w ∈ wsX3_init := fun w h => List.mem_cons_of_mem _ (List.mem_append_left _ (List.mem_append_right _ (h)))
  have m23 := hts (.methodLink RX3 23 yX0_init) (List.mem_of_getElem? (i := 35) rfl)
  have iX0_init := hts (.instanceMethod yX0_init) (List.mem_of_getElem? (i := 36) rfl)
  have f24 := hts (.fieldLink RX3 24 "SelfOpener" "machine" "LSelfOpener$Machine;") (List.mem_of_getElem? (i := 13) rfl)
  suffices hw : ∀ (H : Heap) (locs : List Loc), Hp G cI A s H locs [(sq, .inr (3, [.null, .null, .null]))] → W p l e rmX3_init s m args below meth c H locs 0 0 Q (F0 m 0 ls []) from hw _ _ hp
  clear hp; intro H locs hp
  refine lv_aload_n hx hb dX3_init_0 rfl (lv_at hl 0 rfl) ?_
  refine W.objInit hx hb hown m1 io co rfl (by rw [hml]; exact hl.1) rfl dX3_init_1 (Nat.le_of_ble_eq_true rfl) (Nat.le_of_ble_eq_true rfl) ?_
  refine W.eq (g2 := F0 m 4 ls []) rfl ?_
  refine lv_aload_n hx hb dX3_init_4 rfl (lv_at hl 0 rfl) ?_
  refine z_new (ci := 1) (fs := [.null, .null, .int (iZ (0)), .int (iZ (0)), .int (iZ (0)), .null, .null, .null, .null]) hx hb hts hi1 tyX1 tyX1_ok hown l7 nX1 iniX1 hp rfl (by decide +kernel) (Nat.le_of_ble_eq_true rfl) (Nat.le_of_ble_eq_true rfl) dX3_init_5 (fun kq H hp => ?_)
  have hp : Hp G cI A s H locs [(sq, .inr (3, [.null, .null, .null])), (kq, .inr (1, [.null, .null, .int (iZ (0)), .int (iZ (0)), .int (iZ (0)), .null, .null, .null, .null]))] := hp
  refine lv_dup hx hb dX3_init_8 rfl ?_
  refine zn_v (wr := [(sq, .inr (3, [.null, .null, .null]))]) (W0 := [(kq, .inr (1, [.null, .null, .int (iZ (0)), .int (iZ (0)), .int (iZ (0)), .null, .null, .null, .null]))]) (wl2 := fun (u : Nat × Nat × Nat × Nat × Nat × Nat × Nat × Nat) => [(sq, .inr (3, [.null, .null, .null])), oK kq u.1 u.2.2.2.1 0 0 (-1) u.2.2.2.2.1 u.2.2.2.2.2.1 u.2.2.2.2.2.2.1 u.2.2.2.2.2.2.2, oP u.1 u.2.1 u.2.2.1 0 0 0 0, aI cI u.2.1 160 (fun _ => 0), aI cI u.2.2.1 160 (fun _ => 0), aI cI u.2.2.2.1 163 (fun _ => 0), aI cI u.2.2.2.2.1 161 (fun _ => 0), aI cI u.2.2.2.2.2.1 160 (fun _ => 0), aI cI u.2.2.2.2.2.2.1 160 (fun _ => 0), aI cI u.2.2.2.2.2.2.2 160 (fun _ => 0)]) (As := []) (rest := [.ref kq, .ref sq]) hx hb hml hown hts hp (c_X1_init l G cI H.size kq) zPre_blind (z_pre hp [1] rfl (by decide) [.ref kq]) (cwI 0 hts gX3_init_X1_init rfl rfl rfl iniX1 m9 iX1_init rfl (by decide +kernel) ⟨Nat.le_of_ble_eq_true rfl, Nat.le_of_ble_eq_true rfl⟩) [1] [0] [0, 1, 2, 3, 4, 5, 6, 7, 8, 9] rfl rfl ⟨by decide, by decide, by decide⟩ (fun _ => rfl) rfl hl.1 rfl (Nat.le_of_ble_eq_true rfl) dX3_init_9 ⟨Nat.le_of_ble_eq_true rfl, Nat.le_of_ble_eq_true rfl⟩ (fun u1 H locs hq1 hp => ?_)
  refine z_putF hx hb hts hi3 tyX3 tyX3_ok nmX3 hown hp 0 rfl rfl 0 (by decide) f10 rfl hnm rfl (rfl) (rfl) (Nat.le_of_ble_eq_true rfl) dX3_init_12 (ws' := [(sq, .inr (3, [.ref kq, .null, .null])), oK kq u1.1 u1.2.2.2.1 0 0 (-1) u1.2.2.2.2.1 u1.2.2.2.2.2.1 u1.2.2.2.2.2.2.1 u1.2.2.2.2.2.2.2, oP u1.1 u1.2.1 u1.2.2.1 0 0 0 0, aI cI u1.2.1 160 (fun _ => 0), aI cI u1.2.2.1 160 (fun _ => 0), aI cI u1.2.2.2.1 163 (fun _ => 0), aI cI u1.2.2.2.2.1 161 (fun _ => 0), aI cI u1.2.2.2.2.2.1 160 (fun _ => 0), aI cI u1.2.2.2.2.2.2.1 160 (fun _ => 0), aI cI u1.2.2.2.2.2.2.2 160 (fun _ => 0)]) rfl (fun H locs hp => ?_)
  refine lv_aload_n hx hb dX3_init_15 rfl (lv_at hl 0 rfl) ?_
  refine lv_aload_n hx hb dX3_init_16 rfl (lv_at hl 0 rfl) ?_
  refine z_get hx hb hts hi3 hown hp 0 rfl rfl 0 (by decide) f10 rfl dX3_init_17 ?_
  refine z_get hx hb hts hi1 hown hp 1 rfl rfl 0 (by decide) f16 rfl dX3_init_20 ?_
  refine z_putF hx hb hts hi3 tyX3 tyX3_ok nmX3 hown hp 0 rfl rfl 1 (by decide) f20 rfl hnm rfl (rfl) (rfl) (Nat.le_of_ble_eq_true rfl) dX3_init_23 (ws' := [(sq, .inr (3, [.ref kq, .ref u1.1, .null])), oK kq u1.1 u1.2.2.2.1 0 0 (-1) u1.2.2.2.2.1 u1.2.2.2.2.2.1 u1.2.2.2.2.2.2.1 u1.2.2.2.2.2.2.2, oP u1.1 u1.2.1 u1.2.2.1 0 0 0 0, aI cI u1.2.1 160 (fun _ => 0), aI cI u1.2.2.1 160 (fun _ => 0), aI cI u1.2.2.2.1 163 (fun _ => 0), aI cI u1.2.2.2.2.1 161 (fun _ => 0), aI cI u1.2.2.2.2.2.1 160 (fun _ => 0), aI cI u1.2.2.2.2.2.2.1 160 (fun _ => 0), aI cI u1.2.2.2.2.2.2.2 160 (fun _ => 0)]) rfl (fun H locs hp => ?_)
  refine lv_aload_n hx hb dX3_init_26 rfl (lv_at hl 0 rfl) ?_
  refine z_new (ci := 0) (fs := [.null, .null, .null, .int (iZ (0)), .int (iZ (0)), .int (iZ (0)), .int (iZ (0))]) hx hb hts hi0 tyX0 tyX0_ok hown l21 nX0 iniX0 hp rfl (by decide +kernel) (Nat.le_of_ble_eq_true rfl) (Nat.le_of_ble_eq_true rfl) dX3_init_27 (fun q0 H hp => ?_)
  have hp : Hp G cI A s H locs [(sq, .inr (3, [.ref kq, .ref u1.1, .null])), oK kq u1.1 u1.2.2.2.1 0 0 (-1) u1.2.2.2.2.1 u1.2.2.2.2.2.1 u1.2.2.2.2.2.2.1 u1.2.2.2.2.2.2.2, oP u1.1 u1.2.1 u1.2.2.1 0 0 0 0, aI cI u1.2.1 160 (fun _ => 0), aI cI u1.2.2.1 160 (fun _ => 0), aI cI u1.2.2.2.1 163 (fun _ => 0), aI cI u1.2.2.2.2.1 161 (fun _ => 0), aI cI u1.2.2.2.2.2.1 160 (fun _ => 0), aI cI u1.2.2.2.2.2.2.1 160 (fun _ => 0), aI cI u1.2.2.2.2.2.2.2 160 (fun _ => 0), (q0, .inr (0, [.null, .null, .null, .int (iZ (0)), .int (iZ (0)), .int (iZ (0)), .int (iZ (0))]))] := hp
  refine lv_dup hx hb dX3_init_30 rfl ?_
  refine zn_v (wr := [(sq, .inr (3, [.ref kq, .ref u1.1, .null])), oK kq u1.1 u1.2.2.2.1 0 0 (-1) u1.2.2.2.2.1 u1.2.2.2.2.2.1 u1.2.2.2.2.2.2.1 u1.2.2.2.2.2.2.2, oP u1.1 u1.2.1 u1.2.2.1 0 0 0 0, aI cI u1.2.1 160 (fun _ => 0), aI cI u1.2.2.1 160 (fun _ => 0), aI cI u1.2.2.2.1 163 (fun _ => 0), aI cI u1.2.2.2.2.1 161 (fun _ => 0), aI cI u1.2.2.2.2.2.1 160 (fun _ => 0), aI cI u1.2.2.2.2.2.2.1 160 (fun _ => 0), aI cI u1.2.2.2.2.2.2.2 160 (fun _ => 0)]) (W0 := [(q0, .inr (0, [.null, .null, .null, .int (iZ (0)), .int (iZ (0)), .int (iZ (0)), .int (iZ (0))]))]) (wl2 := fun (u : Nat × Nat × Nat) => [(sq, .inr (3, [.ref kq, .ref u1.1, .null])), oK kq u1.1 u1.2.2.2.1 0 0 (-1) u1.2.2.2.2.1 u1.2.2.2.2.2.1 u1.2.2.2.2.2.2.1 u1.2.2.2.2.2.2.2, oP u1.1 u1.2.1 u1.2.2.1 0 0 0 0, aI cI u1.2.1 160 (fun _ => 0), aI cI u1.2.2.1 160 (fun _ => 0), aI cI u1.2.2.2.1 163 (fun _ => 0), aI cI u1.2.2.2.2.1 161 (fun _ => 0), aI cI u1.2.2.2.2.2.1 160 (fun _ => 0), aI cI u1.2.2.2.2.2.2.1 160 (fun _ => 0), aI cI u1.2.2.2.2.2.2.2 160 (fun _ => 0), oM q0 u.1 u.2.1 u.2.2 0 1 0 0, aI cI u.1 256 (fun _ => 0), aI cI u.2.1 8 (fun _ => 0), aI cI u.2.2 32 (fun _ => 0)]) (As := []) (rest := [.ref q0, .ref sq]) hx hb hml hown hts hp (c_X0_init l G cI H.size q0) zPre_blind (z_pre hp [10] rfl (by decide) [.ref q0]) (cwI 0 hts gX3_init_X0_init rfl rfl rfl iniX0 m23 iX0_init rfl (by decide +kernel) ⟨Nat.le_of_ble_eq_true rfl, Nat.le_of_ble_eq_true rfl⟩) [10] [0, 1, 2, 3, 4, 5, 6, 7, 8, 9] [0, 1, 2, 3, 4, 5, 6, 7, 8, 9, 10, 11, 12, 13] rfl rfl ⟨by decide, by decide, by decide⟩ (fun _ => rfl) rfl hl.1 rfl (Nat.le_of_ble_eq_true rfl) dX3_init_31 ⟨Nat.le_of_ble_eq_true rfl, Nat.le_of_ble_eq_true rfl⟩ (fun u0 H locs hq2 hp => ?_)
  refine z_putF hx hb hts hi3 tyX3 tyX3_ok nmX3 hown hp 0 rfl rfl 2 (by decide) f24 rfl hnm rfl (rfl) (rfl) (Nat.le_of_ble_eq_true rfl) dX3_init_34 (ws' := [oS sq kq u1.1 q0, oK kq u1.1 u1.2.2.2.1 0 0 (-1) u1.2.2.2.2.1 u1.2.2.2.2.2.1 u1.2.2.2.2.2.2.1 u1.2.2.2.2.2.2.2, oP u1.1 u1.2.1 u1.2.2.1 0 0 0 0, aI cI u1.2.1 160 (fun _ => 0), aI cI u1.2.2.1 160 (fun _ => 0), aI cI u1.2.2.2.1 163 (fun _ => 0), aI cI u1.2.2.2.2.1 161 (fun _ => 0), aI cI u1.2.2.2.2.2.1 160 (fun _ => 0), aI cI u1.2.2.2.2.2.2.1 160 (fun _ => 0), aI cI u1.2.2.2.2.2.2.2 160 (fun _ => 0), oM q0 u0.1 u0.2.1 u0.2.2 0 1 0 0, aI cI u0.1 256 (fun _ => 0), aI cI u0.2.1 8 (fun _ => 0), aI cI u0.2.2 32 (fun _ => 0)]) rfl (fun H locs hp => ?_)
  exact hret _ _ _ _ _ _ (kq, u1, q0, u0.1, u0.2.1, u0.2.2) (trivial) hp dX3_init_37 (Nat.le_of_ble_eq_true rfl) (Nat.le_of_ble_eq_true rfl)
abbrev rmX3_put : Room := { frames := 1, cells := 0, slots := 0, locals := 40 }
set_option maxRecDepth 100000 in
set_option maxHeartbeats 4000000 in
theorem c_X3_put (l : Launch) (G : va_G) (cI : ClassId) (sz : Nat) (sq kq q2 q0 : Nat) (b2 o2 : Nat) (pb : Nat → Int) (n org : Nat) (ent ed : Int) (w : Int64) (k : Int) (h_n : n ≤ 160) (h_k : rg k) : Met l yX3_put wsX3_put rmX3_put (zPre G cI [oS sq kq q2 q0, oP q2 b2 o2 (↑n) (↑org) ent ed, aI cI b2 160 pb] sz [.ref sq, .long (w), .int (iZ (k))]) (va_Qi (fun (r : Int32) (u : Nat) => r = iZ (if 1 ≤ k ∧ k ≤ 8 ∧ ↑n + k ≤ 160 then 1 else 0) ∧ u = if 1 ≤ k ∧ k ≤ 8 ∧ ↑n + k ≤ 160 then k.toNat else 0) (fun (u : Nat) t => zB G cI (va_A [oS sq kq q2 q0, oP q2 b2 o2 (↑n) (↑org) ent ed, aI cI b2 160 pb] sz) [oS sq kq q2 q0, oP q2 b2 o2 (↑(n + u)) (↑org) ent (ed + ↑u), aI cI b2 160 (cpZ (byteZ w) pb 0 n u)] t) (va_A [oS sq kq q2 q0, oP q2 b2 o2 (↑n) (↑org) ent ed, aI cI b2 160 pb] sz)) 0 0 (va_A [oS sq kq q2 q0, oP q2 b2 o2 (↑n) (↑org) ent ed, aI cI b2 160 pb] sz) := by
  refine zm_i (W1 := fun (u : Nat) => [oS sq kq q2 q0, oP q2 b2 o2 (((n + u : Nat) : Int)) (((org : Nat) : Int)) ent (ed + ((u : Nat) : Int)), aI cI b2 160 (cpZ (byteZ w) pb 0 n u)]) (cc := cX3_put) (maxL := 7) (ty := .boolean) (by decide) rfl (Nat.le_of_ble_eq_true rfl) ?_
  intro p e s m args below meth c A Q ls hsz hx hb hml hown hts hret hp hl
  have hl : lv_has ls 7 [(0, .ref sq), (1, .long (w)), (3, .int (iZ (k)))] := hl
  have hi3 : ∀ w ∈ wsX30, w ∈ wsX3_put := fun w h => List.mem_cons_of_mem _ (List.mem_append_left _ (List.mem_append_right _ (h)))
  have f20 := hts (.fieldLink RX3 20 "SelfOpener" "program" "LSelfOpener$Program;") (List.mem_of_getElem? (i := 1) rfl)
  have k34 := hts (.constantLong RX3 34 255) (List.mem_of_getElem? (i := 2) rfl)
  suffices hw : ∀ (H : Heap) (locs : List Loc), Hp G cI A s H locs [oS sq kq q2 q0, oP q2 b2 o2 (↑n) (↑org) ent ed, aI cI b2 160 pb] → W p l e rmX3_put s m args below meth c H locs 0 0 Q (F0 m 0 ls []) from hw _ _ hp
  clear hp; intro H locs hp
  refine lv_iload_n hx hb dX3_put_0 rfl (lv_at hl 2 rfl) ?_
  refine z_iconst hx hb dX3_put_1 ?_
  refine z_icmp_lt (tgt := 22) hx hb dX3_put_2 (by decide) (by omega) (fun h1 => ?_) (fun h1 => ?_)
  · skip
    have hp := z_alike hp 2 rfl (cpZ (byteZ w) pb 0 n 0) (fun j _ => by unfold cpZ; rw [if_neg (by omega)]) (ws' := [oS sq kq q2 q0, oP q2 b2 o2 (↑n) (↑org) ent ed, aI cI b2 160 (cpZ (byteZ w) pb 0 n 0)]) rfl
    have hp : Hp G cI A s H locs [oS sq kq q2 q0, oP q2 b2 o2 (↑(n + 0)) (↑org) ent ed, aI cI b2 160 (cpZ (byteZ w) pb 0 n 0)] := by
      have e9 : (↑(n + 0) : Int) = ↑n := rfl
      rw [e9]; exact hp
    have hp : Hp G cI A s H locs [oS sq kq q2 q0, oP q2 b2 o2 (↑(n + 0)) (↑org) ent (ed + ↑(0 : Nat)), aI cI b2 160 (cpZ (byteZ w) pb 0 n 0)] := by
      have e9 : (ed + ↑(0 : Nat) : Int) = ed := Int.add_zero _
      rw [e9]; exact hp
    refine z_iconst hx hb dX3_put_22 ?_
    exact hret _ _ _ _ _ _ _ 0 (⟨congrArg iZ (by rw [if_neg (by omega)]), by rw [if_neg (by omega)]⟩) hp dX3_put_23 (by decide +kernel) (Nat.le_of_ble_eq_true rfl) (Nat.le_of_ble_eq_true rfl)
  · skip
    refine lv_iload_n hx hb dX3_put_5 rfl (lv_at hl 2 rfl) ?_
    refine z_bipush hx hb dX3_put_6 (by decide +kernel) ?_
    refine z_icmp_gt (tgt := 22) hx hb dX3_put_8 (by decide) (by omega) (fun h2 => ?_) (fun h2 => ?_)
    · skip
      have hp := z_alike hp 2 rfl (cpZ (byteZ w) pb 0 n 0) (fun j _ => by unfold cpZ; rw [if_neg (by omega)]) (ws' := [oS sq kq q2 q0, oP q2 b2 o2 (↑n) (↑org) ent ed, aI cI b2 160 (cpZ (byteZ w) pb 0 n 0)]) rfl
      have hp : Hp G cI A s H locs [oS sq kq q2 q0, oP q2 b2 o2 (↑(n + 0)) (↑org) ent ed, aI cI b2 160 (cpZ (byteZ w) pb 0 n 0)] := by
        have e9 : (↑(n + 0) : Int) = ↑n := rfl
        rw [e9]; exact hp
      have hp : Hp G cI A s H locs [oS sq kq q2 q0, oP q2 b2 o2 (↑(n + 0)) (↑org) ent (ed + ↑(0 : Nat)), aI cI b2 160 (cpZ (byteZ w) pb 0 n 0)] := by
        have e9 : (ed + ↑(0 : Nat) : Int) = ed := Int.add_zero _
        rw [e9]; exact hp
      refine z_iconst hx hb dX3_put_22 ?_
      exact hret _ _ _ _ _ _ _ 0 (⟨congrArg iZ (by rw [if_neg (by omega)]), by rw [if_neg (by omega)]⟩) hp dX3_put_23 (by decide +kernel) (Nat.le_of_ble_eq_true rfl) (Nat.le_of_ble_eq_true rfl)
    · skip
      refine lv_aload_n hx hb dX3_put_11 rfl (lv_at hl 0 rfl) ?_
      refine z_get hx hb hts hi3 hown hp 0 rfl rfl 1 (by decide) f20 rfl dX3_put_12 ?_
      refine lv_iload_n hx hb dX3_put_15 rfl (lv_at hl 2 rfl) ?_
      refine zc_i (wr := [oS sq kq q2 q0, aI cI b2 160 pb]) (W0 := [oP q2 b2 o2 (↑n) (↑org) ent ed]) (wl2 := fun (u : Unit) => [oS sq kq q2 q0, oP q2 b2 o2 (↑n) (↑org) ent ed, aI cI b2 160 pb]) (As := [.int (iZ (k))]) (rest := []) hx hb hml hown hts hp (c_X2_hasRoom l G cI H.size q2 b2 o2 n org ent ed k (by omega) (by omega)) zPre_blind (z_pre hp [1] rfl (by decide) [.ref q2, .int (iZ (k))]) (cwV 1 hts gX3_put_X2_hasRoom rfl rfl rfl (by decide +kernel) ⟨Nat.le_of_ble_eq_true rfl, Nat.le_of_ble_eq_true rfl⟩) [1] [0, 2] [0, 2, 1] rfl rfl ⟨by decide, by decide, by decide⟩ (fun _ => rfl) 1 2 rfl rfl rfl rfl hl.1 rfl (Nat.le_of_ble_eq_true rfl) dX3_put_16 ⟨Nat.le_of_ble_eq_true rfl, Nat.le_of_ble_eq_true rfl⟩ (fun rv u H locs hq3 hp => ?_)
      obtain rfl : rv = iZ (if k ≤ 160 - ↑n then 1 else 0) := hq3
      refine z_if_ne (tgt := 24) hx hb dX3_put_19 (by decide) (by omega) (fun h4 => ?_) (fun h4 => ?_)
      · skip
        refine lv_lload_n hx hb dX3_put_24 rfl (lv_at hl 1 rfl) ?_
        refine lv_lstore (lv' := [(4, .long (w)), (0, .ref sq), (1, .long (w)), (3, .int (iZ (k)))]) hx hb dX3_put_25 hl (by decide) rfl (fun ls hl => ?_)
        refine z_iconst hx hb dX3_put_27 ?_
        refine lv_istore (lv' := [(6, .int (iZ (0))), (4, .long (w)), (0, .ref sq), (1, .long (w)), (3, .int (iZ (k)))]) hx hb dX3_put_28 hl (by decide) rfl (fun ls hl => ?_)
        have hp := z_alike hp 2 rfl (cpZ (byteZ w) pb 0 n 0) (fun j _ => by unfold cpZ; rw [if_neg (by omega)]) (ws' := [oS sq kq q2 q0, oP q2 b2 o2 (↑n) (↑org) ent ed, aI cI b2 160 (cpZ (byteZ w) pb 0 n 0)]) rfl
        have hp : Hp G cI A s H locs [oS sq kq q2 q0, oP q2 b2 o2 (↑(n + 0)) (↑org) ent ed, aI cI b2 160 (cpZ (byteZ w) pb 0 n 0)] := by
          have e9 : (↑(n + 0) : Int) = ↑n := rfl
          rw [e9]; exact hp
        have hp : Hp G cI A s H locs [oS sq kq q2 q0, oP q2 b2 o2 (↑(n + 0)) (↑org) ent (ed + ↑(0 : Nat)), aI cI b2 160 (cpZ (byteZ w) pb 0 n 0)] := by
          have e9 : (ed + ↑(0 : Nat) : Int) = ed := Int.add_zero _
          rw [e9]; exact hp
        have lp5 : ∀ (N_lp5 : Nat) (i : Nat) (H : Heap) (locs : List Loc) (ls : Array Slot), (i ≤ k.toNat) → (k.toNat - i) < N_lp5 → Hp G cI A s H locs [oS sq kq q2 q0, oP q2 b2 o2 (↑(n + i)) (↑org) ent (ed + ↑i), aI cI b2 160 (cpZ (byteZ w) pb 0 n i)] → lv_has ls 7 [(6, .int (iZ (↑i))), (4, .long (lrest w i)), (0, .ref sq), (1, .long (w)), (3, .int (iZ (k)))] → W p l e rmX3_put s m args below meth c H locs 0 0 Q (F0 m 30 ls []) := by
          intro N_lp5
          induction N_lp5 with
          | zero => intros; exfalso; omega
          | succ N_lp5 ih_lp5 =>
            intro i H locs ls hi hN hp hl
            refine lv_iload hx hb dX3_put_30 (lv_at hl 0 rfl) ?_
            refine lv_iload_n hx hb dX3_put_32 rfl (lv_at hl 4 rfl) ?_
            refine z_icmp_ge (tgt := 63) hx hb dX3_put_33 (by decide) (by omega) (fun h6 => ?_) (fun h6 => ?_)
            · skip
              obtain ⟨kk, rfl⟩ : ∃ kk : Nat, k = (kk : Int) := ⟨k.toNat, by omega⟩
              obtain rfl : i = kk := by omega
              skip
              refine z_iconst hx hb dX3_put_63 ?_
              exact hret _ _ _ _ _ _ _ i (⟨congrArg iZ (by rw [if_pos (by omega)]), by rw [if_pos (by omega)]; omega⟩) hp dX3_put_64 (by decide +kernel) (Nat.le_of_ble_eq_true rfl) (Nat.le_of_ble_eq_true rfl)
            · skip
              refine lv_aload_n hx hb dX3_put_36 rfl (lv_at hl 2 rfl) ?_
              refine z_get hx hb hts hi3 hown hp 0 rfl rfl 1 (by decide) f20 rfl dX3_put_37 ?_
              refine lv_lload hx hb dX3_put_40 (lv_at hl 1 rfl) ?_
              refine lv_ldc2 hx hb hown k34 dX3_put_42 ?_
              refine lv_land hx hb dX3_put_45 ?_
              refine lv_l2i (v := iZ (byteZ w i)) hx hb dX3_put_46 (byteZ_e w i) ?_
              refine zc_v (wr := [oS sq kq q2 q0]) (W0 := [oP q2 b2 o2 (↑(n + i)) (↑org) ent (ed + ↑i), aI cI b2 160 (cpZ (byteZ w) pb 0 n i)]) (wl2 := fun (u : Unit) => [oS sq kq q2 q0, oP q2 b2 o2 (↑(n + i + 1)) (↑org) ent ((ed + ↑i) + 1), aI cI b2 160 (upZ (cpZ (byteZ w) pb 0 n i) (n + i) (byteZ w i))]) (As := [.int (iZ (byteZ w i))]) (rest := []) hx hb hml hown hts hp (c_X2_append l G cI H.size q2 b2 o2 (cpZ (byteZ w) pb 0 n i) (n + i) org ent (ed + ↑i) (byteZ w i) (by omega)) zPre_blind (z_pre hp [1, 2] rfl (by decide) [.ref q2, .int (iZ (byteZ w i))]) (cwV 1 hts gX3_put_X2_append rfl rfl rfl (by decide +kernel) ⟨Nat.le_of_ble_eq_true rfl, Nat.le_of_ble_eq_true rfl⟩) [1, 2] [0] [0, 1, 2] rfl rfl ⟨by decide, by decide, by decide⟩ (fun _ => rfl) 1 2 rfl rfl rfl rfl hl.1 rfl (Nat.le_of_ble_eq_true rfl) dX3_put_47 ⟨Nat.le_of_ble_eq_true rfl, Nat.le_of_ble_eq_true rfl⟩ (fun u H locs hq7 hp => ?_)
              refine lv_lload hx hb dX3_put_50 (lv_at hl 1 rfl) ?_
              refine z_bipush hx hb dX3_put_52 (by decide +kernel) ?_
              refine lv_lushr (v := lrest w (i + 1)) hx hb dX3_put_54 (rfl) ?_
              refine lv_lstore (lv' := [(4, .long (lrest w (i + 1))), (6, .int (iZ (↑i))), (0, .ref sq), (1, .long (w)), (3, .int (iZ (k)))]) hx hb dX3_put_55 hl (by decide) rfl (fun ls hl => ?_)
              refine z_iinc (k := 1) (lv' := [(6, .int (iZ (↑(i + 1)))), (4, .long (lrest w (i + 1))), (0, .ref sq), (1, .long (w)), (3, .int (iZ (k)))]) hx hb (↑(i + 1)) (by omega) dX3_put_57 hl rfl (by decide) rfl (fun ls hl => ?_)
              have hp := z_alike hp 2 rfl (cpZ (byteZ w) pb 0 n (i + 1)) (fun j _ => by rw [cpZ_up, Nat.zero_add]) (ws' := [oS sq kq q2 q0, oP q2 b2 o2 (↑(n + i + 1)) (↑org) ent ((ed + ↑i) + 1), aI cI b2 160 (cpZ (byteZ w) pb 0 n (i + 1))]) rfl
              have hp : Hp G cI A s H locs [oS sq kq q2 q0, oP q2 b2 o2 (↑(n + (i + 1))) (↑org) ent ((ed + ↑i) + 1), aI cI b2 160 (cpZ (byteZ w) pb 0 n (i + 1))] := by
                have e9 : (↑(n + (i + 1)) : Int) = ↑(n + i + 1) := rfl
                rw [e9]; exact hp
              have hp : Hp G cI A s H locs [oS sq kq q2 q0, oP q2 b2 o2 (↑(n + (i + 1))) (↑org) ent (ed + ↑(i + 1)), aI cI b2 160 (cpZ (byteZ w) pb 0 n (i + 1))] := by
                have e9 : (ed + ↑(i + 1) : Int) = (ed + ↑i) + 1 := by omega
                rw [e9]; exact hp
              refine lv_goto (tgt := 30) hx hb dX3_put_60 (by decide) ?_
              exact ih_lp5 (i + 1) _ _ _ (by omega) (by omega) hp (lv_sub hl [0, 1, 2, 3, 4] rfl)
        exact lp5 _ 0 _ _ _ (by omega) (Nat.lt_succ_self _) hp (lv_sub hl [0, 1, 2, 3, 4] rfl)
      · skip
        have hp := z_alike hp 2 rfl (cpZ (byteZ w) pb 0 n 0) (fun j _ => by unfold cpZ; rw [if_neg (by omega)]) (ws' := [oS sq kq q2 q0, oP q2 b2 o2 (↑n) (↑org) ent ed, aI cI b2 160 (cpZ (byteZ w) pb 0 n 0)]) rfl
        have hp : Hp G cI A s H locs [oS sq kq q2 q0, oP q2 b2 o2 (↑(n + 0)) (↑org) ent ed, aI cI b2 160 (cpZ (byteZ w) pb 0 n 0)] := by
          have e9 : (↑(n + 0) : Int) = ↑n := rfl
          rw [e9]; exact hp
        have hp : Hp G cI A s H locs [oS sq kq q2 q0, oP q2 b2 o2 (↑(n + 0)) (↑org) ent (ed + ↑(0 : Nat)), aI cI b2 160 (cpZ (byteZ w) pb 0 n 0)] := by
          have e9 : (ed + ↑(0 : Nat) : Int) = ed := Int.add_zero _
          rw [e9]; exact hp
        refine z_iconst hx hb dX3_put_22 ?_
        exact hret _ _ _ _ _ _ _ 0 (⟨congrArg iZ (by rw [if_neg (by omega)]), by rw [if_neg (by omega)]⟩) hp dX3_put_23 (by decide +kernel) (Nat.le_of_ble_eq_true rfl) (Nat.le_of_ble_eq_true rfl)
abbrev rmX3_again : Room := { frames := 1, cells := 0, slots := 0, locals := 40 }
set_option maxRecDepth 100000 in
set_option maxHeartbeats 4000000 in
theorem c_X3_again (l : Launch) (G : va_G) (cI : ClassId) (sz : Nat) (sq kq q2 q0 : Nat) (b2 o2 : Nat) (pb : Nat → Int) (n org : Nat) (ent ed : Int) (d k : Int) (h_n : n ≤ 160) (h_d : rg d) (h_k : rg k) : Met l yX3_again wsX3_again rmX3_again (zPre G cI [oS sq kq q2 q0, oP q2 b2 o2 (↑n) (↑org) ent ed, aI cI b2 160 pb] sz [.ref sq, .int (iZ (d)), .int (iZ (k))]) (va_Qi (fun (r : Int32) (u : Nat) => r = iZ (if 1 ≤ d ∧ d ≤ ↑n ∧ 0 ≤ k ∧ ↑n + k ≤ 160 then 1 else 0) ∧ u = if 1 ≤ d ∧ d ≤ ↑n ∧ 0 ≤ k ∧ ↑n + k ≤ 160 then k.toNat else 0) (fun (u : Nat) t => zB G cI (va_A [oS sq kq q2 q0, oP q2 b2 o2 (↑n) (↑org) ent ed, aI cI b2 160 pb] sz) [oS sq kq q2 q0, oP q2 b2 o2 (↑(n + u)) (↑org) ent (ed + ↑u), aI cI b2 160 (cpy1 pb n d.toNat u)] t) (va_A [oS sq kq q2 q0, oP q2 b2 o2 (↑n) (↑org) ent ed, aI cI b2 160 pb] sz)) 0 0 (va_A [oS sq kq q2 q0, oP q2 b2 o2 (↑n) (↑org) ent ed, aI cI b2 160 pb] sz) := by
  refine zm_i (W1 := fun (u : Nat) => [oS sq kq q2 q0, oP q2 b2 o2 (((n + u : Nat) : Int)) (((org : Nat) : Int)) ent (ed + ((u : Nat) : Int)), aI cI b2 160 (cpy1 pb n d.toNat u)]) (cc := cX3_again) (maxL := 4) (ty := .boolean) (by decide) rfl (Nat.le_of_ble_eq_true rfl) ?_
  intro p e s m args below meth c A Q ls hsz hx hb hml hown hts hret hp hl
  have hl : lv_has ls 4 [(0, .ref sq), (1, .int (iZ (d))), (2, .int (iZ (k)))] := hl
  have hi3 : ∀ w ∈ wsX30, w ∈ wsX3_again := fun w h => List.mem_cons_of_mem _ (List.mem_append_left _ (List.mem_append_right _ (h)))
  have f20 := hts (.fieldLink RX3 20 "SelfOpener" "program" "LSelfOpener$Program;") (List.mem_of_getElem? (i := 1) rfl)
  have hi2 : ∀ w ∈ wsX20, w ∈ wsX3_again := fun w h => List.mem_cons_of_mem _ (List.mem_append_right _ (h))
  have f40 := hts (.fieldLink RX3 40 "SelfOpener$Program" "size" "I") (List.mem_of_getElem? (i := 2) rfl)
  have f44 := hts (.fieldLink RX3 44 "SelfOpener$Program" "bytes" "[I") (List.mem_of_getElem? (i := 3) rfl)
  suffices hw : ∀ (H : Heap) (locs : List Loc), Hp G cI A s H locs [oS sq kq q2 q0, oP q2 b2 o2 (↑n) (↑org) ent ed, aI cI b2 160 pb] → W p l e rmX3_again s m args below meth c H locs 0 0 Q (F0 m 0 ls []) from hw _ _ hp
  clear hp; intro H locs hp
  refine lv_iload_n hx hb dX3_again_0 rfl (lv_at hl 1 rfl) ?_
  refine z_iconst hx hb dX3_again_1 ?_
  refine z_icmp_lt (tgt := 31) hx hb dX3_again_2 (by decide) (by omega) (fun h1 => ?_) (fun h1 => ?_)
  · skip
    have hp := z_alike hp 2 rfl (cpy1 pb n d.toNat 0) (fun j _ => rfl) (ws' := [oS sq kq q2 q0, oP q2 b2 o2 (↑n) (↑org) ent ed, aI cI b2 160 (cpy1 pb n d.toNat 0)]) rfl
    have hp : Hp G cI A s H locs [oS sq kq q2 q0, oP q2 b2 o2 (↑(n + 0)) (↑org) ent ed, aI cI b2 160 (cpy1 pb n d.toNat 0)] := by
      have e9 : (↑(n + 0) : Int) = ↑n := rfl
      rw [e9]; exact hp
    have hp : Hp G cI A s H locs [oS sq kq q2 q0, oP q2 b2 o2 (↑(n + 0)) (↑org) ent (ed + ↑(0 : Nat)), aI cI b2 160 (cpy1 pb n d.toNat 0)] := by
      have e9 : (ed + ↑(0 : Nat) : Int) = ed := Int.add_zero _
      rw [e9]; exact hp
    refine z_iconst hx hb dX3_again_31 ?_
    exact hret _ _ _ _ _ _ _ 0 (⟨congrArg iZ (by rw [if_neg (by omega)]), by rw [if_neg (by omega)]⟩) hp dX3_again_32 (by decide +kernel) (Nat.le_of_ble_eq_true rfl) (Nat.le_of_ble_eq_true rfl)
  · skip
    refine lv_iload_n hx hb dX3_again_5 rfl (lv_at hl 1 rfl) ?_
    refine lv_aload_n hx hb dX3_again_6 rfl (lv_at hl 0 rfl) ?_
    refine z_get hx hb hts hi3 hown hp 0 rfl rfl 1 (by decide) f20 rfl dX3_again_7 ?_
    refine z_get hx hb hts hi2 hown hp 1 rfl rfl 2 (by decide) f40 rfl dX3_again_10 ?_
    refine z_icmp_gt (tgt := 31) hx hb dX3_again_13 (by decide) (by omega) (fun h2 => ?_) (fun h2 => ?_)
    · skip
      have hp := z_alike hp 2 rfl (cpy1 pb n d.toNat 0) (fun j _ => rfl) (ws' := [oS sq kq q2 q0, oP q2 b2 o2 (↑n) (↑org) ent ed, aI cI b2 160 (cpy1 pb n d.toNat 0)]) rfl
      have hp : Hp G cI A s H locs [oS sq kq q2 q0, oP q2 b2 o2 (↑(n + 0)) (↑org) ent ed, aI cI b2 160 (cpy1 pb n d.toNat 0)] := by
        have e9 : (↑(n + 0) : Int) = ↑n := rfl
        rw [e9]; exact hp
      have hp : Hp G cI A s H locs [oS sq kq q2 q0, oP q2 b2 o2 (↑(n + 0)) (↑org) ent (ed + ↑(0 : Nat)), aI cI b2 160 (cpy1 pb n d.toNat 0)] := by
        have e9 : (ed + ↑(0 : Nat) : Int) = ed := Int.add_zero _
        rw [e9]; exact hp
      refine z_iconst hx hb dX3_again_31 ?_
      exact hret _ _ _ _ _ _ _ 0 (⟨congrArg iZ (by rw [if_neg (by omega)]), by rw [if_neg (by omega)]⟩) hp dX3_again_32 (by decide +kernel) (Nat.le_of_ble_eq_true rfl) (Nat.le_of_ble_eq_true rfl)
    · skip
      refine lv_iload_n hx hb dX3_again_16 rfl (lv_at hl 2 rfl) ?_
      refine z_if_lt (tgt := 31) hx hb dX3_again_17 (by decide) (by omega) (fun h3 => ?_) (fun h3 => ?_)
      · skip
        have hp := z_alike hp 2 rfl (cpy1 pb n d.toNat 0) (fun j _ => rfl) (ws' := [oS sq kq q2 q0, oP q2 b2 o2 (↑n) (↑org) ent ed, aI cI b2 160 (cpy1 pb n d.toNat 0)]) rfl
        have hp : Hp G cI A s H locs [oS sq kq q2 q0, oP q2 b2 o2 (↑(n + 0)) (↑org) ent ed, aI cI b2 160 (cpy1 pb n d.toNat 0)] := by
          have e9 : (↑(n + 0) : Int) = ↑n := rfl
          rw [e9]; exact hp
        have hp : Hp G cI A s H locs [oS sq kq q2 q0, oP q2 b2 o2 (↑(n + 0)) (↑org) ent (ed + ↑(0 : Nat)), aI cI b2 160 (cpy1 pb n d.toNat 0)] := by
          have e9 : (ed + ↑(0 : Nat) : Int) = ed := Int.add_zero _
          rw [e9]; exact hp
        refine z_iconst hx hb dX3_again_31 ?_
        exact hret _ _ _ _ _ _ _ 0 (⟨congrArg iZ (by rw [if_neg (by omega)]), by rw [if_neg (by omega)]⟩) hp dX3_again_32 (by decide +kernel) (Nat.le_of_ble_eq_true rfl) (Nat.le_of_ble_eq_true rfl)
      · skip
        refine lv_aload_n hx hb dX3_again_20 rfl (lv_at hl 0 rfl) ?_
        refine z_get hx hb hts hi3 hown hp 0 rfl rfl 1 (by decide) f20 rfl dX3_again_21 ?_
        refine lv_iload_n hx hb dX3_again_24 rfl (lv_at hl 2 rfl) ?_
        refine zc_i (wr := [oS sq kq q2 q0, aI cI b2 160 pb]) (W0 := [oP q2 b2 o2 (↑n) (↑org) ent ed]) (wl2 := fun (u : Unit) => [oS sq kq q2 q0, oP q2 b2 o2 (↑n) (↑org) ent ed, aI cI b2 160 pb]) (As := [.int (iZ (k))]) (rest := []) hx hb hml hown hts hp (c_X2_hasRoom l G cI H.size q2 b2 o2 n org ent ed k (by omega) (by omega)) zPre_blind (z_pre hp [1] rfl (by decide) [.ref q2, .int (iZ (k))]) (cwV 1 hts gX3_again_X2_hasRoom rfl rfl rfl (by decide +kernel) ⟨Nat.le_of_ble_eq_true rfl, Nat.le_of_ble_eq_true rfl⟩) [1] [0, 2] [0, 2, 1] rfl rfl ⟨by decide, by decide, by decide⟩ (fun _ => rfl) 1 2 rfl rfl rfl rfl hl.1 rfl (Nat.le_of_ble_eq_true rfl) dX3_again_25 ⟨Nat.le_of_ble_eq_true rfl, Nat.le_of_ble_eq_true rfl⟩ (fun rv u H locs hq4 hp => ?_)
        obtain rfl : rv = iZ (if k ≤ 160 - ↑n then 1 else 0) := hq4
        refine z_if_ne (tgt := 33) hx hb dX3_again_28 (by decide) (by omega) (fun h5 => ?_) (fun h5 => ?_)
        · skip
          refine z_iconst hx hb dX3_again_33 ?_
          refine lv_istore_n (lv' := [(3, .int (iZ (0))), (0, .ref sq), (1, .int (iZ (d))), (2, .int (iZ (k)))]) hx hb dX3_again_34 rfl hl (by decide) rfl (fun ls hl => ?_)
          have hp := z_alike hp 2 rfl (cpy1 pb n d.toNat 0) (fun j _ => rfl) (ws' := [oS sq kq q2 q0, oP q2 b2 o2 (↑n) (↑org) ent ed, aI cI b2 160 (cpy1 pb n d.toNat 0)]) rfl
          have hp : Hp G cI A s H locs [oS sq kq q2 q0, oP q2 b2 o2 (↑(n + 0)) (↑org) ent ed, aI cI b2 160 (cpy1 pb n d.toNat 0)] := by
            have e9 : (↑(n + 0) : Int) = ↑n := rfl
            rw [e9]; exact hp
          have hp : Hp G cI A s H locs [oS sq kq q2 q0, oP q2 b2 o2 (↑(n + 0)) (↑org) ent (ed + ↑(0 : Nat)), aI cI b2 160 (cpy1 pb n d.toNat 0)] := by
            have e9 : (ed + ↑(0 : Nat) : Int) = ed := Int.add_zero _
            rw [e9]; exact hp
          have lp6 : ∀ (N_lp6 : Nat) (i : Nat) (H : Heap) (locs : List Loc) (ls : Array Slot), (i ≤ k.toNat) → (k.toNat - i) < N_lp6 → Hp G cI A s H locs [oS sq kq q2 q0, oP q2 b2 o2 (↑(n + i)) (↑org) ent (ed + ↑i), aI cI b2 160 (cpy1 pb n d.toNat i)] → lv_has ls 4 [(3, .int (iZ (↑i))), (0, .ref sq), (1, .int (iZ (d))), (2, .int (iZ (k)))] → W p l e rmX3_again s m args below meth c H locs 0 0 Q (F0 m 35 ls []) := by
            intro N_lp6
            induction N_lp6 with
            | zero => intros; exfalso; omega
            | succ N_lp6 ih_lp6 =>
              intro i H locs ls hi hN hp hl
              refine lv_iload_n hx hb dX3_again_35 rfl (lv_at hl 0 rfl) ?_
              refine lv_iload_n hx hb dX3_again_36 rfl (lv_at hl 3 rfl) ?_
              refine z_icmp_ge (tgt := 70) hx hb dX3_again_37 (by decide) (by omega) (fun h7 => ?_) (fun h7 => ?_)
              · skip
                obtain ⟨kk, rfl⟩ : ∃ kk : Nat, k = (kk : Int) := ⟨k.toNat, by omega⟩
                obtain rfl : i = kk := by omega
                skip
                refine z_iconst hx hb dX3_again_70 ?_
                exact hret _ _ _ _ _ _ _ i (⟨congrArg iZ (by rw [if_pos (by omega)]), by rw [if_pos (by omega)]; omega⟩) hp dX3_again_71 (by decide +kernel) (Nat.le_of_ble_eq_true rfl) (Nat.le_of_ble_eq_true rfl)
              · skip
                refine lv_aload_n hx hb dX3_again_40 rfl (lv_at hl 1 rfl) ?_
                refine z_get hx hb hts hi3 hown hp 0 rfl rfl 1 (by decide) f20 rfl dX3_again_41 ?_
                refine lv_aload_n hx hb dX3_again_44 rfl (lv_at hl 1 rfl) ?_
                refine z_get hx hb hts hi3 hown hp 0 rfl rfl 1 (by decide) f20 rfl dX3_again_45 ?_
                refine z_get hx hb hts hi2 hown hp 1 rfl rfl 0 (by decide) f44 rfl dX3_again_48 ?_
                refine lv_aload_n hx hb dX3_again_51 rfl (lv_at hl 1 rfl) ?_
                refine z_get hx hb hts hi3 hown hp 0 rfl rfl 1 (by decide) f20 rfl dX3_again_52 ?_
                refine z_get hx hb hts hi2 hown hp 1 rfl rfl 2 (by decide) f40 rfl dX3_again_55 ?_
                refine lv_iload_n hx hb dX3_again_58 rfl (lv_at hl 2 rfl) ?_
                refine z_isub hx hb ((↑(n + i)) - d) (rfl) dX3_again_59 ?_
                refine z_iald hx hb hp 2 rfl (n + i - d.toNat) (by omega) dX3_again_60 ((cpy1 pb n d.toNat i) (n + i - d.toNat)) (rfl) ?_
                refine zc_v (wr := [oS sq kq q2 q0]) (W0 := [oP q2 b2 o2 (↑(n + i)) (↑org) ent (ed + ↑i), aI cI b2 160 (cpy1 pb n d.toNat i)]) (wl2 := fun (u : Unit) => [oS sq kq q2 q0, oP q2 b2 o2 (↑(n + i + 1)) (↑org) ent ((ed + ↑i) + 1), aI cI b2 160 (upZ (cpy1 pb n d.toNat i) (n + i) (cpy1 pb n d.toNat i (n + i - d.toNat)))]) (As := [.int (iZ ((cpy1 pb n d.toNat i) (n + i - d.toNat)))]) (rest := []) hx hb hml hown hts hp (c_X2_append l G cI H.size q2 b2 o2 (cpy1 pb n d.toNat i) (n + i) org ent (ed + ↑i) (cpy1 pb n d.toNat i (n + i - d.toNat)) (by omega)) zPre_blind (z_pre hp [1, 2] rfl (by decide) [.ref q2, .int (iZ ((cpy1 pb n d.toNat i) (n + i - d.toNat)))]) (cwV 1 hts gX3_again_X2_append rfl rfl rfl (by decide +kernel) ⟨Nat.le_of_ble_eq_true rfl, Nat.le_of_ble_eq_true rfl⟩) [1, 2] [0] [0, 1, 2] rfl rfl ⟨by decide, by decide, by decide⟩ (fun _ => rfl) 1 2 rfl rfl rfl rfl hl.1 rfl (Nat.le_of_ble_eq_true rfl) dX3_again_61 ⟨Nat.le_of_ble_eq_true rfl, Nat.le_of_ble_eq_true rfl⟩ (fun u H locs hq8 hp => ?_)
                refine z_iinc (k := 0) (lv' := [(3, .int (iZ (↑(i + 1)))), (0, .ref sq), (1, .int (iZ (d))), (2, .int (iZ (k)))]) hx hb (↑(i + 1)) (by omega) dX3_again_64 hl rfl (by decide) rfl (fun ls hl => ?_)
                have hp := z_alike hp 2 rfl (cpy1 pb n d.toNat (i + 1)) (fun j _ => rfl) (ws' := [oS sq kq q2 q0, oP q2 b2 o2 (↑(n + i + 1)) (↑org) ent ((ed + ↑i) + 1), aI cI b2 160 (cpy1 pb n d.toNat (i + 1))]) rfl
                have hp : Hp G cI A s H locs [oS sq kq q2 q0, oP q2 b2 o2 (↑(n + (i + 1))) (↑org) ent ((ed + ↑i) + 1), aI cI b2 160 (cpy1 pb n d.toNat (i + 1))] := by
                  have e9 : (↑(n + (i + 1)) : Int) = ↑(n + i + 1) := rfl
                  rw [e9]; exact hp
                have hp : Hp G cI A s H locs [oS sq kq q2 q0, oP q2 b2 o2 (↑(n + (i + 1))) (↑org) ent (ed + ↑(i + 1)), aI cI b2 160 (cpy1 pb n d.toNat (i + 1))] := by
                  have e9 : (ed + ↑(i + 1) : Int) = (ed + ↑i) + 1 := by omega
                  rw [e9]; exact hp
                refine lv_goto (tgt := 35) hx hb dX3_again_67 (by decide) ?_
                exact ih_lp6 (i + 1) _ _ _ (by omega) (by omega) hp (lv_sub hl [0, 1, 2, 3] rfl)
          exact lp6 _ 0 _ _ _ (by omega) (Nat.lt_succ_self _) hp (lv_sub hl [0, 1, 2, 3] rfl)
        · skip
          have hp := z_alike hp 2 rfl (cpy1 pb n d.toNat 0) (fun j _ => rfl) (ws' := [oS sq kq q2 q0, oP q2 b2 o2 (↑n) (↑org) ent ed, aI cI b2 160 (cpy1 pb n d.toNat 0)]) rfl
          have hp : Hp G cI A s H locs [oS sq kq q2 q0, oP q2 b2 o2 (↑(n + 0)) (↑org) ent ed, aI cI b2 160 (cpy1 pb n d.toNat 0)] := by
            have e9 : (↑(n + 0) : Int) = ↑n := rfl
            rw [e9]; exact hp
          have hp : Hp G cI A s H locs [oS sq kq q2 q0, oP q2 b2 o2 (↑(n + 0)) (↑org) ent (ed + ↑(0 : Nat)), aI cI b2 160 (cpy1 pb n d.toNat 0)] := by
            have e9 : (ed + ↑(0 : Nat) : Int) = ed := Int.add_zero _
            rw [e9]; exact hp
          refine z_iconst hx hb dX3_again_31 ?_
          exact hret _ _ _ _ _ _ _ 0 (⟨congrArg iZ (by rw [if_neg (by omega)]), by rw [if_neg (by omega)]⟩) hp dX3_again_32 (by decide +kernel) (Nat.le_of_ble_eq_true rfl) (Nat.le_of_ble_eq_true rfl)
abbrev rmX3_change : Room := { frames := 7, cells := 1, slots := 6, locals := 120 }
set_option maxRecDepth 100000 in
set_option maxHeartbeats 4000000 in
theorem c_X3_change (l : Launch) (G : va_G) (cI : ClassId) (t : Nat) (hst : l.stackTraces = false) (sz : Nat) (sq kq q2 q0 : Nat) (b2 o2 : Nat) (pb : Nat → Int) (n org : Nat) (ent ed : Int) (i v : Int) (h_n : n ≤ 160) (h_i : rg i) (h_v : rg v) : vx_Met l yX3_change wsX3_change rmX3_change (zPreC t G cI [oS sq kq q2 q0, oP q2 b2 o2 (↑n) (↑org) ent ed, aI cI b2 160 pb] sz [.ref sq, .int (iZ (i)), .int (iZ (v))]) (va_Qv (fun (u : Unit) => (0 ≤ i ∧ i < ↑n) ∧ 0 ≤ v ∧ v < 256) (fun (u : Unit) t => zB G cI (va_A [oS sq kq q2 q0, oP q2 b2 o2 (↑n) (↑org) ent ed, aI cI b2 160 pb] sz) [oS sq kq q2 q0, oP q2 b2 o2 (↑n) (↑org) ent (ed + 1), aI cI b2 160 (upZ pb i.toNat v)] t) (va_A [oS sq kq q2 q0, oP q2 b2 o2 (↑n) (↑org) ent ed, aI cI b2 160 pb] sz)) (vx_X (fun _ => True) (fun X (u : Unit) t => ((X = nOB ∧ ¬ (0 ≤ i ∧ i < ↑n)) ∨ (X = nIA ∧ (0 ≤ i ∧ i < ↑n) ∧ ¬ (0 ≤ v ∧ v < 256))) ∧ zB G cI (va_A [oS sq kq q2 q0, oP q2 b2 o2 (↑n) (↑org) ent ed, aI cI b2 160 pb] sz) [oS sq kq q2 q0, oP q2 b2 o2 (↑n) (↑org) ent ed, aI cI b2 160 pb] t) (va_A [oS sq kq q2 q0, oP q2 b2 o2 (↑n) (↑org) ent ed, aI cI b2 160 pb] sz)) 1 6 (va_A [oS sq kq q2 q0, oP q2 b2 o2 (↑n) (↑org) ent ed, aI cI b2 160 pb] sz) := by
  refine zm_xv (W1 := fun (u : Unit) => [oS sq kq q2 q0, oP q2 b2 o2 (((n : Nat) : Int)) (((org : Nat) : Int)) ent (ed + 1), aI cI b2 160 (upZ pb i.toNat v)]) (WX := fun (u : Unit) => [oS sq kq q2 q0, oP q2 b2 o2 (((n : Nat) : Int)) (((org : Nat) : Int)) ent ed, aI cI b2 160 pb]) (cc := cX3_change) (maxL := 3) hst rfl rfl (by decide) rfl (Nat.le_of_ble_eq_true rfl) ?_
  intro p e s m args below meth c A Q ls hsz hx hb hml hown hts hC hret hthr hout hp hl
  have hl : lv_has ls 3 [(0, .ref sq), (1, .int (iZ (i))), (2, .int (iZ (v)))] := hl
  have l48 := hts (.classLink RX3 48 "java/lang/IndexOutOfBoundsException") (List.mem_of_getElem? (i := 1) rfl)
  have ini48 := hts (.initialized "java/lang/IndexOutOfBoundsException") (List.mem_of_getElem? (i := 2) rfl)
  have hi3 : ∀ w ∈ wsX30, w ∈ wsX3_change := fun w h => List.mem_cons_of_mem _ (List.mem_append_left _ (List.mem_append_left _ (List.mem_append_left _ (List.mem_append_right _ (h)))))
  have f20 := hts (.fieldLink RX3 20 "SelfOpener" "program" "LSelfOpener$Program;") (List.mem_of_getElem? (i := 5) rfl)
  have hi2 : ∀ w ∈ wsX20, w ∈ wsX3_change := fun w h => List.mem_cons_of_mem _ (List.mem_append_left _ (List.mem_append_left _ (List.mem_append_right _ (h))))
  have f40 := hts (.fieldLink RX3 40 "SelfOpener$Program" "size" "I") (List.mem_of_getElem? (i := 6) rfl)
  have l54 := hts (.classLink RX3 54 "java/lang/IllegalArgumentException") (List.mem_of_getElem? (i := 3) rfl)
  have ini54 := hts (.initialized "java/lang/IllegalArgumentException") (List.mem_of_getElem? (i := 4) rfl)
  suffices hw : ∀ (H : Heap) (locs : List Loc), Hp G cI A s H locs [oS sq kq q2 q0, oP q2 b2 o2 (↑n) (↑org) ent ed, aI cI b2 160 pb] → W p l e rmX3_change s m args below meth c H locs 0 0 Q (F0 m 0 ls []) from hw _ _ hp
  clear hp; intro H locs hp
  refine lv_iload_n hx hb dX3_change_0 rfl (lv_at hl 1 rfl) ?_
  refine z_if_lt (tgt := 15) hx hb dX3_change_1 (by decide) (by omega) (fun h1 => ?_) (fun h1 => ?_)
  · skip
    exact hthr _ _ _ _ _ _ _ "java/lang/IndexOutOfBoundsException" 48 50 () (Or.inl ⟨rfl, by omega⟩) hp hl.1 (by decide) l48 ini48 (fun w h => hts w (List.mem_cons_of_mem _ (List.mem_append_left _ (List.mem_append_right _ (h))))) (by decide +kernel) (by decide +kernel) dX3_change_15 dX3_change_18 dX3_change_19 dX3_change_22 (Nat.le_of_ble_eq_true rfl) (Nat.le_of_ble_eq_true rfl) (Nat.le_of_ble_eq_true rfl) (Nat.le_of_ble_eq_true rfl) (Nat.le_of_ble_eq_true rfl)
  · skip
    refine lv_iload_n hx hb dX3_change_4 rfl (lv_at hl 1 rfl) ?_
    refine lv_aload_n hx hb dX3_change_5 rfl (lv_at hl 0 rfl) ?_
    refine z_get hx hb hts hi3 hown hp 0 rfl rfl 1 (by decide) f20 rfl dX3_change_6 ?_
    refine z_get hx hb hts hi2 hown hp 1 rfl rfl 2 (by decide) f40 rfl dX3_change_9 ?_
    refine z_icmp_lt (tgt := 23) hx hb dX3_change_12 (by decide) (by omega) (fun h2 => ?_) (fun h2 => ?_)
    · skip
      refine lv_iload_n hx hb dX3_change_23 rfl (lv_at hl 2 rfl) ?_
      refine zs_i (wr := [oS sq kq q2 q0, oP q2 b2 o2 (↑n) (↑org) ent ed, aI cI b2 160 pb]) (W0 := []) (wl2 := fun (u : Unit) => [oS sq kq q2 q0, oP q2 b2 o2 (↑n) (↑org) ent ed, aI cI b2 160 pb]) (As := [.int (iZ (v))]) (rest := []) hx hb hml hown hts hp (c_X3_isByte l G cI H.size v (by omega)) zPre_blind (z_pre hp [] rfl (by decide) [.int (iZ (v))]) (va_cwS 1 hts gX3_change_X3_isByte rfl rfl rfl (by decide +kernel) ⟨Nat.le_of_ble_eq_true rfl, Nat.le_of_ble_eq_true rfl⟩) [] [0, 1, 2] [0, 1, 2] rfl rfl ⟨by decide, by decide, by decide⟩ (fun _ => rfl) rfl hl.1 rfl (Nat.le_of_ble_eq_true rfl) dX3_change_24 ⟨Nat.le_of_ble_eq_true rfl, Nat.le_of_ble_eq_true rfl⟩ (fun rv u H locs hq3 hp => ?_)
      obtain rfl : rv = iZ (if 0 ≤ v ∧ v < 256 then 1 else 0) := hq3
      refine z_if_ne (tgt := 38) hx hb dX3_change_27 (by decide) (by omega) (fun h4 => ?_) (fun h4 => ?_)
      · skip
        refine lv_aload_n hx hb dX3_change_38 rfl (lv_at hl 0 rfl) ?_
        refine z_get hx hb hts hi3 hown hp 0 rfl rfl 1 (by decide) f20 rfl dX3_change_39 ?_
        refine lv_iload_n hx hb dX3_change_42 rfl (lv_at hl 1 rfl) ?_
        refine z_top (↑(i.toNat)) (by omega) ?_
        refine lv_iload_n hx hb dX3_change_43 rfl (lv_at hl 2 rfl) ?_
        refine zc_v (wr := [oS sq kq q2 q0]) (W0 := [oP q2 b2 o2 (↑n) (↑org) ent ed, aI cI b2 160 pb]) (wl2 := fun (u : Unit) => [oS sq kq q2 q0, oP q2 b2 o2 (↑n) (↑org) ent (ed + 1), aI cI b2 160 (upZ pb i.toNat v)]) (As := [.int (iZ (↑(i.toNat))), .int (iZ (v))]) (rest := []) hx hb hml hown hts hp (c_X2_set l G cI H.size q2 b2 o2 pb n org ent ed i.toNat v (by omega)) zPre_blind (z_pre hp [1, 2] rfl (by decide) [.ref q2, .int (iZ (↑(i.toNat))), .int (iZ (v))]) (cwV 2 hts gX3_change_X2_set rfl rfl rfl (by decide +kernel) ⟨Nat.le_of_ble_eq_true rfl, Nat.le_of_ble_eq_true rfl⟩) [1, 2] [0] [0, 1, 2] rfl rfl ⟨by decide, by decide, by decide⟩ (fun _ => rfl) 1 2 rfl rfl rfl rfl hl.1 rfl (Nat.le_of_ble_eq_true rfl) dX3_change_44 ⟨Nat.le_of_ble_eq_true rfl, Nat.le_of_ble_eq_true rfl⟩ (fun u H locs hq5 hp => ?_)
        exact hret _ _ _ _ _ _ () (by omega) hp dX3_change_47 (Nat.le_of_ble_eq_true rfl) (Nat.le_of_ble_eq_true rfl)
      · skip
        exact hthr _ _ _ _ _ _ _ "java/lang/IllegalArgumentException" 54 56 () (Or.inr ⟨rfl, by omega, by omega⟩) hp hl.1 (by decide) l54 ini54 (fun w h => hts w (List.mem_cons_of_mem _ (List.mem_append_right _ (h)))) (by decide +kernel) (by decide +kernel) dX3_change_30 dX3_change_33 dX3_change_34 dX3_change_37 (Nat.le_of_ble_eq_true rfl) (Nat.le_of_ble_eq_true rfl) (Nat.le_of_ble_eq_true rfl) (Nat.le_of_ble_eq_true rfl) (Nat.le_of_ble_eq_true rfl)
    · skip
      exact hthr _ _ _ _ _ _ _ "java/lang/IndexOutOfBoundsException" 48 50 () (Or.inl ⟨rfl, by omega⟩) hp hl.1 (by decide) l48 ini48 (fun w h => hts w (List.mem_cons_of_mem _ (List.mem_append_left _ (List.mem_append_right _ (h))))) (by decide +kernel) (by decide +kernel) dX3_change_15 dX3_change_18 dX3_change_19 dX3_change_22 (Nat.le_of_ble_eq_true rfl) (Nat.le_of_ble_eq_true rfl) (Nat.le_of_ble_eq_true rfl) (Nat.le_of_ble_eq_true rfl) (Nat.le_of_ble_eq_true rfl)
abbrev rmX3_cut : Room := { frames := 7, cells := 1, slots := 6, locals := 120 }
set_option maxRecDepth 100000 in
set_option maxHeartbeats 4000000 in
theorem c_X3_cut (l : Launch) (G : va_G) (cI : ClassId) (t : Nat) (hst : l.stackTraces = false) (sz : Nat) (sq kq q2 q0 : Nat) (b2 o2 : Nat) (pb : Nat → Int) (n org : Nat) (ent ed : Int) (k : Int) (h_n : n ≤ 160) (h_k : rg k) : vx_Met l yX3_cut wsX3_cut rmX3_cut (zPreC t G cI [oS sq kq q2 q0, oP q2 b2 o2 (↑n) (↑org) ent ed] sz [.ref sq, .int (iZ (k))]) (va_Qv (fun (u : Unit) => 0 ≤ k ∧ k ≤ ↑n) (fun (u : Unit) t => zB G cI (va_A [oS sq kq q2 q0, oP q2 b2 o2 (↑n) (↑org) ent ed] sz) [oS sq kq q2 q0, oP q2 b2 o2 (↑(k.toNat)) (↑org) ent (ed + 1)] t) (va_A [oS sq kq q2 q0, oP q2 b2 o2 (↑n) (↑org) ent ed] sz)) (vx_X (fun _ => True) (fun X (u : Unit) t => (X = nIA ∧ ¬ (0 ≤ k ∧ k ≤ ↑n)) ∧ zB G cI (va_A [oS sq kq q2 q0, oP q2 b2 o2 (↑n) (↑org) ent ed] sz) [oS sq kq q2 q0, oP q2 b2 o2 (↑n) (↑org) ent ed] t) (va_A [oS sq kq q2 q0, oP q2 b2 o2 (↑n) (↑org) ent ed] sz)) 1 6 (va_A [oS sq kq q2 q0, oP q2 b2 o2 (↑n) (↑org) ent ed] sz) := by
  refine zm_xv (W1 := fun (u : Unit) => [oS sq kq q2 q0, oP q2 b2 o2 (((k.toNat : Nat) : Int)) (((org : Nat) : Int)) ent (ed + 1)]) (WX := fun (u : Unit) => [oS sq kq q2 q0, oP q2 b2 o2 (((n : Nat) : Int)) (((org : Nat) : Int)) ent ed]) (cc := cX3_cut) (maxL := 2) hst rfl rfl (by decide) rfl (Nat.le_of_ble_eq_true rfl) ?_
  intro p e s m args below meth c A Q ls hsz hx hb hml hown hts hC hret hthr hout hp hl
  have hl : lv_has ls 2 [(0, .ref sq), (1, .int (iZ (k)))] := hl
  have l54 := hts (.classLink RX3 54 "java/lang/IllegalArgumentException") (List.mem_of_getElem? (i := 1) rfl)
  have ini54 := hts (.initialized "java/lang/IllegalArgumentException") (List.mem_of_getElem? (i := 2) rfl)
  have hi3 : ∀ w ∈ wsX30, w ∈ wsX3_cut := fun w h => List.mem_cons_of_mem _ (List.mem_append_left _ (List.mem_append_left _ (List.mem_append_right _ (h))))
  have f20 := hts (.fieldLink RX3 20 "SelfOpener" "program" "LSelfOpener$Program;") (List.mem_of_getElem? (i := 3) rfl)
  have hi2 : ∀ w ∈ wsX20, w ∈ wsX3_cut := fun w h => List.mem_cons_of_mem _ (List.mem_append_left _ (List.mem_append_right _ (h)))
  have f40 := hts (.fieldLink RX3 40 "SelfOpener$Program" "size" "I") (List.mem_of_getElem? (i := 4) rfl)
  suffices hw : ∀ (H : Heap) (locs : List Loc), Hp G cI A s H locs [oS sq kq q2 q0, oP q2 b2 o2 (↑n) (↑org) ent ed] → W p l e rmX3_cut s m args below meth c H locs 0 0 Q (F0 m 0 ls []) from hw _ _ hp
  clear hp; intro H locs hp
  refine lv_iload_n hx hb dX3_cut_0 rfl (lv_at hl 1 rfl) ?_
  refine z_if_lt (tgt := 15) hx hb dX3_cut_1 (by decide) (by omega) (fun h1 => ?_) (fun h1 => ?_)
  · skip
    exact hthr _ _ _ _ _ _ _ "java/lang/IllegalArgumentException" 54 56 () (⟨rfl, by omega⟩) hp hl.1 (by decide) l54 ini54 (fun w h => hts w (List.mem_cons_of_mem _ (List.mem_append_right _ (h)))) (by decide +kernel) (by decide +kernel) dX3_cut_15 dX3_cut_18 dX3_cut_19 dX3_cut_22 (Nat.le_of_ble_eq_true rfl) (Nat.le_of_ble_eq_true rfl) (Nat.le_of_ble_eq_true rfl) (Nat.le_of_ble_eq_true rfl) (Nat.le_of_ble_eq_true rfl)
  · skip
    refine lv_iload_n hx hb dX3_cut_4 rfl (lv_at hl 1 rfl) ?_
    refine lv_aload_n hx hb dX3_cut_5 rfl (lv_at hl 0 rfl) ?_
    refine z_get hx hb hts hi3 hown hp 0 rfl rfl 1 (by decide) f20 rfl dX3_cut_6 ?_
    refine z_get hx hb hts hi2 hown hp 1 rfl rfl 2 (by decide) f40 rfl dX3_cut_9 ?_
    refine z_icmp_le (tgt := 23) hx hb dX3_cut_12 (by decide) (by omega) (fun h2 => ?_) (fun h2 => ?_)
    · skip
      refine lv_aload_n hx hb dX3_cut_23 rfl (lv_at hl 0 rfl) ?_
      refine z_get hx hb hts hi3 hown hp 0 rfl rfl 1 (by decide) f20 rfl dX3_cut_24 ?_
      refine lv_iload_n hx hb dX3_cut_27 rfl (lv_at hl 1 rfl) ?_
      refine z_top (↑(k.toNat)) (by omega) ?_
      refine zc_v (wr := [oS sq kq q2 q0]) (W0 := [oP q2 b2 o2 (↑n) (↑org) ent ed]) (wl2 := fun (u : Unit) => [oS sq kq q2 q0, oP q2 b2 o2 (↑k.toNat) (↑org) ent (ed + 1)]) (As := [.int (iZ (↑(k.toNat)))]) (rest := []) hx hb hml hown hts hp (c_X2_shorten l G cI H.size q2 b2 o2 n org ent ed k.toNat) zPre_blind (z_pre hp [1] rfl (by decide) [.ref q2, .int (iZ (↑(k.toNat)))]) (cwV 1 hts gX3_cut_X2_shorten rfl rfl rfl (by decide +kernel) ⟨Nat.le_of_ble_eq_true rfl, Nat.le_of_ble_eq_true rfl⟩) [1] [0] [0, 1] rfl rfl ⟨by decide, by decide, by decide⟩ (fun _ => rfl) 1 2 rfl rfl rfl rfl hl.1 rfl (Nat.le_of_ble_eq_true rfl) dX3_cut_28 ⟨Nat.le_of_ble_eq_true rfl, Nat.le_of_ble_eq_true rfl⟩ (fun u H locs hq3 hp => ?_)
      exact hret _ _ _ _ _ _ () (by omega) hp dX3_cut_31 (Nat.le_of_ble_eq_true rfl) (Nat.le_of_ble_eq_true rfl)
    · skip
      exact hthr _ _ _ _ _ _ _ "java/lang/IllegalArgumentException" 54 56 () (⟨rfl, by omega⟩) hp hl.1 (by decide) l54 ini54 (fun w h => hts w (List.mem_cons_of_mem _ (List.mem_append_right _ (h)))) (by decide +kernel) (by decide +kernel) dX3_cut_15 dX3_cut_18 dX3_cut_19 dX3_cut_22 (Nat.le_of_ble_eq_true rfl) (Nat.le_of_ble_eq_true rfl) (Nat.le_of_ble_eq_true rfl) (Nat.le_of_ble_eq_true rfl) (Nat.le_of_ble_eq_true rfl)
abbrev rmX3_place : Room := { frames := 7, cells := 1, slots := 6, locals := 120 }
set_option maxRecDepth 100000 in
set_option maxHeartbeats 4000000 in
theorem c_X3_place (l : Launch) (G : va_G) (cI : ClassId) (t : Nat) (hst : l.stackTraces = false) (sz : Nat) (sq kq q2 q0 : Nat) (b2 o2 : Nat) (pb : Nat → Int) (n org : Nat) (ent ed : Int) (o e_ : Int) (h_o : rg o) (h_e : rg e_) : vx_Met l yX3_place wsX3_place rmX3_place (zPreC t G cI [oS sq kq q2 q0, oP q2 b2 o2 (↑n) (↑org) ent ed] sz [.ref sq, .int (iZ (o)), .int (iZ (e_))]) (va_Qv (fun (u : Unit) => (0 ≤ o ∧ o < 256) ∧ 0 ≤ e_ ∧ e_ < 256) (fun (u : Unit) t => zB G cI (va_A [oS sq kq q2 q0, oP q2 b2 o2 (↑n) (↑org) ent ed] sz) [oS sq kq q2 q0, oP q2 b2 o2 (↑n) (↑(o.toNat)) e_ ed] t) (va_A [oS sq kq q2 q0, oP q2 b2 o2 (↑n) (↑org) ent ed] sz)) (vx_X (fun _ => True) (fun X (u : Unit) t => (X = nIA ∧ ¬ ((0 ≤ o ∧ o < 256) ∧ 0 ≤ e_ ∧ e_ < 256)) ∧ zB G cI (va_A [oS sq kq q2 q0, oP q2 b2 o2 (↑n) (↑org) ent ed] sz) [oS sq kq q2 q0, oP q2 b2 o2 (↑n) (↑org) ent ed] t) (va_A [oS sq kq q2 q0, oP q2 b2 o2 (↑n) (↑org) ent ed] sz)) 1 6 (va_A [oS sq kq q2 q0, oP q2 b2 o2 (↑n) (↑org) ent ed] sz) := by
  refine zm_xv (W1 := fun (u : Unit) => [oS sq kq q2 q0, oP q2 b2 o2 (((n : Nat) : Int)) (((o.toNat : Nat) : Int)) e_ ed]) (WX := fun (u : Unit) => [oS sq kq q2 q0, oP q2 b2 o2 (((n : Nat) : Int)) (((org : Nat) : Int)) ent ed]) (cc := cX3_place) (maxL := 3) hst rfl rfl (by decide) rfl (Nat.le_of_ble_eq_true rfl) ?_
  intro p e s m args below meth c A Q ls hsz hx hb hml hown hts hC hret hthr hout hp hl
  have hl : lv_has ls 3 [(0, .ref sq), (1, .int (iZ (o))), (2, .int (iZ (e_)))] := hl
  have l54 := hts (.classLink RX3 54 "java/lang/IllegalArgumentException") (List.mem_of_getElem? (i := 1) rfl)
  have ini54 := hts (.initialized "java/lang/IllegalArgumentException") (List.mem_of_getElem? (i := 2) rfl)
  have hi3 : ∀ w ∈ wsX30, w ∈ wsX3_place := fun w h => List.mem_cons_of_mem _ (List.mem_append_left _ (List.mem_append_left _ (List.mem_append_right _ (h))))
  have f20 := hts (.fieldLink RX3 20 "SelfOpener" "program" "LSelfOpener$Program;") (List.mem_of_getElem? (i := 3) rfl)
  have hi2 : ∀ w ∈ wsX20, w ∈ wsX3_place := fun w h => List.mem_cons_of_mem _ (List.mem_append_left _ (List.mem_append_right _ (h)))
  have f64 := hts (.fieldLink RX3 64 "SelfOpener$Program" "origin" "I") (List.mem_of_getElem? (i := 4) rfl)
  have f67 := hts (.fieldLink RX3 67 "SelfOpener$Program" "entry" "I") (List.mem_of_getElem? (i := 5) rfl)
  suffices hw : ∀ (H : Heap) (locs : List Loc), Hp G cI A s H locs [oS sq kq q2 q0, oP q2 b2 o2 (↑n) (↑org) ent ed] → W p l e rmX3_place s m args below meth c H locs 0 0 Q (F0 m 0 ls []) from hw _ _ hp
  clear hp; intro H locs hp
  refine lv_iload_n hx hb dX3_place_0 rfl (lv_at hl 1 rfl) ?_
  refine zs_i (wr := [oS sq kq q2 q0, oP q2 b2 o2 (↑n) (↑org) ent ed]) (W0 := []) (wl2 := fun (u : Unit) => [oS sq kq q2 q0, oP q2 b2 o2 (↑n) (↑org) ent ed]) (As := [.int (iZ (o))]) (rest := []) hx hb hml hown hts hp (c_X3_isByte l G cI H.size o (by omega)) zPre_blind (z_pre hp [] rfl (by decide) [.int (iZ (o))]) (va_cwS 1 hts gX3_place_X3_isByte rfl rfl rfl (by decide +kernel) ⟨Nat.le_of_ble_eq_true rfl, Nat.le_of_ble_eq_true rfl⟩) [] [0, 1] [0, 1] rfl rfl ⟨by decide, by decide, by decide⟩ (fun _ => rfl) rfl hl.1 rfl (Nat.le_of_ble_eq_true rfl) dX3_place_1 ⟨Nat.le_of_ble_eq_true rfl, Nat.le_of_ble_eq_true rfl⟩ (fun rv u H locs hq1 hp => ?_)
  obtain rfl : rv = iZ (if 0 ≤ o ∧ o < 256 then 1 else 0) := hq1
  refine z_if_eq (tgt := 14) hx hb dX3_place_4 (by decide) (by omega) (fun h2 => ?_) (fun h2 => ?_)
  · skip
    exact hthr _ _ _ _ _ _ _ "java/lang/IllegalArgumentException" 54 56 () (⟨rfl, by omega⟩) hp hl.1 (by decide) l54 ini54 (fun w h => hts w (List.mem_cons_of_mem _ (List.mem_append_right _ (h)))) (by decide +kernel) (by decide +kernel) dX3_place_14 dX3_place_17 dX3_place_18 dX3_place_21 (Nat.le_of_ble_eq_true rfl) (Nat.le_of_ble_eq_true rfl) (Nat.le_of_ble_eq_true rfl) (Nat.le_of_ble_eq_true rfl) (Nat.le_of_ble_eq_true rfl)
  · skip
    refine lv_iload_n hx hb dX3_place_7 rfl (lv_at hl 2 rfl) ?_
    refine zs_i (wr := [oS sq kq q2 q0, oP q2 b2 o2 (↑n) (↑org) ent ed]) (W0 := []) (wl2 := fun (u : Unit) => [oS sq kq q2 q0, oP q2 b2 o2 (↑n) (↑org) ent ed]) (As := [.int (iZ (e_))]) (rest := []) hx hb hml hown hts hp (c_X3_isByte l G cI H.size e_ (by omega)) zPre_blind (z_pre hp [] rfl (by decide) [.int (iZ (e_))]) (va_cwS 1 hts gX3_place_X3_isByte rfl rfl rfl (by decide +kernel) ⟨Nat.le_of_ble_eq_true rfl, Nat.le_of_ble_eq_true rfl⟩) [] [0, 1] [0, 1] rfl rfl ⟨by decide, by decide, by decide⟩ (fun _ => rfl) rfl hl.1 rfl (Nat.le_of_ble_eq_true rfl) dX3_place_8 ⟨Nat.le_of_ble_eq_true rfl, Nat.le_of_ble_eq_true rfl⟩ (fun rv u H locs hq3 hp => ?_)
    obtain rfl : rv = iZ (if 0 ≤ e_ ∧ e_ < 256 then 1 else 0) := hq3
    refine z_if_ne (tgt := 22) hx hb dX3_place_11 (by decide) (by omega) (fun h4 => ?_) (fun h4 => ?_)
    · skip
      refine lv_aload_n hx hb dX3_place_22 rfl (lv_at hl 0 rfl) ?_
      refine z_get hx hb hts hi3 hown hp 0 rfl rfl 1 (by decide) f20 rfl dX3_place_23 ?_
      refine lv_iload_n hx hb dX3_place_26 rfl (lv_at hl 1 rfl) ?_
      refine z_top (↑(o.toNat)) (by omega) ?_
      refine z_put hx hb hts hi2 tyX2 tyX2_ok nmX2 hown hp 1 rfl rfl 3 (by decide) f64 rfl (rfl) (rfl) (Nat.le_of_ble_eq_true rfl) dX3_place_27 (ws' := [oS sq kq q2 q0, oP q2 b2 o2 (↑n) (↑(o.toNat)) ent ed]) rfl (fun H locs hp => ?_)
      refine lv_aload_n hx hb dX3_place_30 rfl (lv_at hl 0 rfl) ?_
      refine z_get hx hb hts hi3 hown hp 0 rfl rfl 1 (by decide) f20 rfl dX3_place_31 ?_
      refine lv_iload_n hx hb dX3_place_34 rfl (lv_at hl 2 rfl) ?_
      refine z_put hx hb hts hi2 tyX2 tyX2_ok nmX2 hown hp 1 rfl rfl 4 (by decide) f67 rfl (rfl) (rfl) (Nat.le_of_ble_eq_true rfl) dX3_place_35 (ws' := [oS sq kq q2 q0, oP q2 b2 o2 (↑n) (↑(o.toNat)) e_ ed]) rfl (fun H locs hp => ?_)
      exact hret _ _ _ _ _ _ () (by omega) hp dX3_place_38 (Nat.le_of_ble_eq_true rfl) (Nat.le_of_ble_eq_true rfl)
    · skip
      exact hthr _ _ _ _ _ _ _ "java/lang/IllegalArgumentException" 54 56 () (⟨rfl, by omega⟩) hp hl.1 (by decide) l54 ini54 (fun w h => hts w (List.mem_cons_of_mem _ (List.mem_append_right _ (h)))) (by decide +kernel) (by decide +kernel) dX3_place_14 dX3_place_17 dX3_place_18 dX3_place_21 (Nat.le_of_ble_eq_true rfl) (Nat.le_of_ble_eq_true rfl) (Nat.le_of_ble_eq_true rfl) (Nat.le_of_ble_eq_true rfl) (Nat.le_of_ble_eq_true rfl)
abbrev rmX3_size : Room := { frames := 0, cells := 0, slots := 0, locals := 0 }
set_option maxRecDepth 100000 in
set_option maxHeartbeats 4000000 in
theorem c_X3_size (l : Launch) (G : va_G) (cI : ClassId) (sz : Nat) (sq kq q2 q0 : Nat) (b2 o2 : Nat) (pb : Nat → Int) (n org : Nat) (ent ed : Int)  : Met l yX3_size wsX3_size rmX3_size (zPre G cI [oS sq kq q2 q0, oP q2 b2 o2 (↑n) (↑org) ent ed] sz [.ref sq]) (va_Qi (fun (r : Int32) (u : Unit) => r = iZ ↑n) (fun (u : Unit) t => zB G cI (va_A [oS sq kq q2 q0, oP q2 b2 o2 (↑n) (↑org) ent ed] sz) [oS sq kq q2 q0, oP q2 b2 o2 (↑n) (↑org) ent ed] t) (va_A [oS sq kq q2 q0, oP q2 b2 o2 (↑n) (↑org) ent ed] sz)) 0 0 (va_A [oS sq kq q2 q0, oP q2 b2 o2 (↑n) (↑org) ent ed] sz) := by
  refine zm_i (W1 := fun (u : Unit) => [oS sq kq q2 q0, oP q2 b2 o2 (((n : Nat) : Int)) (((org : Nat) : Int)) ent ed]) (cc := cX3_size) (maxL := 1) (ty := .int) (by decide) rfl (Nat.le_of_ble_eq_true rfl) ?_
  intro p e s m args below meth c A Q ls hsz hx hb hml hown hts hret hp hl
  have hl : lv_has ls 1 [(0, .ref sq)] := hl
  have hi3 : ∀ w ∈ wsX30, w ∈ wsX3_size := fun w h => List.mem_cons_of_mem _ (List.mem_append_left _ (List.mem_append_right _ (h)))
  have f20 := hts (.fieldLink RX3 20 "SelfOpener" "program" "LSelfOpener$Program;") (List.mem_of_getElem? (i := 1) rfl)
  have hi2 : ∀ w ∈ wsX20, w ∈ wsX3_size := fun w h => List.mem_cons_of_mem _ (List.mem_append_right _ (h))
  have f40 := hts (.fieldLink RX3 40 "SelfOpener$Program" "size" "I") (List.mem_of_getElem? (i := 2) rfl)
  suffices hw : ∀ (H : Heap) (locs : List Loc), Hp G cI A s H locs [oS sq kq q2 q0, oP q2 b2 o2 (↑n) (↑org) ent ed] → W p l e rmX3_size s m args below meth c H locs 0 0 Q (F0 m 0 ls []) from hw _ _ hp
  clear hp; intro H locs hp
  refine lv_aload_n hx hb dX3_size_0 rfl (lv_at hl 0 rfl) ?_
  refine z_get hx hb hts hi3 hown hp 0 rfl rfl 1 (by decide) f20 rfl dX3_size_1 ?_
  refine z_get hx hb hts hi2 hown hp 1 rfl rfl 2 (by decide) f40 rfl dX3_size_4 ?_
  exact hret _ _ _ _ _ _ _ () (rfl) hp dX3_size_7 (rfl) (Nat.le_of_ble_eq_true rfl) (Nat.le_of_ble_eq_true rfl)
abbrev rmX3_packed : Room := { frames := 3, cells := 0, slots := 0, locals := 150 }
set_option maxRecDepth 100000 in
set_option maxHeartbeats 4000000 in
theorem c_X3_packed (l : Launch) (G : va_G) (cI : ClassId) (sz : Nat) (sq q0 : Nat) (kq ks kc km kd kl : Nat) (q2 b2 o2 : Nat) (strm cst mks dst lks pb : Nat → Int) (n org : Nat) (ln gp ek ent ed : Int) (h_n : n ≤ 160) (h_b : BB pb 160) (h_e : rg ek ∧ rg ed) (h_f : ek = ed → Fresh pb n ln gp strm) : Met l yX3_packed wsX3_packed rmX3_packed (zPre G cI [oS sq kq q2 q0, oK kq q2 ks ln gp ek kc km kd kl, aI cI ks 163 strm, aI cI kc 161 cst, aI cI km 160 mks, aI cI kd 160 dst, aI cI kl 160 lks, oP q2 b2 o2 (↑n) (↑org) ent ed, aI cI b2 160 pb] sz [.ref sq]) (va_Qi (fun (r : Int32) (u : Int × Int × (Nat → Int) × (Nat → Int) × (Nat → Int) × (Nat → Int) × (Nat → Int)) => Fresh pb n u.1 u.2.1 u.2.2.1 ∧ r = iZ u.1) (fun (u : Int × Int × (Nat → Int) × (Nat → Int) × (Nat → Int) × (Nat → Int) × (Nat → Int)) t => zB G cI (va_A [oS sq kq q2 q0, oK kq q2 ks ln gp ek kc km kd kl, aI cI ks 163 strm, aI cI kc 161 cst, aI cI km 160 mks, aI cI kd 160 dst, aI cI kl 160 lks, oP q2 b2 o2 (↑n) (↑org) ent ed, aI cI b2 160 pb] sz) [oS sq kq q2 q0, oK kq q2 ks u.1 u.2.1 ed kc km kd kl, aI cI ks 163 u.2.2.1, aI cI kc 161 u.2.2.2.1, aI cI km 160 u.2.2.2.2.1, aI cI kd 160 u.2.2.2.2.2.1, aI cI kl 160 u.2.2.2.2.2.2, oP q2 b2 o2 (↑n) (↑org) ent ed, aI cI b2 160 pb] t) (va_A [oS sq kq q2 q0, oK kq q2 ks ln gp ek kc km kd kl, aI cI ks 163 strm, aI cI kc 161 cst, aI cI km 160 mks, aI cI kd 160 dst, aI cI kl 160 lks, oP q2 b2 o2 (↑n) (↑org) ent ed, aI cI b2 160 pb] sz)) 0 0 (va_A [oS sq kq q2 q0, oK kq q2 ks ln gp ek kc km kd kl, aI cI ks 163 strm, aI cI kc 161 cst, aI cI km 160 mks, aI cI kd 160 dst, aI cI kl 160 lks, oP q2 b2 o2 (↑n) (↑org) ent ed, aI cI b2 160 pb] sz) := by
  refine zm_i (W1 := fun (u : Int × Int × (Nat → Int) × (Nat → Int) × (Nat → Int) × (Nat → Int) × (Nat → Int)) => [oS sq kq q2 q0, oK kq q2 ks u.1 u.2.1 ed kc km kd kl, aI cI ks 163 u.2.2.1, aI cI kc 161 u.2.2.2.1, aI cI km 160 u.2.2.2.2.1, aI cI kd 160 u.2.2.2.2.2.1, aI cI kl 160 u.2.2.2.2.2.2, oP q2 b2 o2 (((n : Nat) : Int)) (((org : Nat) : Int)) ent ed, aI cI b2 160 pb]) (cc := cX3_packed) (maxL := 1) (ty := .int) (by decide) rfl (Nat.le_of_ble_eq_true rfl) ?_
  intro p e s m args below meth c A Q ls hsz hx hb hml hown hts hret hp hl
  have hl : lv_has ls 1 [(0, .ref sq)] := hl
  have hi3 : ∀ w ∈ wsX30, w ∈ wsX3_packed := fun w h => List.mem_cons_of_mem _ (List.mem_append_left _ (List.mem_append_left _ (List.mem_append_right _ (h))))
  have f10 := hts (.fieldLink RX3 10 "SelfOpener" "packing" "LSelfOpener$Packing;") (List.mem_of_getElem? (i := 1) rfl)
  have hi1 : ∀ w ∈ wsX10, w ∈ wsX3_packed := fun w h => List.mem_cons_of_mem _ (List.mem_append_left _ (List.mem_append_right _ (h)))
  have f73 := hts (.fieldLink RX3 73 "SelfOpener$Packing" "length" "I") (List.mem_of_getElem? (i := 2) rfl)
  suffices hw : ∀ (H : Heap) (locs : List Loc), Hp G cI A s H locs [oS sq kq q2 q0, oK kq q2 ks ln gp ek kc km kd kl, aI cI ks 163 strm, aI cI kc 161 cst, aI cI km 160 mks, aI cI kd 160 dst, aI cI kl 160 lks, oP q2 b2 o2 (↑n) (↑org) ent ed, aI cI b2 160 pb] → W p l e rmX3_packed s m args below meth c H locs 0 0 Q (F0 m 0 ls []) from hw _ _ hp
  clear hp; intro H locs hp
  refine lv_aload_n hx hb dX3_packed_0 rfl (lv_at hl 0 rfl) ?_
  refine z_get hx hb hts hi3 hown hp 0 rfl rfl 0 (by decide) f10 rfl dX3_packed_1 ?_
  refine zc_v (wr := [oS sq kq q2 q0]) (W0 := [oK kq q2 ks ln gp ek kc km kd kl, aI cI ks 163 strm, aI cI kc 161 cst, aI cI km 160 mks, aI cI kd 160 dst, aI cI kl 160 lks, oP q2 b2 o2 (↑n) (↑org) ent ed, aI cI b2 160 pb]) (wl2 := fun (u : Int × Int × (Nat → Int) × (Nat → Int) × (Nat → Int) × (Nat → Int) × (Nat → Int)) => [oS sq kq q2 q0, oK kq q2 ks u.1 u.2.1 ed kc km kd kl, aI cI ks 163 u.2.2.1, aI cI kc 161 u.2.2.2.1, aI cI km 160 u.2.2.2.2.1, aI cI kd 160 u.2.2.2.2.2.1, aI cI kl 160 u.2.2.2.2.2.2, oP q2 b2 o2 (↑n) (↑org) ent ed, aI cI b2 160 pb]) (As := []) (rest := []) hx hb hml hown hts hp (c_X1_refresh l G cI H.size kq ks kc km kd kl q2 b2 o2 strm cst mks dst lks pb n org ln gp ek ent ed (by omega) (h_b) (by omega) (h_f)) zPre_blind (z_pre hp [1, 2, 3, 4, 5, 6, 7, 8] rfl (by decide) [.ref kq]) (cwV 0 hts gX3_packed_X1_refresh rfl rfl rfl (by decide +kernel) ⟨Nat.le_of_ble_eq_true rfl, Nat.le_of_ble_eq_true rfl⟩) [1, 2, 3, 4, 5, 6, 7, 8] [0] [0, 1, 2, 3, 4, 5, 6, 7, 8] rfl rfl ⟨by decide, by decide, by decide⟩ (fun _ => rfl) 1 1 rfl rfl rfl rfl hl.1 rfl (Nat.le_of_ble_eq_true rfl) dX3_packed_4 ⟨Nat.le_of_ble_eq_true rfl, Nat.le_of_ble_eq_true rfl⟩ (fun u4 H locs hq1 hp => ?_)
  have hf : Fresh pb n u4.1 u4.2.1 u4.2.2.1 := hq1
  have hfb := Fresh_b h_n h_b hf
  have hfb1 := hfb.1
  have hfb2 := hfb.2.1
  refine lv_aload_n hx hb dX3_packed_7 rfl (lv_at hl 0 rfl) ?_
  refine z_get hx hb hts hi3 hown hp 0 rfl rfl 0 (by decide) f10 rfl dX3_packed_8 ?_
  refine z_get hx hb hts hi1 hown hp 1 rfl rfl 2 (by decide) f73 rfl dX3_packed_11 ?_
  exact hret _ _ _ _ _ _ _ u4 (⟨hf, rfl⟩) hp dX3_packed_14 (rfl) (Nat.le_of_ble_eq_true rfl) (Nat.le_of_ble_eq_true rfl)
abbrev rmX3_gap : Room := { frames := 3, cells := 0, slots := 0, locals := 150 }
set_option maxRecDepth 100000 in
set_option maxHeartbeats 4000000 in
theorem c_X3_gap (l : Launch) (G : va_G) (cI : ClassId) (sz : Nat) (sq q0 : Nat) (kq ks kc km kd kl : Nat) (q2 b2 o2 : Nat) (strm cst mks dst lks pb : Nat → Int) (n org : Nat) (ln gp ek ent ed : Int) (h_n : n ≤ 160) (h_b : BB pb 160) (h_e : rg ek ∧ rg ed) (h_f : ek = ed → Fresh pb n ln gp strm) : Met l yX3_gap wsX3_gap rmX3_gap (zPre G cI [oS sq kq q2 q0, oK kq q2 ks ln gp ek kc km kd kl, aI cI ks 163 strm, aI cI kc 161 cst, aI cI km 160 mks, aI cI kd 160 dst, aI cI kl 160 lks, oP q2 b2 o2 (↑n) (↑org) ent ed, aI cI b2 160 pb] sz [.ref sq]) (va_Qi (fun (r : Int32) (u : Int × Int × (Nat → Int) × (Nat → Int) × (Nat → Int) × (Nat → Int) × (Nat → Int)) => Fresh pb n u.1 u.2.1 u.2.2.1 ∧ r = iZ u.2.1) (fun (u : Int × Int × (Nat → Int) × (Nat → Int) × (Nat → Int) × (Nat → Int) × (Nat → Int)) t => zB G cI (va_A [oS sq kq q2 q0, oK kq q2 ks ln gp ek kc km kd kl, aI cI ks 163 strm, aI cI kc 161 cst, aI cI km 160 mks, aI cI kd 160 dst, aI cI kl 160 lks, oP q2 b2 o2 (↑n) (↑org) ent ed, aI cI b2 160 pb] sz) [oS sq kq q2 q0, oK kq q2 ks u.1 u.2.1 ed kc km kd kl, aI cI ks 163 u.2.2.1, aI cI kc 161 u.2.2.2.1, aI cI km 160 u.2.2.2.2.1, aI cI kd 160 u.2.2.2.2.2.1, aI cI kl 160 u.2.2.2.2.2.2, oP q2 b2 o2 (↑n) (↑org) ent ed, aI cI b2 160 pb] t) (va_A [oS sq kq q2 q0, oK kq q2 ks ln gp ek kc km kd kl, aI cI ks 163 strm, aI cI kc 161 cst, aI cI km 160 mks, aI cI kd 160 dst, aI cI kl 160 lks, oP q2 b2 o2 (↑n) (↑org) ent ed, aI cI b2 160 pb] sz)) 0 0 (va_A [oS sq kq q2 q0, oK kq q2 ks ln gp ek kc km kd kl, aI cI ks 163 strm, aI cI kc 161 cst, aI cI km 160 mks, aI cI kd 160 dst, aI cI kl 160 lks, oP q2 b2 o2 (↑n) (↑org) ent ed, aI cI b2 160 pb] sz) := by
  refine zm_i (W1 := fun (u : Int × Int × (Nat → Int) × (Nat → Int) × (Nat → Int) × (Nat → Int) × (Nat → Int)) => [oS sq kq q2 q0, oK kq q2 ks u.1 u.2.1 ed kc km kd kl, aI cI ks 163 u.2.2.1, aI cI kc 161 u.2.2.2.1, aI cI km 160 u.2.2.2.2.1, aI cI kd 160 u.2.2.2.2.2.1, aI cI kl 160 u.2.2.2.2.2.2, oP q2 b2 o2 (((n : Nat) : Int)) (((org : Nat) : Int)) ent ed, aI cI b2 160 pb]) (cc := cX3_gap) (maxL := 1) (ty := .int) (by decide) rfl (Nat.le_of_ble_eq_true rfl) ?_
  intro p e s m args below meth c A Q ls hsz hx hb hml hown hts hret hp hl
  have hl : lv_has ls 1 [(0, .ref sq)] := hl
  have hi3 : ∀ w ∈ wsX30, w ∈ wsX3_gap := fun w h => List.mem_cons_of_mem _ (List.mem_append_left _ (List.mem_append_left _ (List.mem_append_right _ (h))))
  have f10 := hts (.fieldLink RX3 10 "SelfOpener" "packing" "LSelfOpener$Packing;") (List.mem_of_getElem? (i := 1) rfl)
  have hi1 : ∀ w ∈ wsX10, w ∈ wsX3_gap := fun w h => List.mem_cons_of_mem _ (List.mem_append_left _ (List.mem_append_right _ (h)))
  have f79 := hts (.fieldLink RX3 79 "SelfOpener$Packing" "gap" "I") (List.mem_of_getElem? (i := 2) rfl)
  suffices hw : ∀ (H : Heap) (locs : List Loc), Hp G cI A s H locs [oS sq kq q2 q0, oK kq q2 ks ln gp ek kc km kd kl, aI cI ks 163 strm, aI cI kc 161 cst, aI cI km 160 mks, aI cI kd 160 dst, aI cI kl 160 lks, oP q2 b2 o2 (↑n) (↑org) ent ed, aI cI b2 160 pb] → W p l e rmX3_gap s m args below meth c H locs 0 0 Q (F0 m 0 ls []) from hw _ _ hp
  clear hp; intro H locs hp
  refine lv_aload_n hx hb dX3_gap_0 rfl (lv_at hl 0 rfl) ?_
  refine z_get hx hb hts hi3 hown hp 0 rfl rfl 0 (by decide) f10 rfl dX3_gap_1 ?_
  refine zc_v (wr := [oS sq kq q2 q0]) (W0 := [oK kq q2 ks ln gp ek kc km kd kl, aI cI ks 163 strm, aI cI kc 161 cst, aI cI km 160 mks, aI cI kd 160 dst, aI cI kl 160 lks, oP q2 b2 o2 (↑n) (↑org) ent ed, aI cI b2 160 pb]) (wl2 := fun (u : Int × Int × (Nat → Int) × (Nat → Int) × (Nat → Int) × (Nat → Int) × (Nat → Int)) => [oS sq kq q2 q0, oK kq q2 ks u.1 u.2.1 ed kc km kd kl, aI cI ks 163 u.2.2.1, aI cI kc 161 u.2.2.2.1, aI cI km 160 u.2.2.2.2.1, aI cI kd 160 u.2.2.2.2.2.1, aI cI kl 160 u.2.2.2.2.2.2, oP q2 b2 o2 (↑n) (↑org) ent ed, aI cI b2 160 pb]) (As := []) (rest := []) hx hb hml hown hts hp (c_X1_refresh l G cI H.size kq ks kc km kd kl q2 b2 o2 strm cst mks dst lks pb n org ln gp ek ent ed (by omega) (h_b) (by omega) (h_f)) zPre_blind (z_pre hp [1, 2, 3, 4, 5, 6, 7, 8] rfl (by decide) [.ref kq]) (cwV 0 hts gX3_gap_X1_refresh rfl rfl rfl (by decide +kernel) ⟨Nat.le_of_ble_eq_true rfl, Nat.le_of_ble_eq_true rfl⟩) [1, 2, 3, 4, 5, 6, 7, 8] [0] [0, 1, 2, 3, 4, 5, 6, 7, 8] rfl rfl ⟨by decide, by decide, by decide⟩ (fun _ => rfl) 1 1 rfl rfl rfl rfl hl.1 rfl (Nat.le_of_ble_eq_true rfl) dX3_gap_4 ⟨Nat.le_of_ble_eq_true rfl, Nat.le_of_ble_eq_true rfl⟩ (fun u4 H locs hq1 hp => ?_)
  have hf : Fresh pb n u4.1 u4.2.1 u4.2.2.1 := hq1
  have hfb := Fresh_b h_n h_b hf
  have hfb1 := hfb.1
  have hfb2 := hfb.2.1
  refine lv_aload_n hx hb dX3_gap_7 rfl (lv_at hl 0 rfl) ?_
  refine z_get hx hb hts hi3 hown hp 0 rfl rfl 0 (by decide) f10 rfl dX3_gap_8 ?_
  refine z_get hx hb hts hi1 hown hp 1 rfl rfl 3 (by decide) f79 rfl dX3_gap_11 ?_
  exact hret _ _ _ _ _ _ _ u4 (⟨hf, rfl⟩) hp dX3_gap_14 (rfl) (Nat.le_of_ble_eq_true rfl) (Nat.le_of_ble_eq_true rfl)
abbrev rmX3_stream : Room := { frames := 7, cells := 1, slots := 6, locals := 150 }
set_option maxRecDepth 100000 in
set_option maxHeartbeats 4000000 in
theorem c_X3_stream (l : Launch) (G : va_G) (cI : ClassId) (t : Nat) (hst : l.stackTraces = false) (sz : Nat) (sq q0 : Nat) (kq ks kc km kd kl : Nat) (q2 b2 o2 : Nat) (strm cst mks dst lks pb : Nat → Int) (n org : Nat) (ln gp ek ent ed : Int) (i : Int) (h_n : n ≤ 160) (h_b : BB pb 160) (h_e : rg ek ∧ rg ed) (h_f : ek = ed → Fresh pb n ln gp strm) (h_i : rg i) : vx_Met l yX3_stream wsX3_stream rmX3_stream (zPreC t G cI [oS sq kq q2 q0, oK kq q2 ks ln gp ek kc km kd kl, aI cI ks 163 strm, aI cI kc 161 cst, aI cI km 160 mks, aI cI kd 160 dst, aI cI kl 160 lks, oP q2 b2 o2 (↑n) (↑org) ent ed, aI cI b2 160 pb] sz [.ref sq, .int (iZ (i))]) (va_Qi (fun (r : Int32) (u : Int × Int × (Nat → Int) × (Nat → Int) × (Nat → Int) × (Nat → Int) × (Nat → Int)) => Fresh pb n u.1 u.2.1 u.2.2.1 ∧ (0 ≤ i ∧ i < u.1) ∧ r = iZ (u.2.2.1 i.toNat)) (fun (u : Int × Int × (Nat → Int) × (Nat → Int) × (Nat → Int) × (Nat → Int) × (Nat → Int)) t => zB G cI (va_A [oS sq kq q2 q0, oK kq q2 ks ln gp ek kc km kd kl, aI cI ks 163 strm, aI cI kc 161 cst, aI cI km 160 mks, aI cI kd 160 dst, aI cI kl 160 lks, oP q2 b2 o2 (↑n) (↑org) ent ed, aI cI b2 160 pb] sz) [oS sq kq q2 q0, oK kq q2 ks u.1 u.2.1 ed kc km kd kl, aI cI ks 163 u.2.2.1, aI cI kc 161 u.2.2.2.1, aI cI km 160 u.2.2.2.2.1, aI cI kd 160 u.2.2.2.2.2.1, aI cI kl 160 u.2.2.2.2.2.2, oP q2 b2 o2 (↑n) (↑org) ent ed, aI cI b2 160 pb] t) (va_A [oS sq kq q2 q0, oK kq q2 ks ln gp ek kc km kd kl, aI cI ks 163 strm, aI cI kc 161 cst, aI cI km 160 mks, aI cI kd 160 dst, aI cI kl 160 lks, oP q2 b2 o2 (↑n) (↑org) ent ed, aI cI b2 160 pb] sz)) (vx_X (fun _ => True) (fun X (u : Int × Int × (Nat → Int) × (Nat → Int) × (Nat → Int) × (Nat → Int) × (Nat → Int)) t => (X = nOB ∧ Fresh pb n u.1 u.2.1 u.2.2.1 ∧ ¬ (0 ≤ i ∧ i < u.1)) ∧ zB G cI (va_A [oS sq kq q2 q0, oK kq q2 ks ln gp ek kc km kd kl, aI cI ks 163 strm, aI cI kc 161 cst, aI cI km 160 mks, aI cI kd 160 dst, aI cI kl 160 lks, oP q2 b2 o2 (↑n) (↑org) ent ed, aI cI b2 160 pb] sz) [oS sq kq q2 q0, oK kq q2 ks u.1 u.2.1 ed kc km kd kl, aI cI ks 163 u.2.2.1, aI cI kc 161 u.2.2.2.1, aI cI km 160 u.2.2.2.2.1, aI cI kd 160 u.2.2.2.2.2.1, aI cI kl 160 u.2.2.2.2.2.2, oP q2 b2 o2 (↑n) (↑org) ent ed, aI cI b2 160 pb] t) (va_A [oS sq kq q2 q0, oK kq q2 ks ln gp ek kc km kd kl, aI cI ks 163 strm, aI cI kc 161 cst, aI cI km 160 mks, aI cI kd 160 dst, aI cI kl 160 lks, oP q2 b2 o2 (↑n) (↑org) ent ed, aI cI b2 160 pb] sz)) 1 6 (va_A [oS sq kq q2 q0, oK kq q2 ks ln gp ek kc km kd kl, aI cI ks 163 strm, aI cI kc 161 cst, aI cI km 160 mks, aI cI kd 160 dst, aI cI kl 160 lks, oP q2 b2 o2 (↑n) (↑org) ent ed, aI cI b2 160 pb] sz) := by
  refine zm_xi (W1 := fun (u : Int × Int × (Nat → Int) × (Nat → Int) × (Nat → Int) × (Nat → Int) × (Nat → Int)) => [oS sq kq q2 q0, oK kq q2 ks u.1 u.2.1 ed kc km kd kl, aI cI ks 163 u.2.2.1, aI cI kc 161 u.2.2.2.1, aI cI km 160 u.2.2.2.2.1, aI cI kd 160 u.2.2.2.2.2.1, aI cI kl 160 u.2.2.2.2.2.2, oP q2 b2 o2 (((n : Nat) : Int)) (((org : Nat) : Int)) ent ed, aI cI b2 160 pb]) (WX := fun (u : Int × Int × (Nat → Int) × (Nat → Int) × (Nat → Int) × (Nat → Int) × (Nat → Int)) => [oS sq kq q2 q0, oK kq q2 ks u.1 u.2.1 ed kc km kd kl, aI cI ks 163 u.2.2.1, aI cI kc 161 u.2.2.2.1, aI cI km 160 u.2.2.2.2.1, aI cI kd 160 u.2.2.2.2.2.1, aI cI kl 160 u.2.2.2.2.2.2, oP q2 b2 o2 (((n : Nat) : Int)) (((org : Nat) : Int)) ent ed, aI cI b2 160 pb]) (cc := cX3_stream) (maxL := 2) (ty := .int) hst rfl rfl (by decide) rfl (Nat.le_of_ble_eq_true rfl) ?_
  intro p e s m args below meth c A Q ls hsz hx hb hml hown hts hC hret hthr hout hp hl
  have hl : lv_has ls 2 [(0, .ref sq), (1, .int (iZ (i)))] := hl
  have hi3 : ∀ w ∈ wsX30, w ∈ wsX3_stream := fun w h => List.mem_cons_of_mem _ (List.mem_append_left _ (List.mem_append_left _ (List.mem_append_left _ (List.mem_append_right _ (h)))))
  have f10 := hts (.fieldLink RX3 10 "SelfOpener" "packing" "LSelfOpener$Packing;") (List.mem_of_getElem? (i := 3) rfl)
  have l48 := hts (.classLink RX3 48 "java/lang/IndexOutOfBoundsException") (List.mem_of_getElem? (i := 1) rfl)
  have ini48 := hts (.initialized "java/lang/IndexOutOfBoundsException") (List.mem_of_getElem? (i := 2) rfl)
  have hi1 : ∀ w ∈ wsX10, w ∈ wsX3_stream := fun w h => List.mem_cons_of_mem _ (List.mem_append_left _ (List.mem_append_left _ (List.mem_append_right _ (h))))
  have f73 := hts (.fieldLink RX3 73 "SelfOpener$Packing" "length" "I") (List.mem_of_getElem? (i := 4) rfl)
  have f76 := hts (.fieldLink RX3 76 "SelfOpener$Packing" "stream" "[I") (List.mem_of_getElem? (i := 5) rfl)
  suffices hw : ∀ (H : Heap) (locs : List Loc), Hp G cI A s H locs [oS sq kq q2 q0, oK kq q2 ks ln gp ek kc km kd kl, aI cI ks 163 strm, aI cI kc 161 cst, aI cI km 160 mks, aI cI kd 160 dst, aI cI kl 160 lks, oP q2 b2 o2 (↑n) (↑org) ent ed, aI cI b2 160 pb] → W p l e rmX3_stream s m args below meth c H locs 0 0 Q (F0 m 0 ls []) from hw _ _ hp
  clear hp; intro H locs hp
  refine lv_aload_n hx hb dX3_stream_0 rfl (lv_at hl 0 rfl) ?_
  refine z_get hx hb hts hi3 hown hp 0 rfl rfl 0 (by decide) f10 rfl dX3_stream_1 ?_
  refine zc_v (wr := [oS sq kq q2 q0]) (W0 := [oK kq q2 ks ln gp ek kc km kd kl, aI cI ks 163 strm, aI cI kc 161 cst, aI cI km 160 mks, aI cI kd 160 dst, aI cI kl 160 lks, oP q2 b2 o2 (↑n) (↑org) ent ed, aI cI b2 160 pb]) (wl2 := fun (u : Int × Int × (Nat → Int) × (Nat → Int) × (Nat → Int) × (Nat → Int) × (Nat → Int)) => [oS sq kq q2 q0, oK kq q2 ks u.1 u.2.1 ed kc km kd kl, aI cI ks 163 u.2.2.1, aI cI kc 161 u.2.2.2.1, aI cI km 160 u.2.2.2.2.1, aI cI kd 160 u.2.2.2.2.2.1, aI cI kl 160 u.2.2.2.2.2.2, oP q2 b2 o2 (↑n) (↑org) ent ed, aI cI b2 160 pb]) (As := []) (rest := []) hx hb hml hown hts hp (c_X1_refresh l G cI H.size kq ks kc km kd kl q2 b2 o2 strm cst mks dst lks pb n org ln gp ek ent ed (by omega) (h_b) (by omega) (h_f)) zPre_blind (z_pre hp [1, 2, 3, 4, 5, 6, 7, 8] rfl (by decide) [.ref kq]) (cwV 0 hts gX3_stream_X1_refresh rfl rfl rfl (by decide +kernel) ⟨Nat.le_of_ble_eq_true rfl, Nat.le_of_ble_eq_true rfl⟩) [1, 2, 3, 4, 5, 6, 7, 8] [0] [0, 1, 2, 3, 4, 5, 6, 7, 8] rfl rfl ⟨by decide, by decide, by decide⟩ (fun _ => rfl) 1 1 rfl rfl rfl rfl hl.1 rfl (Nat.le_of_ble_eq_true rfl) dX3_stream_4 ⟨Nat.le_of_ble_eq_true rfl, Nat.le_of_ble_eq_true rfl⟩ (fun u4 H locs hq1 hp => ?_)
  have hf : Fresh pb n u4.1 u4.2.1 u4.2.2.1 := hq1
  have hfb := Fresh_b h_n h_b hf
  have hfb1 := hfb.1
  have hfb2 := hfb.2.1
  refine lv_iload_n hx hb dX3_stream_7 rfl (lv_at hl 1 rfl) ?_
  refine z_if_lt (tgt := 22) hx hb dX3_stream_8 (by decide) (by omega) (fun h2 => ?_) (fun h2 => ?_)
  · skip
    exact hthr _ _ _ _ _ _ _ "java/lang/IndexOutOfBoundsException" 48 50 u4 (⟨rfl, hf, by omega⟩) hp hl.1 (by decide) l48 ini48 (fun w h => hts w (List.mem_cons_of_mem _ (List.mem_append_right _ (h)))) (by decide +kernel) (by decide +kernel) dX3_stream_22 dX3_stream_25 dX3_stream_26 dX3_stream_29 (Nat.le_of_ble_eq_true rfl) (Nat.le_of_ble_eq_true rfl) (Nat.le_of_ble_eq_true rfl) (Nat.le_of_ble_eq_true rfl) (Nat.le_of_ble_eq_true rfl)
  · skip
    refine lv_iload_n hx hb dX3_stream_11 rfl (lv_at hl 1 rfl) ?_
    refine lv_aload_n hx hb dX3_stream_12 rfl (lv_at hl 0 rfl) ?_
    refine z_get hx hb hts hi3 hown hp 0 rfl rfl 0 (by decide) f10 rfl dX3_stream_13 ?_
    refine z_get hx hb hts hi1 hown hp 1 rfl rfl 2 (by decide) f73 rfl dX3_stream_16 ?_
    refine z_icmp_lt (tgt := 30) hx hb dX3_stream_19 (by decide) (by omega) (fun h3 => ?_) (fun h3 => ?_)
    · skip
      refine lv_aload_n hx hb dX3_stream_30 rfl (lv_at hl 0 rfl) ?_
      refine z_get hx hb hts hi3 hown hp 0 rfl rfl 0 (by decide) f10 rfl dX3_stream_31 ?_
      refine z_get hx hb hts hi1 hown hp 1 rfl rfl 1 (by decide) f76 rfl dX3_stream_34 ?_
      refine lv_iload_n hx hb dX3_stream_37 rfl (lv_at hl 1 rfl) ?_
      refine z_iald hx hb hp 2 rfl (i.toNat) (by omega) dX3_stream_38 (u4.2.2.1 i.toNat) (rfl) ?_
      exact hret _ _ _ _ _ _ _ u4 (⟨hf, by omega, rfl⟩) hp dX3_stream_39 (rfl) (Nat.le_of_ble_eq_true rfl) (Nat.le_of_ble_eq_true rfl)
    · skip
      exact hthr _ _ _ _ _ _ _ "java/lang/IndexOutOfBoundsException" 48 50 u4 (⟨rfl, hf, by omega⟩) hp hl.1 (by decide) l48 ini48 (fun w h => hts w (List.mem_cons_of_mem _ (List.mem_append_right _ (h)))) (by decide +kernel) (by decide +kernel) dX3_stream_22 dX3_stream_25 dX3_stream_26 dX3_stream_29 (Nat.le_of_ble_eq_true rfl) (Nat.le_of_ble_eq_true rfl) (Nat.le_of_ble_eq_true rfl) (Nat.le_of_ble_eq_true rfl) (Nat.le_of_ble_eq_true rfl)
abbrev rmX3_unpack : Room := { frames := 8, cells := 1, slots := 6, locals := 150 }
set_option maxRecDepth 100000 in
set_option maxHeartbeats 4000000 in
theorem c_X3_unpack (l : Launch) (G : va_G) (cI : ClassId) (t : Nat) (hst : l.stackTraces = false) (sz : Nat) (sq kq q2 q0 : Nat) (b2 o2 : Nat) (pb ob : Nat → Int) (n org : Nat) (ent ed : Int) (h_n : n ≤ 160) (h_b : BB pb 160) : vx_Met l yX3_unpack wsX3_unpack rmX3_unpack (zPreC t G cI [oS sq kq q2 q0, oP q2 b2 o2 (↑n) (↑org) ent ed, aI cI b2 160 pb, aI cI o2 160 ob] sz [.ref sq]) (va_Qi (fun (r : Int32) (u : Unit) => (unp pb n (n + 1) 0 0 ob).1 = 0 ∧ r = iZ (↑(unp pb n (n + 1) 0 0 ob).2.1)) (fun (u : Unit) t => zB G cI (va_A [oS sq kq q2 q0, oP q2 b2 o2 (↑n) (↑org) ent ed, aI cI b2 160 pb, aI cI o2 160 ob] sz) [oS sq kq q2 q0, oP q2 b2 o2 (↑(unp pb n (n + 1) 0 0 ob).2.1) (↑org) ent (ed + 1), aI cI b2 160 (cpZ (unp pb n (n + 1) 0 0 ob).2.2 pb 0 0 (unp pb n (n + 1) 0 0 ob).2.1), aI cI o2 160 ((unp pb n (n + 1) 0 0 ob).2.2)] t) (va_A [oS sq kq q2 q0, oP q2 b2 o2 (↑n) (↑org) ent ed, aI cI b2 160 pb, aI cI o2 160 ob] sz)) (vx_X (fun _ => True) (fun X (u : Nat → Int) t => ((unp pb n (n + 1) 0 0 ob).1 ≠ 0 ∧ X = unpX (unp pb n (n + 1) 0 0 ob).1) ∧ zB G cI (va_A [oS sq kq q2 q0, oP q2 b2 o2 (↑n) (↑org) ent ed, aI cI b2 160 pb, aI cI o2 160 ob] sz) [oS sq kq q2 q0, oP q2 b2 o2 (↑n) (↑org) ent ed, aI cI b2 160 pb, aI cI o2 160 u] t) (va_A [oS sq kq q2 q0, oP q2 b2 o2 (↑n) (↑org) ent ed, aI cI b2 160 pb, aI cI o2 160 ob] sz)) 1 6 (va_A [oS sq kq q2 q0, oP q2 b2 o2 (↑n) (↑org) ent ed, aI cI b2 160 pb, aI cI o2 160 ob] sz) := by
  refine zm_xi (W1 := fun (u : Unit) => [oS sq kq q2 q0, oP q2 b2 o2 ((((unp pb n (n + 1) 0 0 ob).2.1 : Nat) : Int)) (((org : Nat) : Int)) ent (ed + 1), aI cI b2 160 (cpZ (unp pb n (n + 1) 0 0 ob).2.2 pb 0 0 (unp pb n (n + 1) 0 0 ob).2.1), aI cI o2 160 ((unp pb n (n + 1) 0 0 ob).2.2)]) (WX := fun (u : Nat → Int) => [oS sq kq q2 q0, oP q2 b2 o2 (((n : Nat) : Int)) (((org : Nat) : Int)) ent ed, aI cI b2 160 pb, aI cI o2 160 u]) (cc := cX3_unpack) (maxL := 1) (ty := .int) hst rfl rfl (by decide) rfl (Nat.le_of_ble_eq_true rfl) ?_
  intro p e s m args below meth c A Q ls hsz hx hb hml hown hts hC hret hthr hout hp hl
  have hl : lv_has ls 1 [(0, .ref sq)] := hl
  have hi3 : ∀ w ∈ wsX30, w ∈ wsX3_unpack := fun w h => List.mem_cons_of_mem _ (List.mem_append_left _ (List.mem_append_left _ (List.mem_append_left _ (List.mem_append_left _ (List.mem_append_left _ (List.mem_append_right _ (h)))))))
  have f20 := hts (.fieldLink RX3 20 "SelfOpener" "program" "LSelfOpener$Program;") (List.mem_of_getElem? (i := 1) rfl)
  have hi2 : ∀ w ∈ wsX20, w ∈ wsX3_unpack := fun w h => List.mem_cons_of_mem _ (List.mem_append_left _ (List.mem_append_left _ (List.mem_append_left _ (List.mem_append_left _ (List.mem_append_right _ (h))))))
  have f40 := hts (.fieldLink RX3 40 "SelfOpener$Program" "size" "I") (List.mem_of_getElem? (i := 2) rfl)
  suffices hw : ∀ (H : Heap) (locs : List Loc), Hp G cI A s H locs [oS sq kq q2 q0, oP q2 b2 o2 (↑n) (↑org) ent ed, aI cI b2 160 pb, aI cI o2 160 ob] → W p l e rmX3_unpack s m args below meth c H locs 0 0 Q (F0 m 0 ls []) from hw _ _ hp
  clear hp; intro H locs hp
  refine lv_aload_n hx hb dX3_unpack_0 rfl (lv_at hl 0 rfl) ?_
  refine z_get hx hb hts hi3 hown hp 0 rfl rfl 1 (by decide) f20 rfl dX3_unpack_1 ?_
  refine zx_v (wr := [oS sq kq q2 q0]) (W0 := [oP q2 b2 o2 (↑n) (↑org) ent ed, aI cI b2 160 pb, aI cI o2 160 ob]) (wl2 := fun (u : Unit) => [oS sq kq q2 q0, oP q2 b2 o2 (↑(unp pb n (n + 1) 0 0 ob).2.1) (↑org) ent (ed + 1), aI cI b2 160 (cpZ (unp pb n (n + 1) 0 0 ob).2.2 pb 0 0 (unp pb n (n + 1) 0 0 ob).2.1), aI cI o2 160 ((unp pb n (n + 1) 0 0 ob).2.2)]) (As := []) (rest := []) (wlX := fun (u : Nat → Int) => [oS sq kq q2 q0, oP q2 b2 o2 (↑n) (↑org) ent ed, aI cI b2 160 pb, aI cI o2 160 u]) hx hb hml hown hts hp (c_X2_openAsStream l G cI t hst H.size q2 b2 o2 pb ob n org ent ed (by omega) (h_b)) zPreC_blind (z_preC hC hp [1, 2, 3] rfl (by decide) [.ref q2]) (cwV 0 hts gX3_unpack_X2_openAsStream rfl rfl rfl (by decide +kernel) ⟨Nat.le_of_ble_eq_true rfl, Nat.le_of_ble_eq_true rfl⟩) [1, 2, 3] [0] [0, 1, 2, 3] rfl rfl ⟨by decide, by decide, by decide⟩ (fun _ => rfl) (fun _ => rfl) 1 2 rfl rfl rfl rfl hl.1 rfl (Nat.le_of_ble_eq_true rfl) dX3_unpack_4 ⟨Nat.le_of_ble_eq_true rfl, Nat.le_of_ble_eq_true rfl⟩ (fun X ce q9 u H1 locs1 hpx hp9 hce hcv hcl => hout _ _ _ _ _ _ _ X ce q9 u (hpx) hp9 hce hcv hcl (Nat.le_of_ble_eq_true rfl) (Nat.le_of_ble_eq_true rfl)) (fun u H locs hq1 hp => ?_)
  have hu := hq1
  refine lv_aload_n hx hb dX3_unpack_7 rfl (lv_at hl 0 rfl) ?_
  refine z_get hx hb hts hi3 hown hp 0 rfl rfl 1 (by decide) f20 rfl dX3_unpack_8 ?_
  refine z_get hx hb hts hi2 hown hp 1 rfl rfl 2 (by decide) f40 rfl dX3_unpack_11 ?_
  exact hret _ _ _ _ _ _ _ () (⟨hu, rfl⟩) hp dX3_unpack_14 (rfl) (Nat.le_of_ble_eq_true rfl) (Nat.le_of_ble_eq_true rfl)
