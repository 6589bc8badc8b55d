abbrev rmX4_init : Room := { frames := 1, cells := 10, slots := 1660, locals := 12 }
set_option maxRecDepth 100000 in
set_option maxHeartbeats 4000000 in
theorem c_X4_init (l : Launch) (G : va_G) (cI : ClassId) (sz : Nat) (mq : Nat)  : Met l yX4_init wsX4_init rmX4_init (zPre G cI [(mq, .inr (4, [.int (iZ (0)), .int (iZ (0)), .null, .int (iZ (0)), .int (iZ (0)), .int (iZ (0)), .int (iZ (0)), .int (iZ (0)), .null, .null, .null, .null, .null, .null, .null, .null, .int (iZ (0)), .int (iZ (0)), .int (iZ (0)), .int (iZ (0)), .null]))] sz [.ref mq]) (va_Qv (fun (u : Nat × Nat × Nat × Nat × Nat × Nat × Nat × Nat × Nat × Nat) => True) (fun (u : Nat × Nat × Nat × Nat × Nat × Nat × Nat × Nat × Nat × Nat) t => zB G cI (va_A [(mq, .inr (4, [.int (iZ (0)), .int (iZ (0)), .null, .int (iZ (0)), .int (iZ (0)), .int (iZ (0)), .int (iZ (0)), .int (iZ (0)), .null, .null, .null, .null, .null, .null, .null, .null, .int (iZ (0)), .int (iZ (0)), .int (iZ (0)), .int (iZ (0)), .null]))] sz) [oR mq 0 0 u.1 0 0 0 0 0 u.2.1 u.2.2.1 u.2.2.2.1 u.2.2.2.2.1 u.2.2.2.2.2.1 u.2.2.2.2.2.2.1 u.2.2.2.2.2.2.2.1 u.2.2.2.2.2.2.2.2.1 0 1 0 0 u.2.2.2.2.2.2.2.2.2, aI cI u.1 160 (fun _ => 0), aI cI u.2.1 400 (fun _ => 0), aI cI u.2.2.1 161 (fun _ => 0), aI cI u.2.2.2.1 161 (fun _ => 0), aI cI u.2.2.2.2.1 161 (fun _ => 0), aI cI u.2.2.2.2.2.1 161 (fun _ => 0), aI cI u.2.2.2.2.2.2.1 160 (fun _ => 0), aI cI u.2.2.2.2.2.2.2.1 256 (fun _ => 0), aI cI u.2.2.2.2.2.2.2.2.1 8 (fun _ => 0), aI cI u.2.2.2.2.2.2.2.2.2 32 (fun _ => 0)] t) (va_A [(mq, .inr (4, [.int (iZ (0)), .int (iZ (0)), .null, .int (iZ (0)), .int (iZ (0)), .int (iZ (0)), .int (iZ (0)), .int (iZ (0)), .null, .null, .null, .null, .null, .null, .null, .null, .int (iZ (0)), .int (iZ (0)), .int (iZ (0)), .int (iZ (0)), .null]))] sz)) 10 1660 (va_A [(mq, .inr (4, [.int (iZ (0)), .int (iZ (0)), .null, .int (iZ (0)), .int (iZ (0)), .int (iZ (0)), .int (iZ (0)), .int (iZ (0)), .null, .null, .null, .null, .null, .null, .null, .null, .int (iZ (0)), .int (iZ (0)), .int (iZ (0)), .int (iZ (0)), .null]))] sz) := by
  refine zm_v (W1 := fun (u : Nat × Nat × Nat × Nat × Nat × Nat × Nat × Nat × Nat × Nat) => [oR mq 0 0 u.1 0 0 0 0 0 u.2.1 u.2.2.1 u.2.2.2.1 u.2.2.2.2.1 u.2.2.2.2.2.1 u.2.2.2.2.2.2.1 u.2.2.2.2.2.2.2.1 u.2.2.2.2.2.2.2.2.1 0 1 0 0 u.2.2.2.2.2.2.2.2.2, aI cI u.1 160 (fun _ => 0), aI cI u.2.1 400 (fun _ => 0), aI cI u.2.2.1 161 (fun _ => 0), aI cI u.2.2.2.1 161 (fun _ => 0), aI cI u.2.2.2.2.1 161 (fun _ => 0), aI cI u.2.2.2.2.2.1 161 (fun _ => 0), aI cI u.2.2.2.2.2.2.1 160 (fun _ => 0), aI cI u.2.2.2.2.2.2.2.1 256 (fun _ => 0), aI cI u.2.2.2.2.2.2.2.2.1 8 (fun _ => 0), aI cI u.2.2.2.2.2.2.2.2.2 32 (fun _ => 0)]) (cc := cX4_init) (maxL := 1) (by decide) rfl (Nat.le_of_ble_eq_true rfl) ?_
  intro p e s m args below meth c A Q ls hsz hx hb hml hown hts hnm hret hp hl
  have hl : lv_has ls 1 [(0, .ref mq)] := hl
  have m1 := hts (.methodLink RX4 1 objectInit) (List.mem_of_getElem? (i := 1) rfl)
  have io := hts (.instanceMethod objectInit) (List.mem_of_getElem? (i := 2) rfl)
  have co := hts (.code objectInit ⟨#[0xb1]⟩ 1 none) (List.mem_of_getElem? (i := 3) rfl)
  have ac := hts (.arrayClass .int) (List.mem_of_getElem? (i := 4) rfl)
  have hi4 : ∀ w ∈ wsX40, w ∈ wsX4_init := fun w h => List.mem_cons_of_mem _ (List.mem_append_right _ (h))
  have f7 := hts (.fieldLink RX4 7 "SelfOpenerModel" "program" "[I") (List.mem_of_getElem? (i := 5) rfl)
  have f13 := hts (.fieldLink RX4 13 "SelfOpenerModel" "stream" "[I") (List.mem_of_getElem? (i := 6) rfl)
  have f16 := hts (.fieldLink RX4 16 "SelfOpenerModel" "least" "[I") (List.mem_of_getElem? (i := 7) rfl)
  have f19 := hts (.fieldLink RX4 19 "SelfOpenerModel" "token" "[I") (List.mem_of_getElem? (i := 8) rfl)
  have f22 := hts (.fieldLink RX4 22 "SelfOpenerModel" "distance" "[I") (List.mem_of_getElem? (i := 9) rfl)
  have f25 := hts (.fieldLink RX4 25 "SelfOpenerModel" "right" "[I") (List.mem_of_getElem? (i := 10) rfl)
  have f28 := hts (.fieldLink RX4 28 "SelfOpenerModel" "open" "[I") (List.mem_of_getElem? (i := 11) rfl)
  have f31 := hts (.fieldLink RX4 31 "SelfOpenerModel" "memory" "[I") (List.mem_of_getElem? (i := 12) rfl)
  have f34 := hts (.fieldLink RX4 34 "SelfOpenerModel" "registers" "[I") (List.mem_of_getElem? (i := 13) rfl)
  have f37 := hts (.fieldLink RX4 37 "SelfOpenerModel" "state" "I") (List.mem_of_getElem? (i := 14) rfl)
  have f41 := hts (.fieldLink RX4 41 "SelfOpenerModel" "out" "[I") (List.mem_of_getElem? (i := 15) rfl)
  suffices hw : ∀ (H : Heap) (locs : List Loc), Hp G cI A s H locs [(mq, .inr (4, [.int (iZ (0)), .int (iZ (0)), .null, .int (iZ (0)), .int (iZ (0)), .int (iZ (0)), .int (iZ (0)), .int (iZ (0)), .null, .null, .null, .null, .null, .null, .null, .null, .int (iZ (0)), .int (iZ (0)), .int (iZ (0)), .int (iZ (0)), .null]))] → W p l e rmX4_init s m args below meth c H locs 0 0 Q (F0 m 0 ls []) from hw _ _ hp
  clear hp; intro H locs hp
  refine lv_aload_n hx hb dX4_init_0 rfl (lv_at hl 0 rfl) ?_
  refine W.objInit hx hb hown m1 io co rfl (by rw [hml]; exact hl.1) rfl dX4_init_1 (Nat.le_of_ble_eq_true rfl) (Nat.le_of_ble_eq_true rfl) ?_
  refine W.eq (g2 := F0 m 4 ls []) rfl ?_
  refine lv_aload_n hx hb dX4_init_4 rfl (lv_at hl 0 rfl) ?_
  refine z_sipush hx hb dX4_init_5 (by decide +kernel) ?_
  refine z_newa hx hb 160 ac hp (by decide) (by decide) rfl (Nat.le_of_ble_eq_true rfl) (Nat.le_of_ble_eq_true rfl) dX4_init_8 (fun z0 H hp => ?_)
  have hp : Hp G cI A s H locs [(mq, .inr (4, [.int (iZ (0)), .int (iZ (0)), .null, .int (iZ (0)), .int (iZ (0)), .int (iZ (0)), .int (iZ (0)), .int (iZ (0)), .null, .null, .null, .null, .null, .null, .null, .null, .int (iZ (0)), .int (iZ (0)), .int (iZ (0)), .int (iZ (0)), .null])), aI cI z0 160 (fun _ => 0)] := hp
  refine z_putF hx hb hts hi4 tyX4 tyX4_ok nmX4 hown hp 0 rfl rfl 2 (by decide) f7 rfl hnm rfl (rfl) (rfl) (Nat.le_of_ble_eq_true rfl) dX4_init_10 (ws' := [(mq, .inr (4, [.int (iZ (0)), .int (iZ (0)), .ref z0, .int (iZ (0)), .int (iZ (0)), .int (iZ (0)), .int (iZ (0)), .int (iZ (0)), .null, .null, .null, .null, .null, .null, .null, .null, .int (iZ (0)), .int (iZ (0)), .int (iZ (0)), .int (iZ (0)), .null])), aI cI z0 160 (fun _ => 0)]) rfl (fun H locs hp => ?_)
  refine lv_aload_n hx hb dX4_init_13 rfl (lv_at hl 0 rfl) ?_
  refine z_sipush hx hb dX4_init_14 (by decide +kernel) ?_
  refine z_newa hx hb 400 ac hp (by decide) (by decide) rfl (Nat.le_of_ble_eq_true rfl) (Nat.le_of_ble_eq_true rfl) dX4_init_17 (fun z1 H hp => ?_)
  have hp : Hp G cI A s H locs [(mq, .inr (4, [.int (iZ (0)), .int (iZ (0)), .ref z0, .int (iZ (0)), .int (iZ (0)), .int (iZ (0)), .int (iZ (0)), .int (iZ (0)), .null, .null, .null, .null, .null, .null, .null, .null, .int (iZ (0)), .int (iZ (0)), .int (iZ (0)), .int (iZ (0)), .null])), aI cI z0 160 (fun _ => 0), aI cI z1 400 (fun _ => 0)] := hp
  refine z_putF hx hb hts hi4 tyX4 tyX4_ok nmX4 hown hp 0 rfl rfl 8 (by decide) f13 rfl hnm rfl (rfl) (rfl) (Nat.le_of_ble_eq_true rfl) dX4_init_19 (ws' := [(mq, .inr (4, [.int (iZ (0)), .int (iZ (0)), .ref z0, .int (iZ (0)), .int (iZ (0)), .int (iZ (0)), .int (iZ (0)), .int (iZ (0)), .ref z1, .null, .null, .null, .null, .null, .null, .null, .int (iZ (0)), .int (iZ (0)), .int (iZ (0)), .int (iZ (0)), .null])), aI cI z0 160 (fun _ => 0), aI cI z1 400 (fun _ => 0)]) rfl (fun H locs hp => ?_)
  refine lv_aload_n hx hb dX4_init_22 rfl (lv_at hl 0 rfl) ?_
  refine z_sipush hx hb dX4_init_23 (by decide +kernel) ?_
  refine z_newa hx hb 161 ac hp (by decide) (by decide) rfl (Nat.le_of_ble_eq_true rfl) (Nat.le_of_ble_eq_true rfl) dX4_init_26 (fun z2 H hp => ?_)
  have hp : Hp G cI A s H locs [(mq, .inr (4, [.int (iZ (0)), .int (iZ (0)), .ref z0, .int (iZ (0)), .int (iZ (0)), .int (iZ (0)), .int (iZ (0)), .int (iZ (0)), .ref z1, .null, .null, .null, .null, .null, .null, .null, .int (iZ (0)), .int (iZ (0)), .int (iZ (0)), .int (iZ (0)), .null])), aI cI z0 160 (fun _ => 0), aI cI z1 400 (fun _ => 0), aI cI z2 161 (fun _ => 0)] := hp
  refine z_putF hx hb hts hi4 tyX4 tyX4_ok nmX4 hown hp 0 rfl rfl 9 (by decide) f16 rfl hnm rfl (rfl) (rfl) (Nat.le_of_ble_eq_true rfl) dX4_init_28 (ws' := [(mq, .inr (4, [.int (iZ (0)), .int (iZ (0)), .ref z0, .int (iZ (0)), .int (iZ (0)), .int (iZ (0)), .int (iZ (0)), .int (iZ (0)), .ref z1, .ref z2, .null, .null, .null, .null, .null, .null, .int (iZ (0)), .int (iZ (0)), .int (iZ (0)), .int (iZ (0)), .null])), aI cI z0 160 (fun _ => 0), aI cI z1 400 (fun _ => 0), aI cI z2 161 (fun _ => 0)]) rfl (fun H locs hp => ?_)
  refine lv_aload_n hx hb dX4_init_31 rfl (lv_at hl 0 rfl) ?_
  refine z_sipush hx hb dX4_init_32 (by decide +kernel) ?_
  refine z_newa hx hb 161 ac hp (by decide) (by decide) rfl (Nat.le_of_ble_eq_true rfl) (Nat.le_of_ble_eq_true rfl) dX4_init_35 (fun z3 H hp => ?_)
  have hp : Hp G cI A s H locs [(mq, .inr (4, [.int (iZ (0)), .int (iZ (0)), .ref z0, .int (iZ (0)), .int (iZ (0)), .int (iZ (0)), .int (iZ (0)), .int (iZ (0)), .ref z1, .ref z2, .null, .null, .null, .null, .null, .null, .int (iZ (0)), .int (iZ (0)), .int (iZ (0)), .int (iZ (0)), .null])), aI cI z0 160 (fun _ => 0), aI cI z1 400 (fun _ => 0), aI cI z2 161 (fun _ => 0), aI cI z3 161 (fun _ => 0)] := hp
  refine z_putF hx hb hts hi4 tyX4 tyX4_ok nmX4 hown hp 0 rfl rfl 10 (by decide) f19 rfl hnm rfl (rfl) (rfl) (Nat.le_of_ble_eq_true rfl) dX4_init_37 (ws' := [(mq, .inr (4, [.int (iZ (0)), .int (iZ (0)), .ref z0, .int (iZ (0)), .int (iZ (0)), .int (iZ (0)), .int (iZ (0)), .int (iZ (0)), .ref z1, .ref z2, .ref z3, .null, .null, .null, .null, .null, .int (iZ (0)), .int (iZ (0)), .int (iZ (0)), .int (iZ (0)), .null])), aI cI z0 160 (fun _ => 0), aI cI z1 400 (fun _ => 0), aI cI z2 161 (fun _ => 0), aI cI z3 161 (fun _ => 0)]) rfl (fun H locs hp => ?_)
  refine lv_aload_n hx hb dX4_init_40 rfl (lv_at hl 0 rfl) ?_
  refine z_sipush hx hb dX4_init_41 (by decide +kernel) ?_
  refine z_newa hx hb 161 ac hp (by decide) (by decide) rfl (Nat.le_of_ble_eq_true rfl) (Nat.le_of_ble_eq_true rfl) dX4_init_44 (fun z4 H hp => ?_)
  have hp : Hp G cI A s H locs [(mq, .inr (4, [.int (iZ (0)), .int (iZ (0)), .ref z0, .int (iZ (0)), .int (iZ (0)), .int (iZ (0)), .int (iZ (0)), .int (iZ (0)), .ref z1, .ref z2, .ref z3, .null, .null, .null, .null, .null, .int (iZ (0)), .int (iZ (0)), .int (iZ (0)), .int (iZ (0)), .null])), aI cI z0 160 (fun _ => 0), aI cI z1 400 (fun _ => 0), aI cI z2 161 (fun _ => 0), aI cI z3 161 (fun _ => 0), aI cI z4 161 (fun _ => 0)] := hp
  refine z_putF hx hb hts hi4 tyX4 tyX4_ok nmX4 hown hp 0 rfl rfl 11 (by decide) f22 rfl hnm rfl (rfl) (rfl) (Nat.le_of_ble_eq_true rfl) dX4_init_46 (ws' := [(mq, .inr (4, [.int (iZ (0)), .int (iZ (0)), .ref z0, .int (iZ (0)), .int (iZ (0)), .int (iZ (0)), .int (iZ (0)), .int (iZ (0)), .ref z1, .ref z2, .ref z3, .ref z4, .null, .null, .null, .null, .int (iZ (0)), .int (iZ (0)), .int (iZ (0)), .int (iZ (0)), .null])), aI cI z0 160 (fun _ => 0), aI cI z1 400 (fun _ => 0), aI cI z2 161 (fun _ => 0), aI cI z3 161 (fun _ => 0), aI cI z4 161 (fun _ => 0)]) rfl (fun H locs hp => ?_)
  refine lv_aload_n hx hb dX4_init_49 rfl (lv_at hl 0 rfl) ?_
  refine z_sipush hx hb dX4_init_50 (by decide +kernel) ?_
  refine z_newa hx hb 161 ac hp (by decide) (by decide) rfl (Nat.le_of_ble_eq_true rfl) (Nat.le_of_ble_eq_true rfl) dX4_init_53 (fun z5 H hp => ?_)
  have hp : Hp G cI A s H locs [(mq, .inr (4, [.int (iZ (0)), .int (iZ (0)), .ref z0, .int (iZ (0)), .int (iZ (0)), .int (iZ (0)), .int (iZ (0)), .int (iZ (0)), .ref z1, .ref z2, .ref z3, .ref z4, .null, .null, .null, .null, .int (iZ (0)), .int (iZ (0)), .int (iZ (0)), .int (iZ (0)), .null])), aI cI z0 160 (fun _ => 0), aI cI z1 400 (fun _ => 0), aI cI z2 161 (fun _ => 0), aI cI z3 161 (fun _ => 0), aI cI z4 161 (fun _ => 0), aI cI z5 161 (fun _ => 0)] := hp
  refine z_putF hx hb hts hi4 tyX4 tyX4_ok nmX4 hown hp 0 rfl rfl 12 (by decide) f25 rfl hnm rfl (rfl) (rfl) (Nat.le_of_ble_eq_true rfl) dX4_init_55 (ws' := [(mq, .inr (4, [.int (iZ (0)), .int (iZ (0)), .ref z0, .int (iZ (0)), .int (iZ (0)), .int (iZ (0)), .int (iZ (0)), .int (iZ (0)), .ref z1, .ref z2, .ref z3, .ref z4, .ref z5, .null, .null, .null, .int (iZ (0)), .int (iZ (0)), .int (iZ (0)), .int (iZ (0)), .null])), aI cI z0 160 (fun _ => 0), aI cI z1 400 (fun _ => 0), aI cI z2 161 (fun _ => 0), aI cI z3 161 (fun _ => 0), aI cI z4 161 (fun _ => 0), aI cI z5 161 (fun _ => 0)]) rfl (fun H locs hp => ?_)
  refine lv_aload_n hx hb dX4_init_58 rfl (lv_at hl 0 rfl) ?_
  refine z_sipush hx hb dX4_init_59 (by decide +kernel) ?_
  refine z_newa hx hb 160 ac hp (by decide) (by decide) rfl (Nat.le_of_ble_eq_true rfl) (Nat.le_of_ble_eq_true rfl) dX4_init_62 (fun z6 H hp => ?_)
  have hp : Hp G cI A s H locs [(mq, .inr (4, [.int (iZ (0)), .int (iZ (0)), .ref z0, .int (iZ (0)), .int (iZ (0)), .int (iZ (0)), .int (iZ (0)), .int (iZ (0)), .ref z1, .ref z2, .ref z3, .ref z4, .ref z5, .null, .null, .null, .int (iZ (0)), .int (iZ (0)), .int (iZ (0)), .int (iZ (0)), .null])), aI cI z0 160 (fun _ => 0), aI cI z1 400 (fun _ => 0), aI cI z2 161 (fun _ => 0), aI cI z3 161 (fun _ => 0), aI cI z4 161 (fun _ => 0), aI cI z5 161 (fun _ => 0), aI cI z6 160 (fun _ => 0)] := hp
  refine z_putF hx hb hts hi4 tyX4 tyX4_ok nmX4 hown hp 0 rfl rfl 13 (by decide) f28 rfl hnm rfl (rfl) (rfl) (Nat.le_of_ble_eq_true rfl) dX4_init_64 (ws' := [(mq, .inr (4, [.int (iZ (0)), .int (iZ (0)), .ref z0, .int (iZ (0)), .int (iZ (0)), .int (iZ (0)), .int (iZ (0)), .int (iZ (0)), .ref z1, .ref z2, .ref z3, .ref z4, .ref z5, .ref z6, .null, .null, .int (iZ (0)), .int (iZ (0)), .int (iZ (0)), .int (iZ (0)), .null])), aI cI z0 160 (fun _ => 0), aI cI z1 400 (fun _ => 0), aI cI z2 161 (fun _ => 0), aI cI z3 161 (fun _ => 0), aI cI z4 161 (fun _ => 0), aI cI z5 161 (fun _ => 0), aI cI z6 160 (fun _ => 0)]) rfl (fun H locs hp => ?_)
  refine lv_aload_n hx hb dX4_init_67 rfl (lv_at hl 0 rfl) ?_
  refine z_sipush hx hb dX4_init_68 (by decide +kernel) ?_
  refine z_newa hx hb 256 ac hp (by decide) (by decide) rfl (Nat.le_of_ble_eq_true rfl) (Nat.le_of_ble_eq_true rfl) dX4_init_71 (fun z7 H hp => ?_)
  have hp : Hp G cI A s H locs [(mq, .inr (4, [.int (iZ (0)), .int (iZ (0)), .ref z0, .int (iZ (0)), .int (iZ (0)), .int (iZ (0)), .int (iZ (0)), .int (iZ (0)), .ref z1, .ref z2, .ref z3, .ref z4, .ref z5, .ref z6, .null, .null, .int (iZ (0)), .int (iZ (0)), .int (iZ (0)), .int (iZ (0)), .null])), aI cI z0 160 (fun _ => 0), aI cI z1 400 (fun _ => 0), aI cI z2 161 (fun _ => 0), aI cI z3 161 (fun _ => 0), aI cI z4 161 (fun _ => 0), aI cI z5 161 (fun _ => 0), aI cI z6 160 (fun _ => 0), aI cI z7 256 (fun _ => 0)] := hp
  refine z_putF hx hb hts hi4 tyX4 tyX4_ok nmX4 hown hp 0 rfl rfl 14 (by decide) f31 rfl hnm rfl (rfl) (rfl) (Nat.le_of_ble_eq_true rfl) dX4_init_73 (ws' := [(mq, .inr (4, [.int (iZ (0)), .int (iZ (0)), .ref z0, .int (iZ (0)), .int (iZ (0)), .int (iZ (0)), .int (iZ (0)), .int (iZ (0)), .ref z1, .ref z2, .ref z3, .ref z4, .ref z5, .ref z6, .ref z7, .null, .int (iZ (0)), .int (iZ (0)), .int (iZ (0)), .int (iZ (0)), .null])), aI cI z0 160 (fun _ => 0), aI cI z1 400 (fun _ => 0), aI cI z2 161 (fun _ => 0), aI cI z3 161 (fun _ => 0), aI cI z4 161 (fun _ => 0), aI cI z5 161 (fun _ => 0), aI cI z6 160 (fun _ => 0), aI cI z7 256 (fun _ => 0)]) rfl (fun H locs hp => ?_)
  refine lv_aload_n hx hb dX4_init_76 rfl (lv_at hl 0 rfl) ?_
  refine z_bipush hx hb dX4_init_77 (by decide +kernel) ?_
  refine z_newa hx hb 8 ac hp (by decide) (by decide) rfl (Nat.le_of_ble_eq_true rfl) (Nat.le_of_ble_eq_true rfl) dX4_init_79 (fun z8 H hp => ?_)
  have hp : Hp G cI A s H locs [(mq, .inr (4, [.int (iZ (0)), .int (iZ (0)), .ref z0, .int (iZ (0)), .int (iZ (0)), .int (iZ (0)), .int (iZ (0)), .int (iZ (0)), .ref z1, .ref z2, .ref z3, .ref z4, .ref z5, .ref z6, .ref z7, .null, .int (iZ (0)), .int (iZ (0)), .int (iZ (0)), .int (iZ (0)), .null])), aI cI z0 160 (fun _ => 0), aI cI z1 400 (fun _ => 0), aI cI z2 161 (fun _ => 0), aI cI z3 161 (fun _ => 0), aI cI z4 161 (fun _ => 0), aI cI z5 161 (fun _ => 0), aI cI z6 160 (fun _ => 0), aI cI z7 256 (fun _ => 0), aI cI z8 8 (fun _ => 0)] := hp
  refine z_putF hx hb hts hi4 tyX4 tyX4_ok nmX4 hown hp 0 rfl rfl 15 (by decide) f34 rfl hnm rfl (rfl) (rfl) (Nat.le_of_ble_eq_true rfl) dX4_init_81 (ws' := [(mq, .inr (4, [.int (iZ (0)), .int (iZ (0)), .ref z0, .int (iZ (0)), .int (iZ (0)), .int (iZ (0)), .int (iZ (0)), .int (iZ (0)), .ref z1, .ref z2, .ref z3, .ref z4, .ref z5, .ref z6, .ref z7, .ref z8, .int (iZ (0)), .int (iZ (0)), .int (iZ (0)), .int (iZ (0)), .null])), aI cI z0 160 (fun _ => 0), aI cI z1 400 (fun _ => 0), aI cI z2 161 (fun _ => 0), aI cI z3 161 (fun _ => 0), aI cI z4 161 (fun _ => 0), aI cI z5 161 (fun _ => 0), aI cI z6 160 (fun _ => 0), aI cI z7 256 (fun _ => 0), aI cI z8 8 (fun _ => 0)]) rfl (fun H locs hp => ?_)
  refine lv_aload_n hx hb dX4_init_84 rfl (lv_at hl 0 rfl) ?_
  refine z_iconst hx hb dX4_init_85 ?_
  refine z_put hx hb hts hi4 tyX4 tyX4_ok nmX4 hown hp 0 rfl rfl 17 (by decide) f37 rfl (rfl) (rfl) (Nat.le_of_ble_eq_true rfl) dX4_init_86 (ws' := [(mq, .inr (4, [.int (iZ (0)), .int (iZ (0)), .ref z0, .int (iZ (0)), .int (iZ (0)), .int (iZ (0)), .int (iZ (0)), .int (iZ (0)), .ref z1, .ref z2, .ref z3, .ref z4, .ref z5, .ref z6, .ref z7, .ref z8, .int (iZ (0)), .int (iZ (1)), .int (iZ (0)), .int (iZ (0)), .null])), aI cI z0 160 (fun _ => 0), aI cI z1 400 (fun _ => 0), aI cI z2 161 (fun _ => 0), aI cI z3 161 (fun _ => 0), aI cI z4 161 (fun _ => 0), aI cI z5 161 (fun _ => 0), aI cI z6 160 (fun _ => 0), aI cI z7 256 (fun _ => 0), aI cI z8 8 (fun _ => 0)]) rfl (fun H locs hp => ?_)
  refine lv_aload_n hx hb dX4_init_89 rfl (lv_at hl 0 rfl) ?_
  refine z_bipush hx hb dX4_init_90 (by decide +kernel) ?_
  refine z_newa hx hb 32 ac hp (by decide) (by decide) rfl (Nat.le_of_ble_eq_true rfl) (Nat.le_of_ble_eq_true rfl) dX4_init_92 (fun z9 H hp => ?_)
  have hp : Hp G cI A s H locs [(mq, .inr (4, [.int (iZ (0)), .int (iZ (0)), .ref z0, .int (iZ (0)), .int (iZ (0)), .int (iZ (0)), .int (iZ (0)), .int (iZ (0)), .ref z1, .ref z2, .ref z3, .ref z4, .ref z5, .ref z6, .ref z7, .ref z8, .int (iZ (0)), .int (iZ (1)), .int (iZ (0)), .int (iZ (0)), .null])), aI cI z0 160 (fun _ => 0), aI cI z1 400 (fun _ => 0), aI cI z2 161 (fun _ => 0), aI cI z3 161 (fun _ => 0), aI cI z4 161 (fun _ => 0), aI cI z5 161 (fun _ => 0), aI cI z6 160 (fun _ => 0), aI cI z7 256 (fun _ => 0), aI cI z8 8 (fun _ => 0), aI cI z9 32 (fun _ => 0)] := hp
  refine z_putF hx hb hts hi4 tyX4 tyX4_ok nmX4 hown hp 0 rfl rfl 20 (by decide) f41 rfl hnm rfl (rfl) (rfl) (Nat.le_of_ble_eq_true rfl) dX4_init_94 (ws' := [oR mq 0 0 z0 0 0 0 0 0 z1 z2 z3 z4 z5 z6 z7 z8 0 1 0 0 z9, aI cI z0 160 (fun _ => 0), aI cI z1 400 (fun _ => 0), aI cI z2 161 (fun _ => 0), aI cI z3 161 (fun _ => 0), aI cI z4 161 (fun _ => 0), aI cI z5 161 (fun _ => 0), aI cI z6 160 (fun _ => 0), aI cI z7 256 (fun _ => 0), aI cI z8 8 (fun _ => 0), aI cI z9 32 (fun _ => 0)]) rfl (fun H locs hp => ?_)
  exact hret _ _ _ _ _ _ (z0, z1, z2, z3, z4, z5, z6, z7, z8, z9) (trivial) hp dX4_init_97 (Nat.le_of_ble_eq_true rfl) (Nat.le_of_ble_eq_true rfl)
abbrev rmX4_thrown : Room := { frames := 0, cells := 0, slots := 0, locals := 0 }
set_option maxRecDepth 100000 in
set_option maxHeartbeats 4000000 in
theorem c_X4_thrown (l : Launch) (G : va_G) (cI : ClassId) (sz : Nat) (mq mp m1 m2 m3 m4 m5 m6 m7 m8 m9 : Nat) (n org : Nat) (th ent kn gp ln pl st sp po : Int)  : Met l yX4_thrown wsX4_thrown rmX4_thrown (zPre G cI [oR mq th (↑n) mp (↑org) ent kn gp ln m1 m2 m3 m4 m5 m6 m7 m8 pl st sp po m9] sz [.ref mq]) (va_Qi (fun (r : Int32) (u : Unit) => r = iZ th) (fun (u : Unit) t => zB G cI (va_A [oR mq th (↑n) mp (↑org) ent kn gp ln m1 m2 m3 m4 m5 m6 m7 m8 pl st sp po m9] sz) [oR mq th (↑n) mp (↑org) ent kn gp ln m1 m2 m3 m4 m5 m6 m7 m8 pl st sp po m9] t) (va_A [oR mq th (↑n) mp (↑org) ent kn gp ln m1 m2 m3 m4 m5 m6 m7 m8 pl st sp po m9] sz)) 0 0 (va_A [oR mq th (↑n) mp (↑org) ent kn gp ln m1 m2 m3 m4 m5 m6 m7 m8 pl st sp po m9] sz) := by
  refine zm_i (W1 := fun (u : Unit) => [oR mq th (↑n) mp (↑org) ent kn gp ln m1 m2 m3 m4 m5 m6 m7 m8 pl st sp po m9]) (cc := cX4_thrown) (maxL := 1) (ty := .int) (by decide) rfl (Nat.le_of_ble_eq_true rfl) ?_
  intro p e s m args below meth c A Q ls hsz hx hb hml hown hts hret hp hl
  have hl : lv_has ls 1 [(0, .ref mq)] := hl
  have hi4 : ∀ w ∈ wsX40, w ∈ wsX4_thrown := fun w h => List.mem_cons_of_mem _ (List.mem_append_right _ (h))
  have f44 := hts (.fieldLink RX4 44 "SelfOpenerModel" "thrown" "I") (List.mem_of_getElem? (i := 1) rfl)
  suffices hw : ∀ (H : Heap) (locs : List Loc), Hp G cI A s H locs [oR mq th (↑n) mp (↑org) ent kn gp ln m1 m2 m3 m4 m5 m6 m7 m8 pl st sp po m9] → W p l e rmX4_thrown s m args below meth c H locs 0 0 Q (F0 m 0 ls []) from hw _ _ hp
  clear hp; intro H locs hp
  refine lv_aload_n hx hb dX4_thrown_0 rfl (lv_at hl 0 rfl) ?_
  refine z_get hx hb hts hi4 hown hp 0 rfl rfl 0 (by decide) f44 rfl dX4_thrown_1 ?_
  exact hret _ _ _ _ _ _ _ () (rfl) hp dX4_thrown_4 (rfl) (Nat.le_of_ble_eq_true rfl) (Nat.le_of_ble_eq_true rfl)
abbrev rmX4_fail : Room := { frames := 0, cells := 0, slots := 0, locals := 0 }
set_option maxRecDepth 100000 in
set_option maxHeartbeats 4000000 in
theorem c_X4_fail (l : Launch) (G : va_G) (cI : ClassId) (sz : Nat) (mq mp m1 m2 m3 m4 m5 m6 m7 m8 m9 : Nat) (n org : Nat) (th ent kn gp ln pl st sp po : Int) (cd : Int)  : Met l yX4_fail wsX4_fail rmX4_fail (zPre G cI [oR mq th (↑n) mp (↑org) ent kn gp ln m1 m2 m3 m4 m5 m6 m7 m8 pl st sp po m9] sz [.ref mq, .int (iZ (cd))]) (va_Qi (fun (r : Int32) (u : Unit) => r = iZ 0) (fun (u : Unit) t => zB G cI (va_A [oR mq th (↑n) mp (↑org) ent kn gp ln m1 m2 m3 m4 m5 m6 m7 m8 pl st sp po m9] sz) [oR mq cd (↑n) mp (↑org) ent kn gp ln m1 m2 m3 m4 m5 m6 m7 m8 pl st sp po m9] t) (va_A [oR mq th (↑n) mp (↑org) ent kn gp ln m1 m2 m3 m4 m5 m6 m7 m8 pl st sp po m9] sz)) 0 0 (va_A [oR mq th (↑n) mp (↑org) ent kn gp ln m1 m2 m3 m4 m5 m6 m7 m8 pl st sp po m9] sz) := by
  refine zm_i (W1 := fun (u : Unit) => [oR mq cd (↑n) mp (↑org) ent kn gp ln m1 m2 m3 m4 m5 m6 m7 m8 pl st sp po m9]) (cc := cX4_fail) (maxL := 2) (ty := .int) (by decide) rfl (Nat.le_of_ble_eq_true rfl) ?_
  intro p e s m args below meth c A Q ls hsz hx hb hml hown hts hret hp hl
  have hl : lv_has ls 2 [(0, .ref mq), (1, .int (iZ (cd)))] := hl
  have hi4 : ∀ w ∈ wsX40, w ∈ wsX4_fail := fun w h => List.mem_cons_of_mem _ (List.mem_append_right _ (h))
  have f44 := hts (.fieldLink RX4 44 "SelfOpenerModel" "thrown" "I") (List.mem_of_getElem? (i := 1) rfl)
  suffices hw : ∀ (H : Heap) (locs : List Loc), Hp G cI A s H locs [oR mq th (↑n) mp (↑org) ent kn gp ln m1 m2 m3 m4 m5 m6 m7 m8 pl st sp po m9] → W p l e rmX4_fail s m args below meth c H locs 0 0 Q (F0 m 0 ls []) from hw _ _ hp
  clear hp; intro H locs hp
  refine lv_aload_n hx hb dX4_fail_0 rfl (lv_at hl 0 rfl) ?_
  refine lv_iload_n hx hb dX4_fail_1 rfl (lv_at hl 1 rfl) ?_
  refine z_put hx hb hts hi4 tyX4 tyX4_ok nmX4 hown hp 0 rfl rfl 0 (by decide) f44 rfl (rfl) (rfl) (Nat.le_of_ble_eq_true rfl) dX4_fail_2 (ws' := [oR mq cd (↑n) mp (↑org) ent kn gp ln m1 m2 m3 m4 m5 m6 m7 m8 pl st sp po m9]) rfl (fun H locs hp => ?_)
  refine z_iconst hx hb dX4_fail_5 ?_
  exact hret _ _ _ _ _ _ _ () (rfl) hp dX4_fail_6 (rfl) (Nat.le_of_ble_eq_true rfl) (Nat.le_of_ble_eq_true rfl)
abbrev rmX4_put : Room := { frames := 0, cells := 0, slots := 0, locals := 0 }
set_option maxRecDepth 100000 in
set_option maxHeartbeats 4000000 in
theorem c_X4_put (l : Launch) (G : va_G) (cI : ClassId) (sz : Nat) (mq mp m1 m2 m3 m4 m5 m6 m7 m8 m9 : Nat) (n org : Nat) (th ent kn gp ln pl st sp po : Int) (pb : Nat → Int) (w : Int64) (k : Int) (h_n : n ≤ 160) (h_k : rg k) : Met l yX4_put wsX4_put rmX4_put (zPre G cI [oR mq th (↑n) mp (↑org) ent kn gp ln m1 m2 m3 m4 m5 m6 m7 m8 pl st sp po m9, aI cI mp 160 pb] sz [.ref mq, .long (w), .int (iZ (k))]) (va_Qi (fun (r : Int32) (u : Nat × Int) => r = iZ (if 1 ≤ k ∧ k ≤ 8 ∧ ↑n + k ≤ 160 then 1 else 0) ∧ u.1 = (if 1 ≤ k ∧ k ≤ 8 ∧ ↑n + k ≤ 160 then k.toNat else 0) ∧ u.2 = if 1 ≤ k ∧ k ≤ 8 ∧ ↑n + k ≤ 160 then 0 else kn) (fun (u : Nat × Int) t => zB G cI (va_A [oR mq th (↑n) mp (↑org) ent kn gp ln m1 m2 m3 m4 m5 m6 m7 m8 pl st sp po m9, aI cI mp 160 pb] sz) [oR mq 0 (↑(n + u.1)) mp (↑org) ent u.2 gp ln m1 m2 m3 m4 m5 m6 m7 m8 pl st sp po m9, aI cI mp 160 (cpZ (byteZ w) pb 0 n u.1)] t) (va_A [oR mq th (↑n) mp (↑org) ent kn gp ln m1 m2 m3 m4 m5 m6 m7 m8 pl st sp po m9, aI cI mp 160 pb] sz)) 0 0 (va_A [oR mq th (↑n) mp (↑org) ent kn gp ln m1 m2 m3 m4 m5 m6 m7 m8 pl st sp po m9, aI cI mp 160 pb] sz) := by
  refine zm_i (W1 := fun (u : Nat × Int) => [oR mq 0 (↑(n + u.1)) mp (↑org) ent u.2 gp ln m1 m2 m3 m4 m5 m6 m7 m8 pl st sp po m9, aI cI mp 160 (cpZ (byteZ w) pb 0 n u.1)]) (cc := cX4_put) (maxL := 5) (ty := .boolean) (by decide) rfl (Nat.le_of_ble_eq_true rfl) ?_
  intro p e s m args below meth c A Q ls hsz hx hb hml hown hts hret hp hl
  have hl : lv_has ls 5 [(0, .ref mq), (1, .long (w)), (3, .int (iZ (k)))] := hl
  have hi4 : ∀ w ∈ wsX40, w ∈ wsX4_put := fun w h => List.mem_cons_of_mem _ (List.mem_append_right _ (h))
  have f44 := hts (.fieldLink RX4 44 "SelfOpenerModel" "thrown" "I") (List.mem_of_getElem? (i := 1) rfl)
  have f47 := hts (.fieldLink RX4 47 "SelfOpenerModel" "size" "I") (List.mem_of_getElem? (i := 2) rfl)
  have f52 := hts (.fieldLink RX4 52 "SelfOpenerModel" "known" "Z") (List.mem_of_getElem? (i := 5) rfl)
  have f7 := hts (.fieldLink RX4 7 "SelfOpenerModel" "program" "[I") (List.mem_of_getElem? (i := 3) rfl)
  have k50 := hts (.constantLong RX4 50 255) (List.mem_of_getElem? (i := 4) rfl)
  suffices hw : ∀ (H : Heap) (locs : List Loc), Hp G cI A s H locs [oR mq th (↑n) mp (↑org) ent kn gp ln m1 m2 m3 m4 m5 m6 m7 m8 pl st sp po m9, aI cI mp 160 pb] → W p l e rmX4_put s m args below meth c H locs 0 0 Q (F0 m 0 ls []) from hw _ _ hp
  clear hp; intro H locs hp
  refine lv_aload_n hx hb dX4_put_0 rfl (lv_at hl 0 rfl) ?_
  refine z_iconst hx hb dX4_put_1 ?_
  refine z_put hx hb hts hi4 tyX4 tyX4_ok nmX4 hown hp 0 rfl rfl 0 (by decide) f44 rfl (rfl) (rfl) (Nat.le_of_ble_eq_true rfl) dX4_put_2 (ws' := [oR mq 0 (↑n) mp (↑org) ent kn gp ln m1 m2 m3 m4 m5 m6 m7 m8 pl st sp po m9, aI cI mp 160 pb]) rfl (fun H locs hp => ?_)
  refine lv_iload_n hx hb dX4_put_5 rfl (lv_at hl 2 rfl) ?_
  refine z_iconst hx hb dX4_put_6 ?_
  refine z_icmp_lt (tgt := 28) hx hb dX4_put_7 (by decide) (by omega) (fun h1 => ?_) (fun h1 => ?_)
  · skip
    have hp := z_alike hp 1 rfl (cpZ (byteZ w) pb 0 n 0) (fun j _ => by unfold cpZ; rw [if_neg (by omega)]) (ws' := [oR mq 0 (↑n) mp (↑org) ent kn gp ln m1 m2 m3 m4 m5 m6 m7 m8 pl st sp po m9, aI cI mp 160 (cpZ (byteZ w) pb 0 n 0)]) rfl
    have hp : Hp G cI A s H locs [oR mq 0 (↑(n + 0)) mp (↑org) ent kn gp ln m1 m2 m3 m4 m5 m6 m7 m8 pl st sp po m9, aI cI mp 160 (cpZ (byteZ w) pb 0 n 0)] := by
      have e9 : (↑(n + 0) : Int) = ↑n := rfl
      rw [e9]; exact hp
    refine z_iconst hx hb dX4_put_28 ?_
    exact hret _ _ _ _ _ _ _ (0, kn) (⟨congrArg iZ (by rw [if_neg (by omega)]), by rw [if_neg (by omega)], by rw [if_neg (by omega)]⟩) hp dX4_put_29 (by decide +kernel) (Nat.le_of_ble_eq_true rfl) (Nat.le_of_ble_eq_true rfl)
  · skip
    refine lv_iload_n hx hb dX4_put_10 rfl (lv_at hl 2 rfl) ?_
    refine z_bipush hx hb dX4_put_11 (by decide +kernel) ?_
    refine z_icmp_gt (tgt := 28) hx hb dX4_put_13 (by decide) (by omega) (fun h2 => ?_) (fun h2 => ?_)
    · skip
      have hp := z_alike hp 1 rfl (cpZ (byteZ w) pb 0 n 0) (fun j _ => by unfold cpZ; rw [if_neg (by omega)]) (ws' := [oR mq 0 (↑n) mp (↑org) ent kn gp ln m1 m2 m3 m4 m5 m6 m7 m8 pl st sp po m9, aI cI mp 160 (cpZ (byteZ w) pb 0 n 0)]) rfl
      have hp : Hp G cI A s H locs [oR mq 0 (↑(n + 0)) mp (↑org) ent kn gp ln m1 m2 m3 m4 m5 m6 m7 m8 pl st sp po m9, aI cI mp 160 (cpZ (byteZ w) pb 0 n 0)] := by
        have e9 : (↑(n + 0) : Int) = ↑n := rfl
        rw [e9]; exact hp
      refine z_iconst hx hb dX4_put_28 ?_
      exact hret _ _ _ _ _ _ _ (0, kn) (⟨congrArg iZ (by rw [if_neg (by omega)]), by rw [if_neg (by omega)], by rw [if_neg (by omega)]⟩) hp dX4_put_29 (by decide +kernel) (Nat.le_of_ble_eq_true rfl) (Nat.le_of_ble_eq_true rfl)
    · skip
      refine lv_aload_n hx hb dX4_put_16 rfl (lv_at hl 0 rfl) ?_
      refine z_get hx hb hts hi4 hown hp 0 rfl rfl 1 (by decide) f47 rfl dX4_put_17 ?_
      refine lv_iload_n hx hb dX4_put_20 rfl (lv_at hl 2 rfl) ?_
      refine z_iadd hx hb ((↑n) + k) (rfl) dX4_put_21 ?_
      refine z_sipush hx hb dX4_put_22 (by decide +kernel) ?_
      refine z_icmp_le (tgt := 30) hx hb dX4_put_25 (by decide) (by omega) (fun h3 => ?_) (fun h3 => ?_)
      · skip
        refine z_iconst hx hb dX4_put_30 ?_
        refine lv_istore (lv' := [(4, .int (iZ (0))), (0, .ref mq), (1, .long (w)), (3, .int (iZ (k)))]) hx hb dX4_put_31 hl (by decide) rfl (fun ls hl => ?_)
        have hp := z_alike hp 1 rfl (cpZ (byteZ w) pb 0 n 0) (fun j _ => by unfold cpZ; rw [if_neg (by omega)]) (ws' := [oR mq 0 (↑n) mp (↑org) ent kn gp ln m1 m2 m3 m4 m5 m6 m7 m8 pl st sp po m9, aI cI mp 160 (cpZ (byteZ w) pb 0 n 0)]) rfl
        have hp : Hp G cI A s H locs [oR mq 0 (↑(n + 0)) mp (↑org) ent kn gp ln m1 m2 m3 m4 m5 m6 m7 m8 pl st sp po m9, aI cI mp 160 (cpZ (byteZ w) pb 0 n 0)] := by
          have e9 : (↑(n + 0) : Int) = ↑n := rfl
          rw [e9]; exact hp
        have lp4 : ∀ (N_lp4 : Nat) (i : Nat) (H : Heap) (locs : List Loc) (ls : Array Slot), (i ≤ k.toNat) → (k.toNat - i) < N_lp4 → Hp G cI A s H locs [oR mq 0 (↑(n + i)) mp (↑org) ent kn gp ln m1 m2 m3 m4 m5 m6 m7 m8 pl st sp po m9, aI cI mp 160 (cpZ (byteZ w) pb 0 n i)] → lv_has ls 5 [(4, .int (iZ (↑i))), (0, .ref mq), (1, .long (w)), (3, .int (iZ (k)))] → W p l e rmX4_put s m args below meth c H locs 0 0 Q (F0 m 33 ls []) := by
          intro N_lp4
          induction N_lp4 with
          | zero => intros; exfalso; omega
          | succ N_lp4 ih_lp4 =>
            intro i H locs ls hi hN hp hl
            refine lv_iload hx hb dX4_put_33 (lv_at hl 0 rfl) ?_
            refine lv_iload_n hx hb dX4_put_35 rfl (lv_at hl 3 rfl) ?_
            refine z_icmp_ge (tgt := 76) hx hb dX4_put_36 (by decide) (by omega) (fun h5 => ?_) (fun h5 => ?_)
            · skip
              obtain ⟨kk, rfl⟩ : ∃ kk : Nat, k = (kk : Int) := ⟨k.toNat, by omega⟩
              obtain rfl : i = kk := by omega
              skip
              refine lv_aload_n hx hb dX4_put_76 rfl (lv_at hl 1 rfl) ?_
              refine z_iconst hx hb dX4_put_77 ?_
              refine z_put hx hb hts hi4 tyX4 tyX4_ok nmX4 hown hp 0 rfl rfl 5 (by decide) f52 rfl (by decide +kernel) (by decide +kernel) (Nat.le_of_ble_eq_true rfl) dX4_put_78 (ws' := [oR mq 0 (↑(n + i)) mp (↑org) ent 0 gp ln m1 m2 m3 m4 m5 m6 m7 m8 pl st sp po m9, aI cI mp 160 (cpZ (byteZ w) pb 0 n i)]) rfl (fun H locs hp => ?_)
              refine z_iconst hx hb dX4_put_81 ?_
              exact hret _ _ _ _ _ _ _ (i, 0) (⟨congrArg iZ (by rw [if_pos (by omega)]), by rw [if_pos (by omega)]; omega, by rw [if_pos (by omega)]⟩) hp dX4_put_82 (by decide +kernel) (Nat.le_of_ble_eq_true rfl) (Nat.le_of_ble_eq_true rfl)
            · skip
              refine lv_aload_n hx hb dX4_put_39 rfl (lv_at hl 1 rfl) ?_
              refine z_get hx hb hts hi4 hown hp 0 rfl rfl 2 (by decide) f7 rfl dX4_put_40 ?_
              refine lv_aload_n hx hb dX4_put_43 rfl (lv_at hl 1 rfl) ?_
              refine z_get hx hb hts hi4 hown hp 0 rfl rfl 1 (by decide) f47 rfl dX4_put_44 ?_
              refine lv_lload_n hx hb dX4_put_47 rfl (lv_at hl 2 rfl) ?_
              refine z_bipush hx hb dX4_put_48 (by decide +kernel) ?_
              refine lv_iload hx hb dX4_put_50 (lv_at hl 0 rfl) ?_
              refine z_imul hx hb (8 * (↑i)) (rfl) dX4_put_52 ?_
              refine lv_lshr (v := w >>> ((iZ (8 * (↑i))).toInt64 &&& 63)) hx hb dX4_put_53 (rfl) ?_
              refine lv_ldc2 hx hb hown k50 dX4_put_54 ?_
              refine lv_land hx hb dX4_put_57 ?_
              refine lv_l2i (v := iZ (byteZ w i)) hx hb dX4_put_58 (byteZ_m w i (by omega) _ (sh8 i (by omega))) ?_
              refine z_iast hx hb hp 1 rfl (n + i) (by omega) dX4_put_59 (ws' := [oR mq 0 (↑(n + i)) mp (↑org) ent kn gp ln m1 m2 m3 m4 m5 m6 m7 m8 pl st sp po m9, aI cI mp 160 (upZ (cpZ (byteZ w) pb 0 n i) (n + i) (byteZ w i))]) rfl (fun H locs hp => ?_)
              refine lv_aload_n hx hb dX4_put_60 rfl (lv_at hl 1 rfl) ?_
              refine lv_dup hx hb dX4_put_61 rfl ?_
              refine z_get hx hb hts hi4 hown hp 0 rfl rfl 1 (by decide) f47 rfl dX4_put_62 ?_
              refine z_iconst hx hb dX4_put_65 ?_
              refine z_iadd hx hb (↑(n + (i + 1))) (by omega) dX4_put_66 ?_
              refine z_put hx hb hts hi4 tyX4 tyX4_ok nmX4 hown hp 0 rfl rfl 1 (by decide) f47 rfl (rfl) (rfl) (Nat.le_of_ble_eq_true rfl) dX4_put_67 (ws' := [oR mq 0 (↑(n + (i + 1))) mp (↑org) ent kn gp ln m1 m2 m3 m4 m5 m6 m7 m8 pl st sp po m9, aI cI mp 160 (upZ (cpZ (byteZ w) pb 0 n i) (n + i) (byteZ w i))]) rfl (fun H locs hp => ?_)
              refine z_iinc (k := 0) (lv' := [(4, .int (iZ (↑(i + 1)))), (0, .ref mq), (1, .long (w)), (3, .int (iZ (k)))]) hx hb (↑(i + 1)) (by omega) dX4_put_70 hl rfl (by decide) rfl (fun ls hl => ?_)
              have hp := z_alike hp 1 rfl (cpZ (byteZ w) pb 0 n (i + 1)) (fun j _ => by rw [cpZ_up, Nat.zero_add]) (ws' := [oR mq 0 (↑(n + (i + 1))) mp (↑org) ent kn gp ln m1 m2 m3 m4 m5 m6 m7 m8 pl st sp po m9, aI cI mp 160 (cpZ (byteZ w) pb 0 n (i + 1))]) rfl
              refine lv_goto (tgt := 33) hx hb dX4_put_73 (by decide) ?_
              exact ih_lp4 (i + 1) _ _ _ (by omega) (by omega) hp (lv_sub hl [0, 1, 2, 3] rfl)
        exact lp4 _ 0 _ _ _ (by omega) (Nat.lt_succ_self _) hp (lv_sub hl [0, 1, 2, 3] rfl)
      · skip
        have hp := z_alike hp 1 rfl (cpZ (byteZ w) pb 0 n 0) (fun j _ => by unfold cpZ; rw [if_neg (by omega)]) (ws' := [oR mq 0 (↑n) mp (↑org) ent kn gp ln m1 m2 m3 m4 m5 m6 m7 m8 pl st sp po m9, aI cI mp 160 (cpZ (byteZ w) pb 0 n 0)]) rfl
        have hp : Hp G cI A s H locs [oR mq 0 (↑(n + 0)) mp (↑org) ent kn gp ln m1 m2 m3 m4 m5 m6 m7 m8 pl st sp po m9, aI cI mp 160 (cpZ (byteZ w) pb 0 n 0)] := by
          have e9 : (↑(n + 0) : Int) = ↑n := rfl
          rw [e9]; exact hp
        refine z_iconst hx hb dX4_put_28 ?_
        exact hret _ _ _ _ _ _ _ (0, kn) (⟨congrArg iZ (by rw [if_neg (by omega)]), by rw [if_neg (by omega)], by rw [if_neg (by omega)]⟩) hp dX4_put_29 (by decide +kernel) (Nat.le_of_ble_eq_true rfl) (Nat.le_of_ble_eq_true rfl)
abbrev rmX4_again : Room := { frames := 0, cells := 0, slots := 0, locals := 0 }
set_option maxRecDepth 100000 in
set_option maxHeartbeats 4000000 in
theorem c_X4_again (l : Launch) (G : va_G) (cI : ClassId) (sz : Nat) (mq mp m1 m2 m3 m4 m5 m6 m7 m8 m9 : Nat) (n org : Nat) (th ent kn gp ln pl st sp po : Int) (pb : Nat → Int) (d k : Int) (h_n : n ≤ 160) (h_d : rg d) (h_k : rg k) : Met l yX4_again wsX4_again rmX4_again (zPre G cI [oR mq th (↑n) mp (↑org) ent kn gp ln m1 m2 m3 m4 m5 m6 m7 m8 pl st sp po m9, aI cI mp 160 pb] sz [.ref mq, .int (iZ (d)), .int (iZ (k))]) (va_Qi (fun (r : Int32) (u : Nat × Int) => r = iZ (if 1 ≤ d ∧ d ≤ ↑n ∧ 0 ≤ k ∧ ↑n + k ≤ 160 then 1 else 0) ∧ u.1 = (if 1 ≤ d ∧ d ≤ ↑n ∧ 0 ≤ k ∧ ↑n + k ≤ 160 then k.toNat else 0) ∧ u.2 = if 1 ≤ d ∧ d ≤ ↑n ∧ 0 ≤ k ∧ ↑n + k ≤ 160 then 0 else kn) (fun (u : Nat × Int) t => zB G cI (va_A [oR mq th (↑n) mp (↑org) ent kn gp ln m1 m2 m3 m4 m5 m6 m7 m8 pl st sp po m9, aI cI mp 160 pb] sz) [oR mq 0 (↑(n + u.1)) mp (↑org) ent u.2 gp ln m1 m2 m3 m4 m5 m6 m7 m8 pl st sp po m9, aI cI mp 160 (cpy1 pb n d.toNat u.1)] t) (va_A [oR mq th (↑n) mp (↑org) ent kn gp ln m1 m2 m3 m4 m5 m6 m7 m8 pl st sp po m9, aI cI mp 160 pb] sz)) 0 0 (va_A [oR mq th (↑n) mp (↑org) ent kn gp ln m1 m2 m3 m4 m5 m6 m7 m8 pl st sp po m9, aI cI mp 160 pb] sz) := by
  refine zm_i (W1 := fun (u : Nat × Int) => [oR mq 0 (↑(n + u.1)) mp (↑org) ent u.2 gp ln m1 m2 m3 m4 m5 m6 m7 m8 pl st sp po m9, aI cI mp 160 (cpy1 pb n d.toNat u.1)]) (cc := cX4_again) (maxL := 4) (ty := .boolean) (by decide) rfl (Nat.le_of_ble_eq_true rfl) ?_
  intro p e s m args below meth c A Q ls hsz hx hb hml hown hts hret hp hl
  have hl : lv_has ls 4 [(0, .ref mq), (1, .int (iZ (d))), (2, .int (iZ (k)))] := hl
  have hi4 : ∀ w ∈ wsX40, w ∈ wsX4_again := fun w h => List.mem_cons_of_mem _ (List.mem_append_right _ (h))
  have f44 := hts (.fieldLink RX4 44 "SelfOpenerModel" "thrown" "I") (List.mem_of_getElem? (i := 1) rfl)
  have f47 := hts (.fieldLink RX4 47 "SelfOpenerModel" "size" "I") (List.mem_of_getElem? (i := 2) rfl)
  have f52 := hts (.fieldLink RX4 52 "SelfOpenerModel" "known" "Z") (List.mem_of_getElem? (i := 4) rfl)
  have f7 := hts (.fieldLink RX4 7 "SelfOpenerModel" "program" "[I") (List.mem_of_getElem? (i := 3) rfl)
  suffices hw : ∀ (H : Heap) (locs : List Loc), Hp G cI A s H locs [oR mq th (↑n) mp (↑org) ent kn gp ln m1 m2 m3 m4 m5 m6 m7 m8 pl st sp po m9, aI cI mp 160 pb] → W p l e rmX4_again s m args below meth c H locs 0 0 Q (F0 m 0 ls []) from hw _ _ hp
  clear hp; intro H locs hp
  refine lv_aload_n hx hb dX4_again_0 rfl (lv_at hl 0 rfl) ?_
  refine z_iconst hx hb dX4_again_1 ?_
  refine z_put hx hb hts hi4 tyX4 tyX4_ok nmX4 hown hp 0 rfl rfl 0 (by decide) f44 rfl (rfl) (rfl) (Nat.le_of_ble_eq_true rfl) dX4_again_2 (ws' := [oR mq 0 (↑n) mp (↑org) ent kn gp ln m1 m2 m3 m4 m5 m6 m7 m8 pl st sp po m9, aI cI mp 160 pb]) rfl (fun H locs hp => ?_)
  refine lv_iload_n hx hb dX4_again_5 rfl (lv_at hl 1 rfl) ?_
  refine z_iconst hx hb dX4_again_6 ?_
  refine z_icmp_lt (tgt := 34) hx hb dX4_again_7 (by decide) (by omega) (fun h1 => ?_) (fun h1 => ?_)
  · skip
    have hp := z_alike hp 1 rfl (cpy1 pb n d.toNat 0) (fun j _ => rfl) (ws' := [oR mq 0 (↑n) mp (↑org) ent kn gp ln m1 m2 m3 m4 m5 m6 m7 m8 pl st sp po m9, aI cI mp 160 (cpy1 pb n d.toNat 0)]) rfl
    have hp : Hp G cI A s H locs [oR mq 0 (↑(n + 0)) mp (↑org) ent kn gp ln m1 m2 m3 m4 m5 m6 m7 m8 pl st sp po m9, aI cI mp 160 (cpy1 pb n d.toNat 0)] := by
      have e9 : (↑(n + 0) : Int) = ↑n := rfl
      rw [e9]; exact hp
    refine z_iconst hx hb dX4_again_34 ?_
    exact hret _ _ _ _ _ _ _ (0, kn) (⟨congrArg iZ (by rw [if_neg (by omega)]), by rw [if_neg (by omega)], by rw [if_neg (by omega)]⟩) hp dX4_again_35 (by decide +kernel) (Nat.le_of_ble_eq_true rfl) (Nat.le_of_ble_eq_true rfl)
  · skip
    refine lv_iload_n hx hb dX4_again_10 rfl (lv_at hl 1 rfl) ?_
    refine lv_aload_n hx hb dX4_again_11 rfl (lv_at hl 0 rfl) ?_
    refine z_get hx hb hts hi4 hown hp 0 rfl rfl 1 (by decide) f47 rfl dX4_again_12 ?_
    refine z_icmp_gt (tgt := 34) hx hb dX4_again_15 (by decide) (by omega) (fun h2 => ?_) (fun h2 => ?_)
    · skip
      have hp := z_alike hp 1 rfl (cpy1 pb n d.toNat 0) (fun j _ => rfl) (ws' := [oR mq 0 (↑n) mp (↑org) ent kn gp ln m1 m2 m3 m4 m5 m6 m7 m8 pl st sp po m9, aI cI mp 160 (cpy1 pb n d.toNat 0)]) rfl
      have hp : Hp G cI A s H locs [oR mq 0 (↑(n + 0)) mp (↑org) ent kn gp ln m1 m2 m3 m4 m5 m6 m7 m8 pl st sp po m9, aI cI mp 160 (cpy1 pb n d.toNat 0)] := by
        have e9 : (↑(n + 0) : Int) = ↑n := rfl
        rw [e9]; exact hp
      refine z_iconst hx hb dX4_again_34 ?_
      exact hret _ _ _ _ _ _ _ (0, kn) (⟨congrArg iZ (by rw [if_neg (by omega)]), by rw [if_neg (by omega)], by rw [if_neg (by omega)]⟩) hp dX4_again_35 (by decide +kernel) (Nat.le_of_ble_eq_true rfl) (Nat.le_of_ble_eq_true rfl)
    · skip
      refine lv_iload_n hx hb dX4_again_18 rfl (lv_at hl 2 rfl) ?_
      refine z_if_lt (tgt := 34) hx hb dX4_again_19 (by decide) (by omega) (fun h3 => ?_) (fun h3 => ?_)
      · skip
        have hp := z_alike hp 1 rfl (cpy1 pb n d.toNat 0) (fun j _ => rfl) (ws' := [oR mq 0 (↑n) mp (↑org) ent kn gp ln m1 m2 m3 m4 m5 m6 m7 m8 pl st sp po m9, aI cI mp 160 (cpy1 pb n d.toNat 0)]) rfl
        have hp : Hp G cI A s H locs [oR mq 0 (↑(n + 0)) mp (↑org) ent kn gp ln m1 m2 m3 m4 m5 m6 m7 m8 pl st sp po m9, aI cI mp 160 (cpy1 pb n d.toNat 0)] := by
          have e9 : (↑(n + 0) : Int) = ↑n := rfl
          rw [e9]; exact hp
        refine z_iconst hx hb dX4_again_34 ?_
        exact hret _ _ _ _ _ _ _ (0, kn) (⟨congrArg iZ (by rw [if_neg (by omega)]), by rw [if_neg (by omega)], by rw [if_neg (by omega)]⟩) hp dX4_again_35 (by decide +kernel) (Nat.le_of_ble_eq_true rfl) (Nat.le_of_ble_eq_true rfl)
      · skip
        refine lv_iload_n hx hb dX4_again_22 rfl (lv_at hl 2 rfl) ?_
        refine z_sipush hx hb dX4_again_23 (by decide +kernel) ?_
        refine lv_aload_n hx hb dX4_again_26 rfl (lv_at hl 0 rfl) ?_
        refine z_get hx hb hts hi4 hown hp 0 rfl rfl 1 (by decide) f47 rfl dX4_again_27 ?_
        refine z_isub hx hb (160 - (↑n)) (rfl) dX4_again_30 ?_
        refine z_icmp_le (tgt := 36) hx hb dX4_again_31 (by decide) (by omega) (fun h4 => ?_) (fun h4 => ?_)
        · skip
          refine z_iconst hx hb dX4_again_36 ?_
          refine lv_istore_n (lv' := [(3, .int (iZ (0))), (0, .ref mq), (1, .int (iZ (d))), (2, .int (iZ (k)))]) hx hb dX4_again_37 rfl hl (by decide) rfl (fun ls hl => ?_)
          have hp := z_alike hp 1 rfl (cpy1 pb n d.toNat 0) (fun j _ => rfl) (ws' := [oR mq 0 (↑n) mp (↑org) ent kn gp ln m1 m2 m3 m4 m5 m6 m7 m8 pl st sp po m9, aI cI mp 160 (cpy1 pb n d.toNat 0)]) rfl
          have hp : Hp G cI A s H locs [oR mq 0 (↑(n + 0)) mp (↑org) ent kn gp ln m1 m2 m3 m4 m5 m6 m7 m8 pl st sp po m9, aI cI mp 160 (cpy1 pb n d.toNat 0)] := by
            have e9 : (↑(n + 0) : Int) = ↑n := rfl
            rw [e9]; exact hp
          have lp5 : ∀ (N_lp5 : Nat) (i : Nat) (H : Heap) (locs : List Loc) (ls : Array Slot), (i ≤ k.toNat) → (k.toNat - i) < N_lp5 → Hp G cI A s H locs [oR mq 0 (↑(n + i)) mp (↑org) ent kn gp ln m1 m2 m3 m4 m5 m6 m7 m8 pl st sp po m9, aI cI mp 160 (cpy1 pb n d.toNat i)] → lv_has ls 4 [(3, .int (iZ (↑i))), (0, .ref mq), (1, .int (iZ (d))), (2, .int (iZ (k)))] → W p l e rmX4_again s m args below meth c H locs 0 0 Q (F0 m 38 ls []) := by
            intro N_lp5
            induction N_lp5 with
            | zero => intros; exfalso; omega
            | succ N_lp5 ih_lp5 =>
              intro i H locs ls hi hN hp hl
              refine lv_iload_n hx hb dX4_again_38 rfl (lv_at hl 0 rfl) ?_
              refine lv_iload_n hx hb dX4_again_39 rfl (lv_at hl 3 rfl) ?_
              refine z_icmp_ge (tgt := 79) hx hb dX4_again_40 (by decide) (by omega) (fun h6 => ?_) (fun h6 => ?_)
              · skip
                obtain ⟨kk, rfl⟩ : ∃ kk : Nat, k = (kk : Int) := ⟨k.toNat, by omega⟩
                obtain rfl : i = kk := by omega
                skip
                refine lv_aload_n hx hb dX4_again_79 rfl (lv_at hl 1 rfl) ?_
                refine z_iconst hx hb dX4_again_80 ?_
                refine z_put hx hb hts hi4 tyX4 tyX4_ok nmX4 hown hp 0 rfl rfl 5 (by decide) f52 rfl (by decide +kernel) (by decide +kernel) (Nat.le_of_ble_eq_true rfl) dX4_again_81 (ws' := [oR mq 0 (↑(n + i)) mp (↑org) ent 0 gp ln m1 m2 m3 m4 m5 m6 m7 m8 pl st sp po m9, aI cI mp 160 (cpy1 pb n d.toNat i)]) rfl (fun H locs hp => ?_)
                refine z_iconst hx hb dX4_again_84 ?_
                exact hret _ _ _ _ _ _ _ (i, 0) (⟨congrArg iZ (by rw [if_pos (by omega)]), by rw [if_pos (by omega)]; omega, by rw [if_pos (by omega)]⟩) hp dX4_again_85 (by decide +kernel) (Nat.le_of_ble_eq_true rfl) (Nat.le_of_ble_eq_true rfl)
              · skip
                refine lv_aload_n hx hb dX4_again_43 rfl (lv_at hl 1 rfl) ?_
                refine z_get hx hb hts hi4 hown hp 0 rfl rfl 2 (by decide) f7 rfl dX4_again_44 ?_
                refine lv_aload_n hx hb dX4_again_47 rfl (lv_at hl 1 rfl) ?_
                refine z_get hx hb hts hi4 hown hp 0 rfl rfl 1 (by decide) f47 rfl dX4_again_48 ?_
                refine lv_aload_n hx hb dX4_again_51 rfl (lv_at hl 1 rfl) ?_
                refine z_get hx hb hts hi4 hown hp 0 rfl rfl 2 (by decide) f7 rfl dX4_again_52 ?_
                refine lv_aload_n hx hb dX4_again_55 rfl (lv_at hl 1 rfl) ?_
                refine z_get hx hb hts hi4 hown hp 0 rfl rfl 1 (by decide) f47 rfl dX4_again_56 ?_
                refine lv_iload_n hx hb dX4_again_59 rfl (lv_at hl 2 rfl) ?_
                refine z_isub hx hb ((↑(n + i)) - d) (rfl) dX4_again_60 ?_
                refine z_iald hx hb hp 1 rfl (n + i - d.toNat) (by omega) dX4_again_61 ((cpy1 pb n d.toNat i) (n + i - d.toNat)) (rfl) ?_
                refine z_iast hx hb hp 1 rfl (n + i) (by omega) dX4_again_62 (ws' := [oR mq 0 (↑(n + i)) mp (↑org) ent kn gp ln m1 m2 m3 m4 m5 m6 m7 m8 pl st sp po m9, aI cI mp 160 (upZ (cpy1 pb n d.toNat i) (n + i) ((cpy1 pb n d.toNat i) (n + i - d.toNat)))]) rfl (fun H locs hp => ?_)
                refine lv_aload_n hx hb dX4_again_63 rfl (lv_at hl 1 rfl) ?_
                refine lv_dup hx hb dX4_again_64 rfl ?_
                refine z_get hx hb hts hi4 hown hp 0 rfl rfl 1 (by decide) f47 rfl dX4_again_65 ?_
                refine z_iconst hx hb dX4_again_68 ?_
                refine z_iadd hx hb (↑(n + (i + 1))) (by omega) dX4_again_69 ?_
                refine z_put hx hb hts hi4 tyX4 tyX4_ok nmX4 hown hp 0 rfl rfl 1 (by decide) f47 rfl (rfl) (rfl) (Nat.le_of_ble_eq_true rfl) dX4_again_70 (ws' := [oR mq 0 (↑(n + (i + 1))) mp (↑org) ent kn gp ln m1 m2 m3 m4 m5 m6 m7 m8 pl st sp po m9, aI cI mp 160 (upZ (cpy1 pb n d.toNat i) (n + i) ((cpy1 pb n d.toNat i) (n + i - d.toNat)))]) rfl (fun H locs hp => ?_)
                refine z_iinc (k := 0) (lv' := [(3, .int (iZ (↑(i + 1)))), (0, .ref mq), (1, .int (iZ (d))), (2, .int (iZ (k)))]) hx hb (↑(i + 1)) (by omega) dX4_again_73 hl rfl (by decide) rfl (fun ls hl => ?_)
                have hp := z_alike hp 1 rfl (cpy1 pb n d.toNat (i + 1)) (fun j _ => rfl) (ws' := [oR mq 0 (↑(n + (i + 1))) mp (↑org) ent kn gp ln m1 m2 m3 m4 m5 m6 m7 m8 pl st sp po m9, aI cI mp 160 (cpy1 pb n d.toNat (i + 1))]) rfl
                refine lv_goto (tgt := 38) hx hb dX4_again_76 (by decide) ?_
                exact ih_lp5 (i + 1) _ _ _ (by omega) (by omega) hp (lv_sub hl [0, 1, 2, 3] rfl)
          exact lp5 _ 0 _ _ _ (by omega) (Nat.lt_succ_self _) hp (lv_sub hl [0, 1, 2, 3] rfl)
        · skip
          have hp := z_alike hp 1 rfl (cpy1 pb n d.toNat 0) (fun j _ => rfl) (ws' := [oR mq 0 (↑n) mp (↑org) ent kn gp ln m1 m2 m3 m4 m5 m6 m7 m8 pl st sp po m9, aI cI mp 160 (cpy1 pb n d.toNat 0)]) rfl
          have hp : Hp G cI A s H locs [oR mq 0 (↑(n + 0)) mp (↑org) ent kn gp ln m1 m2 m3 m4 m5 m6 m7 m8 pl st sp po m9, aI cI mp 160 (cpy1 pb n d.toNat 0)] := by
            have e9 : (↑(n + 0) : Int) = ↑n := rfl
            rw [e9]; exact hp
          refine z_iconst hx hb dX4_again_34 ?_
          exact hret _ _ _ _ _ _ _ (0, kn) (⟨congrArg iZ (by rw [if_neg (by omega)]), by rw [if_neg (by omega)], by rw [if_neg (by omega)]⟩) hp dX4_again_35 (by decide +kernel) (Nat.le_of_ble_eq_true rfl) (Nat.le_of_ble_eq_true rfl)
abbrev rmX4_isByte : Room := { frames := 0, cells := 0, slots := 0, locals := 0 }
set_option maxRecDepth 100000 in
set_option maxHeartbeats 4000000 in
theorem c_X4_isByte (l : Launch) (G : va_G) (cI : ClassId) (sz : Nat) (v : Int) (h_v : rg v) : Met l yX4_isByte wsX4_isByte rmX4_isByte (zPre G cI [] sz [.int (iZ (v))]) (va_Qi (fun (r : Int32) (u : Unit) => r = iZ (if 0 ≤ v ∧ v < 256 then 1 else 0)) (fun (u : Unit) t => zB G cI (va_A [] sz) [] t) (va_A [] sz)) 0 0 (va_A [] sz) := by
  refine zm_i (W1 := fun (u : Unit) => []) (cc := cX4_isByte) (maxL := 1) (ty := .boolean) (by decide) rfl (Nat.le_of_ble_eq_true rfl) ?_
  intro p e s m args below meth c A Q ls hsz hx hb hml hown hts hret hp hl
  have hl : lv_has ls 1 [(0, .int (iZ (v)))] := hl
  suffices hw : ∀ (H : Heap) (locs : List Loc), Hp G cI A s H locs [] → W p l e rmX4_isByte s m args below meth c H locs 0 0 Q (F0 m 0 ls []) from hw _ _ hp
  clear hp; intro H locs hp
  refine lv_iload_n hx hb dX4_isByte_0 rfl (lv_at hl 0 rfl) ?_
  refine z_if_lt (tgt := 15) hx hb dX4_isByte_1 (by decide) (by omega) (fun h1 => ?_) (fun h1 => ?_)
  · skip
    refine z_iconst hx hb dX4_isByte_15 ?_
    exact hret _ _ _ _ _ _ _ () (congrArg iZ (by (repeat' split) <;> omega)) hp dX4_isByte_16 (by decide +kernel) (Nat.le_of_ble_eq_true rfl) (Nat.le_of_ble_eq_true rfl)
  · skip
    refine lv_iload_n hx hb dX4_isByte_4 rfl (lv_at hl 0 rfl) ?_
    refine z_sipush hx hb dX4_isByte_5 (by decide +kernel) ?_
    refine z_icmp_ge (tgt := 15) hx hb dX4_isByte_8 (by decide) (by omega) (fun h2 => ?_) (fun h2 => ?_)
    · skip
      refine z_iconst hx hb dX4_isByte_15 ?_
      exact hret _ _ _ _ _ _ _ () (congrArg iZ (by (repeat' split) <;> omega)) hp dX4_isByte_16 (by decide +kernel) (Nat.le_of_ble_eq_true rfl) (Nat.le_of_ble_eq_true rfl)
    · skip
      refine z_iconst hx hb dX4_isByte_11 ?_
      refine lv_goto (tgt := 16) hx hb dX4_isByte_12 (by decide) ?_
      exact hret _ _ _ _ _ _ _ () (congrArg iZ (by (repeat' split) <;> omega)) hp dX4_isByte_16 (by decide +kernel) (Nat.le_of_ble_eq_true rfl) (Nat.le_of_ble_eq_true rfl)
abbrev rmX4_change : Room := { frames := 1, cells := 0, slots := 0, locals := 40 }
set_option maxRecDepth 100000 in
set_option maxHeartbeats 4000000 in
theorem c_X4_change (l : Launch) (G : va_G) (cI : ClassId) (sz : Nat) (mq mp m1 m2 m3 m4 m5 m6 m7 m8 m9 : Nat) (n org : Nat) (th ent kn gp ln pl st sp po : Int) (pb : Nat → Int) (i v : Int) (h_n : n ≤ 160) (h_i : rg i) (h_v : rg v) : Met l yX4_change wsX4_change rmX4_change (zPre G cI [oR mq th (↑n) mp (↑org) ent kn gp ln m1 m2 m3 m4 m5 m6 m7 m8 pl st sp po m9, aI cI mp 160 pb] sz [.ref mq, .int (iZ (i)), .int (iZ (v))]) (va_Qv (fun (u : Int × Int × (Nat → Int)) => u.1 = (if ¬ (0 ≤ i ∧ i < ↑n) then 1 else if ¬ (0 ≤ v ∧ v < 256) then 2 else 0) ∧ (u.1 = 0 → u.2.1 = 0 ∧ u.2.2 = upZ pb i.toNat v) ∧ (u.1 ≠ 0 → u.2.1 = kn ∧ u.2.2 = pb)) (fun (u : Int × Int × (Nat → Int)) t => zB G cI (va_A [oR mq th (↑n) mp (↑org) ent kn gp ln m1 m2 m3 m4 m5 m6 m7 m8 pl st sp po m9, aI cI mp 160 pb] sz) [oR mq u.1 (↑n) mp (↑org) ent u.2.1 gp ln m1 m2 m3 m4 m5 m6 m7 m8 pl st sp po m9, aI cI mp 160 u.2.2] t) (va_A [oR mq th (↑n) mp (↑org) ent kn gp ln m1 m2 m3 m4 m5 m6 m7 m8 pl st sp po m9, aI cI mp 160 pb] sz)) 0 0 (va_A [oR mq th (↑n) mp (↑org) ent kn gp ln m1 m2 m3 m4 m5 m6 m7 m8 pl st sp po m9, aI cI mp 160 pb] sz) := by
  refine zm_v (W1 := fun (u : Int × Int × (Nat → Int)) => [oR mq u.1 (↑n) mp (↑org) ent u.2.1 gp ln m1 m2 m3 m4 m5 m6 m7 m8 pl st sp po m9, aI cI mp 160 u.2.2]) (cc := cX4_change) (maxL := 3) (by decide) rfl (Nat.le_of_ble_eq_true rfl) ?_
  intro p e s m args below meth c A Q ls hsz hx hb hml hown hts hnm hret hp hl
  have hl : lv_has ls 3 [(0, .ref mq), (1, .int (iZ (i))), (2, .int (iZ (v)))] := hl
  have hi4 : ∀ w ∈ wsX40, w ∈ wsX4_change := fun w h => List.mem_cons_of_mem _ (List.mem_append_right _ (h))
  have f44 := hts (.fieldLink RX4 44 "SelfOpenerModel" "thrown" "I") (List.mem_of_getElem? (i := 2) rfl)
  have f7 := hts (.fieldLink RX4 7 "SelfOpenerModel" "program" "[I") (List.mem_of_getElem? (i := 3) rfl)
  have f52 := hts (.fieldLink RX4 52 "SelfOpenerModel" "known" "Z") (List.mem_of_getElem? (i := 4) rfl)
  have f47 := hts (.fieldLink RX4 47 "SelfOpenerModel" "size" "I") (List.mem_of_getElem? (i := 1) rfl)
  suffices hw : ∀ (H : Heap) (locs : List Loc), Hp G cI A s H locs [oR mq th (↑n) mp (↑org) ent kn gp ln m1 m2 m3 m4 m5 m6 m7 m8 pl st sp po m9, aI cI mp 160 pb] → W p l e rmX4_change s m args below meth c H locs 0 0 Q (F0 m 0 ls []) from hw _ _ hp
  clear hp; intro H locs hp
  refine lv_aload_n hx hb dX4_change_0 rfl (lv_at hl 0 rfl) ?_
  have jn1 : ∀ (t : Int) (H : Heap) (locs : List Loc) (ls : Array Slot), (t = if ¬ (0 ≤ i ∧ i < ↑n) then 1 else if ¬ (0 ≤ v ∧ v < 256) then 2 else 0) → Hp G cI A s H locs [oR mq th (↑n) mp (↑org) ent kn gp ln m1 m2 m3 m4 m5 m6 m7 m8 pl st sp po m9, aI cI mp 160 pb] → lv_has ls 3 [(0, .ref mq), (1, .int (iZ (i))), (2, .int (iZ (v)))] → W p l e rmX4_change s m args below meth c H locs 0 0 Q (F0 m 29 ls [.int (iZ (t)), .ref mq]) := by
    intro t H locs ls ht hp hl
    have htb : 0 ≤ t ∧ t ≤ 2 := by rw [ht]; (repeat' split) <;> omega
    refine z_put hx hb hts hi4 tyX4 tyX4_ok nmX4 hown hp 0 rfl rfl 0 (by decide) f44 rfl (rfl) (rfl) (Nat.le_of_ble_eq_true rfl) dX4_change_29 (ws' := [oR mq t (↑n) mp (↑org) ent kn gp ln m1 m2 m3 m4 m5 m6 m7 m8 pl st sp po m9, aI cI mp 160 pb]) rfl (fun H locs hp => ?_)
    refine lv_aload_n hx hb dX4_change_32 rfl (lv_at hl 0 rfl) ?_
    refine z_get hx hb hts hi4 hown hp 0 rfl rfl 0 (by decide) f44 rfl dX4_change_33 ?_
    refine z_if_ne (tgt := 51) hx hb dX4_change_36 (by decide) (by omega) (fun h3 => ?_) (fun h3 => ?_)
    · skip
      exact hret _ _ _ _ _ _ (t, kn, pb) (⟨ht, fun q => by dsimp only at q; omega, fun _ => ⟨rfl, rfl⟩⟩) hp dX4_change_51 (Nat.le_of_ble_eq_true rfl) (Nat.le_of_ble_eq_true rfl)
    · skip
      have hti : (0 ≤ i ∧ i < ↑n) ∧ 0 ≤ v ∧ v < 256 := by revert ht; (repeat' split) <;> omega
      refine lv_aload_n hx hb dX4_change_39 rfl (lv_at hl 0 rfl) ?_
      refine z_get hx hb hts hi4 hown hp 0 rfl rfl 2 (by decide) f7 rfl dX4_change_40 ?_
      refine lv_iload_n hx hb dX4_change_43 rfl (lv_at hl 1 rfl) ?_
      refine lv_iload_n hx hb dX4_change_44 rfl (lv_at hl 2 rfl) ?_
      refine z_iast hx hb hp 1 rfl (i.toNat) (by omega) dX4_change_45 (ws' := [oR mq t (↑n) mp (↑org) ent kn gp ln m1 m2 m3 m4 m5 m6 m7 m8 pl st sp po m9, aI cI mp 160 (upZ pb i.toNat v)]) rfl (fun H locs hp => ?_)
      refine lv_aload_n hx hb dX4_change_46 rfl (lv_at hl 0 rfl) ?_
      refine z_iconst hx hb dX4_change_47 ?_
      refine z_put hx hb hts hi4 tyX4 tyX4_ok nmX4 hown hp 0 rfl rfl 5 (by decide) f52 rfl (by decide +kernel) (by decide +kernel) (Nat.le_of_ble_eq_true rfl) dX4_change_48 (ws' := [oR mq t (↑n) mp (↑org) ent 0 gp ln m1 m2 m3 m4 m5 m6 m7 m8 pl st sp po m9, aI cI mp 160 (upZ pb i.toNat v)]) rfl (fun H locs hp => ?_)
      exact hret _ _ _ _ _ _ (t, 0, upZ pb i.toNat v) (⟨ht, fun _ => ⟨rfl, rfl⟩, fun q => by dsimp only at q; omega⟩) hp dX4_change_51 (Nat.le_of_ble_eq_true rfl) (Nat.le_of_ble_eq_true rfl)
  refine lv_iload_n hx hb dX4_change_1 rfl (lv_at hl 1 rfl) ?_
  refine z_if_lt (tgt := 13) hx hb dX4_change_2 (by decide) (by omega) (fun h4 => ?_) (fun h4 => ?_)
  · skip
    refine z_iconst hx hb dX4_change_13 ?_
    refine lv_goto (tgt := 29) hx hb dX4_change_14 (by decide) ?_
    exact jn1 1 _ _ _ (by (repeat' split) <;> omega) hp (lv_sub hl [0, 1, 2] rfl)
  · skip
    refine lv_iload_n hx hb dX4_change_5 rfl (lv_at hl 1 rfl) ?_
    refine lv_aload_n hx hb dX4_change_6 rfl (lv_at hl 0 rfl) ?_
    refine z_get hx hb hts hi4 hown hp 0 rfl rfl 1 (by decide) f47 rfl dX4_change_7 ?_
    refine z_icmp_lt (tgt := 17) hx hb dX4_change_10 (by decide) (by omega) (fun h5 => ?_) (fun h5 => ?_)
    · skip
      refine lv_iload_n hx hb dX4_change_17 rfl (lv_at hl 2 rfl) ?_
      refine zs_i (wr := [oR mq th (↑n) mp (↑org) ent kn gp ln m1 m2 m3 m4 m5 m6 m7 m8 pl st sp po m9, aI cI mp 160 pb]) (W0 := []) (wl2 := fun (u : Unit) => [oR mq th (↑n) mp (↑org) ent kn gp ln m1 m2 m3 m4 m5 m6 m7 m8 pl st sp po m9, aI cI mp 160 pb]) (As := [.int (iZ (v))]) (rest := [.ref mq]) hx hb hml hown hts hp (c_X4_isByte l G cI H.size v (by omega)) zPre_blind (z_pre hp [] rfl (by decide) [.int (iZ (v))]) (va_cwS 1 hts gX4_change_X4_isByte rfl rfl rfl (by decide +kernel) ⟨Nat.le_of_ble_eq_true rfl, Nat.le_of_ble_eq_true rfl⟩) [] [0, 1] [0, 1] rfl rfl ⟨by decide, by decide, by decide⟩ (fun _ => rfl) rfl hl.1 rfl (Nat.le_of_ble_eq_true rfl) dX4_change_18 ⟨Nat.le_of_ble_eq_true rfl, Nat.le_of_ble_eq_true rfl⟩ (fun rv u H locs hq6 hp => ?_)
      obtain rfl : rv = iZ (if 0 ≤ v ∧ v < 256 then 1 else 0) := hq6
      refine z_if_ne (tgt := 28) hx hb dX4_change_21 (by decide) (by omega) (fun h7 => ?_) (fun h7 => ?_)
      · skip
        refine z_iconst hx hb dX4_change_28 ?_
        exact jn1 0 _ _ _ (by (repeat' split) <;> omega) hp (lv_sub hl [0, 1, 2] rfl)
      · skip
        refine z_iconst hx hb dX4_change_24 ?_
        refine lv_goto (tgt := 29) hx hb dX4_change_25 (by decide) ?_
        exact jn1 2 _ _ _ (by (repeat' split) <;> omega) hp (lv_sub hl [0, 1, 2] rfl)
    · skip
      refine z_iconst hx hb dX4_change_13 ?_
      refine lv_goto (tgt := 29) hx hb dX4_change_14 (by decide) ?_
      exact jn1 1 _ _ _ (by (repeat' split) <;> omega) hp (lv_sub hl [0, 1, 2] rfl)
abbrev rmX4_cut : Room := { frames := 0, cells := 0, slots := 0, locals := 0 }
set_option maxRecDepth 100000 in
set_option maxHeartbeats 4000000 in
theorem c_X4_cut (l : Launch) (G : va_G) (cI : ClassId) (sz : Nat) (mq mp m1 m2 m3 m4 m5 m6 m7 m8 m9 : Nat) (n org : Nat) (th ent kn gp ln pl st sp po : Int) (k : Int) (h_n : n ≤ 160) (h_k : rg k) : Met l yX4_cut wsX4_cut rmX4_cut (zPre G cI [oR mq th (↑n) mp (↑org) ent kn gp ln m1 m2 m3 m4 m5 m6 m7 m8 pl st sp po m9] sz [.ref mq, .int (iZ (k))]) (va_Qv (fun (u : Int × Int × Nat) => u.1 = (if 0 ≤ k ∧ k ≤ ↑n then 0 else 1) ∧ (u.1 = 0 → u.2.1 = 0 ∧ u.2.2 = k.toNat) ∧ (u.1 ≠ 0 → u.2.1 = kn ∧ u.2.2 = n)) (fun (u : Int × Int × Nat) t => zB G cI (va_A [oR mq th (↑n) mp (↑org) ent kn gp ln m1 m2 m3 m4 m5 m6 m7 m8 pl st sp po m9] sz) [oR mq u.1 (↑u.2.2) mp (↑org) ent u.2.1 gp ln m1 m2 m3 m4 m5 m6 m7 m8 pl st sp po m9] t) (va_A [oR mq th (↑n) mp (↑org) ent kn gp ln m1 m2 m3 m4 m5 m6 m7 m8 pl st sp po m9] sz)) 0 0 (va_A [oR mq th (↑n) mp (↑org) ent kn gp ln m1 m2 m3 m4 m5 m6 m7 m8 pl st sp po m9] sz) := by
  refine zm_v (W1 := fun (u : Int × Int × Nat) => [oR mq u.1 (↑u.2.2) mp (↑org) ent u.2.1 gp ln m1 m2 m3 m4 m5 m6 m7 m8 pl st sp po m9]) (cc := cX4_cut) (maxL := 2) (by decide) rfl (Nat.le_of_ble_eq_true rfl) ?_
  intro p e s m args below meth c A Q ls hsz hx hb hml hown hts hnm hret hp hl
  have hl : lv_has ls 2 [(0, .ref mq), (1, .int (iZ (k)))] := hl
  have hi4 : ∀ w ∈ wsX40, w ∈ wsX4_cut := fun w h => List.mem_cons_of_mem _ (List.mem_append_right _ (h))
  have f44 := hts (.fieldLink RX4 44 "SelfOpenerModel" "thrown" "I") (List.mem_of_getElem? (i := 2) rfl)
  have f47 := hts (.fieldLink RX4 47 "SelfOpenerModel" "size" "I") (List.mem_of_getElem? (i := 1) rfl)
  have f52 := hts (.fieldLink RX4 52 "SelfOpenerModel" "known" "Z") (List.mem_of_getElem? (i := 3) rfl)
  suffices hw : ∀ (H : Heap) (locs : List Loc), Hp G cI A s H locs [oR mq th (↑n) mp (↑org) ent kn gp ln m1 m2 m3 m4 m5 m6 m7 m8 pl st sp po m9] → W p l e rmX4_cut s m args below meth c H locs 0 0 Q (F0 m 0 ls []) from hw _ _ hp
  clear hp; intro H locs hp
  refine lv_aload_n hx hb dX4_cut_0 rfl (lv_at hl 0 rfl) ?_
  have jn1 : ∀ (t : Int) (H : Heap) (locs : List Loc) (ls : Array Slot), (t = if 0 ≤ k ∧ k ≤ ↑n then 0 else 1) → Hp G cI A s H locs [oR mq th (↑n) mp (↑org) ent kn gp ln m1 m2 m3 m4 m5 m6 m7 m8 pl st sp po m9] → lv_has ls 2 [(0, .ref mq), (1, .int (iZ (k)))] → W p l e rmX4_cut s m args below meth c H locs 0 0 Q (F0 m 18 ls [.int (iZ (t)), .ref mq]) := by
    intro t H locs ls ht hp hl
    have htb : 0 ≤ t ∧ t ≤ 1 := by rw [ht]; (repeat' split) <;> omega
    refine z_put hx hb hts hi4 tyX4 tyX4_ok nmX4 hown hp 0 rfl rfl 0 (by decide) f44 rfl (rfl) (rfl) (Nat.le_of_ble_eq_true rfl) dX4_cut_18 (ws' := [oR mq t (↑n) mp (↑org) ent kn gp ln m1 m2 m3 m4 m5 m6 m7 m8 pl st sp po m9]) rfl (fun H locs hp => ?_)
    refine lv_aload_n hx hb dX4_cut_21 rfl (lv_at hl 0 rfl) ?_
    refine z_get hx hb hts hi4 hown hp 0 rfl rfl 0 (by decide) f44 rfl dX4_cut_22 ?_
    refine z_if_ne (tgt := 38) hx hb dX4_cut_25 (by decide) (by omega) (fun h3 => ?_) (fun h3 => ?_)
    · skip
      exact hret _ _ _ _ _ _ (t, kn, n) (⟨ht, fun q => by dsimp only at q; omega, fun _ => ⟨rfl, rfl⟩⟩) hp dX4_cut_38 (Nat.le_of_ble_eq_true rfl) (Nat.le_of_ble_eq_true rfl)
    · skip
      have hti : 0 ≤ k ∧ k ≤ ↑n := by revert ht; (repeat' split) <;> omega
      refine lv_aload_n hx hb dX4_cut_28 rfl (lv_at hl 0 rfl) ?_
      refine lv_iload_n hx hb dX4_cut_29 rfl (lv_at hl 1 rfl) ?_
      refine z_top (↑(k.toNat)) (by omega) ?_
      refine z_put hx hb hts hi4 tyX4 tyX4_ok nmX4 hown hp 0 rfl rfl 1 (by decide) f47 rfl (rfl) (rfl) (Nat.le_of_ble_eq_true rfl) dX4_cut_30 (ws' := [oR mq t (↑(k.toNat)) mp (↑org) ent kn gp ln m1 m2 m3 m4 m5 m6 m7 m8 pl st sp po m9]) rfl (fun H locs hp => ?_)
      refine lv_aload_n hx hb dX4_cut_33 rfl (lv_at hl 0 rfl) ?_
      refine z_iconst hx hb dX4_cut_34 ?_
      refine z_put hx hb hts hi4 tyX4 tyX4_ok nmX4 hown hp 0 rfl rfl 5 (by decide) f52 rfl (by decide +kernel) (by decide +kernel) (Nat.le_of_ble_eq_true rfl) dX4_cut_35 (ws' := [oR mq t (↑(k.toNat)) mp (↑org) ent 0 gp ln m1 m2 m3 m4 m5 m6 m7 m8 pl st sp po m9]) rfl (fun H locs hp => ?_)
      exact hret _ _ _ _ _ _ (t, 0, k.toNat) (⟨ht, fun _ => ⟨rfl, rfl⟩, fun q => by dsimp only at q; omega⟩) hp dX4_cut_38 (Nat.le_of_ble_eq_true rfl) (Nat.le_of_ble_eq_true rfl)
  refine lv_iload_n hx hb dX4_cut_1 rfl (lv_at hl 1 rfl) ?_
  refine z_if_lt (tgt := 13) hx hb dX4_cut_2 (by decide) (by omega) (fun h4 => ?_) (fun h4 => ?_)
  · skip
    refine z_iconst hx hb dX4_cut_13 ?_
    refine lv_goto (tgt := 18) hx hb dX4_cut_14 (by decide) ?_
    exact jn1 1 _ _ _ (by (repeat' split) <;> omega) hp (lv_sub hl [0, 1] rfl)
  · skip
    refine lv_iload_n hx hb dX4_cut_5 rfl (lv_at hl 1 rfl) ?_
    refine lv_aload_n hx hb dX4_cut_6 rfl (lv_at hl 0 rfl) ?_
    refine z_get hx hb hts hi4 hown hp 0 rfl rfl 1 (by decide) f47 rfl dX4_cut_7 ?_
    refine z_icmp_le (tgt := 17) hx hb dX4_cut_10 (by decide) (by omega) (fun h5 => ?_) (fun h5 => ?_)
    · skip
      refine z_iconst hx hb dX4_cut_17 ?_
      exact jn1 0 _ _ _ (by (repeat' split) <;> omega) hp (lv_sub hl [0, 1] rfl)
    · skip
      refine z_iconst hx hb dX4_cut_13 ?_
      refine lv_goto (tgt := 18) hx hb dX4_cut_14 (by decide) ?_
      exact jn1 1 _ _ _ (by (repeat' split) <;> omega) hp (lv_sub hl [0, 1] rfl)
abbrev rmX4_place : Room := { frames := 1, cells := 0, slots := 0, locals := 40 }
set_option maxRecDepth 100000 in
set_option maxHeartbeats 4000000 in
theorem c_X4_place (l : Launch) (G : va_G) (cI : ClassId) (sz : Nat) (mq mp m1 m2 m3 m4 m5 m6 m7 m8 m9 : Nat) (n org : Nat) (th ent kn gp ln pl st sp po : Int) (o e_ : Int) (h_o : rg o) (h_e : rg e_) : Met l yX4_place wsX4_place rmX4_place (zPre G cI [oR mq th (↑n) mp (↑org) ent kn gp ln m1 m2 m3 m4 m5 m6 m7 m8 pl st sp po m9] sz [.ref mq, .int (iZ (o)), .int (iZ (e_))]) (va_Qv (fun (u : Int × Nat × Int) => u.1 = (if (0 ≤ o ∧ o < 256) ∧ 0 ≤ e_ ∧ e_ < 256 then 0 else 1) ∧ (u.1 = 0 → u.2.1 = o.toNat ∧ u.2.2 = e_) ∧ (u.1 ≠ 0 → u.2.1 = org ∧ u.2.2 = ent)) (fun (u : Int × Nat × Int) t => zB G cI (va_A [oR mq th (↑n) mp (↑org) ent kn gp ln m1 m2 m3 m4 m5 m6 m7 m8 pl st sp po m9] sz) [oR mq u.1 (↑n) mp (↑u.2.1) u.2.2 kn gp ln m1 m2 m3 m4 m5 m6 m7 m8 pl st sp po m9] t) (va_A [oR mq th (↑n) mp (↑org) ent kn gp ln m1 m2 m3 m4 m5 m6 m7 m8 pl st sp po m9] sz)) 0 0 (va_A [oR mq th (↑n) mp (↑org) ent kn gp ln m1 m2 m3 m4 m5 m6 m7 m8 pl st sp po m9] sz) := by
  refine zm_v (W1 := fun (u : Int × Nat × Int) => [oR mq u.1 (↑n) mp (↑u.2.1) u.2.2 kn gp ln m1 m2 m3 m4 m5 m6 m7 m8 pl st sp po m9]) (cc := cX4_place) (maxL := 3) (by decide) rfl (Nat.le_of_ble_eq_true rfl) ?_
  intro p e s m args below meth c A Q ls hsz hx hb hml hown hts hnm hret hp hl
  have hl : lv_has ls 3 [(0, .ref mq), (1, .int (iZ (o))), (2, .int (iZ (e_)))] := hl
  have hi4 : ∀ w ∈ wsX40, w ∈ wsX4_place := fun w h => List.mem_cons_of_mem _ (List.mem_append_right _ (h))
  have f44 := hts (.fieldLink RX4 44 "SelfOpenerModel" "thrown" "I") (List.mem_of_getElem? (i := 1) rfl)
  have f60 := hts (.fieldLink RX4 60 "SelfOpenerModel" "origin" "I") (List.mem_of_getElem? (i := 2) rfl)
  have f63 := hts (.fieldLink RX4 63 "SelfOpenerModel" "entry" "I") (List.mem_of_getElem? (i := 3) rfl)
  suffices hw : ∀ (H : Heap) (locs : List Loc), Hp G cI A s H locs [oR mq th (↑n) mp (↑org) ent kn gp ln m1 m2 m3 m4 m5 m6 m7 m8 pl st sp po m9] → W p l e rmX4_place s m args below meth c H locs 0 0 Q (F0 m 0 ls []) from hw _ _ hp
  clear hp; intro H locs hp
  refine lv_aload_n hx hb dX4_place_0 rfl (lv_at hl 0 rfl) ?_
  have jn1 : ∀ (t : Int) (H : Heap) (locs : List Loc) (ls : Array Slot), (t = if (0 ≤ o ∧ o < 256) ∧ 0 ≤ e_ ∧ e_ < 256 then 0 else 1) → Hp G cI A s H locs [oR mq th (↑n) mp (↑org) ent kn gp ln m1 m2 m3 m4 m5 m6 m7 m8 pl st sp po m9] → lv_has ls 3 [(0, .ref mq), (1, .int (iZ (o))), (2, .int (iZ (e_)))] → W p l e rmX4_place s m args below meth c H locs 0 0 Q (F0 m 20 ls [.int (iZ (t)), .ref mq]) := by
    intro t H locs ls ht hp hl
    have htb : 0 ≤ t ∧ t ≤ 1 := by rw [ht]; (repeat' split) <;> omega
    refine z_put hx hb hts hi4 tyX4 tyX4_ok nmX4 hown hp 0 rfl rfl 0 (by decide) f44 rfl (rfl) (rfl) (Nat.le_of_ble_eq_true rfl) dX4_place_20 (ws' := [oR mq t (↑n) mp (↑org) ent kn gp ln m1 m2 m3 m4 m5 m6 m7 m8 pl st sp po m9]) rfl (fun H locs hp => ?_)
    refine lv_aload_n hx hb dX4_place_23 rfl (lv_at hl 0 rfl) ?_
    refine z_get hx hb hts hi4 hown hp 0 rfl rfl 0 (by decide) f44 rfl dX4_place_24 ?_
    refine z_if_ne (tgt := 40) hx hb dX4_place_27 (by decide) (by omega) (fun h3 => ?_) (fun h3 => ?_)
    · skip
      exact hret _ _ _ _ _ _ (t, org, ent) (⟨ht, fun q => by dsimp only at q; omega, fun _ => ⟨rfl, rfl⟩⟩) hp dX4_place_40 (Nat.le_of_ble_eq_true rfl) (Nat.le_of_ble_eq_true rfl)
    · skip
      have hti : (0 ≤ o ∧ o < 256) ∧ 0 ≤ e_ ∧ e_ < 256 := by revert ht; (repeat' split) <;> omega
      refine lv_aload_n hx hb dX4_place_30 rfl (lv_at hl 0 rfl) ?_
      refine lv_iload_n hx hb dX4_place_31 rfl (lv_at hl 1 rfl) ?_
      refine z_top (↑(o.toNat)) (by omega) ?_
      refine z_put hx hb hts hi4 tyX4 tyX4_ok nmX4 hown hp 0 rfl rfl 3 (by decide) f60 rfl (rfl) (rfl) (Nat.le_of_ble_eq_true rfl) dX4_place_32 (ws' := [oR mq t (↑n) mp (↑(o.toNat)) ent kn gp ln m1 m2 m3 m4 m5 m6 m7 m8 pl st sp po m9]) rfl (fun H locs hp => ?_)
      refine lv_aload_n hx hb dX4_place_35 rfl (lv_at hl 0 rfl) ?_
      refine lv_iload_n hx hb dX4_place_36 rfl (lv_at hl 2 rfl) ?_
      refine z_put hx hb hts hi4 tyX4 tyX4_ok nmX4 hown hp 0 rfl rfl 4 (by decide) f63 rfl (rfl) (rfl) (Nat.le_of_ble_eq_true rfl) dX4_place_37 (ws' := [oR mq t (↑n) mp (↑(o.toNat)) e_ kn gp ln m1 m2 m3 m4 m5 m6 m7 m8 pl st sp po m9]) rfl (fun H locs hp => ?_)
      exact hret _ _ _ _ _ _ (t, o.toNat, e_) (⟨ht, fun _ => ⟨rfl, rfl⟩, fun q => by dsimp only at q; omega⟩) hp dX4_place_40 (Nat.le_of_ble_eq_true rfl) (Nat.le_of_ble_eq_true rfl)
  refine lv_iload_n hx hb dX4_place_1 rfl (lv_at hl 1 rfl) ?_
  refine zs_i (wr := [oR mq th (↑n) mp (↑org) ent kn gp ln m1 m2 m3 m4 m5 m6 m7 m8 pl st sp po m9]) (W0 := []) (wl2 := fun (u : Unit) => [oR mq th (↑n) mp (↑org) ent kn gp ln m1 m2 m3 m4 m5 m6 m7 m8 pl st sp po m9]) (As := [.int (iZ (o))]) (rest := [.ref mq]) hx hb hml hown hts hp (c_X4_isByte l G cI H.size o (by omega)) zPre_blind (z_pre hp [] rfl (by decide) [.int (iZ (o))]) (va_cwS 1 hts gX4_place_X4_isByte rfl rfl rfl (by decide +kernel) ⟨Nat.le_of_ble_eq_true rfl, Nat.le_of_ble_eq_true rfl⟩) [] [0] [0] rfl rfl ⟨by decide, by decide, by decide⟩ (fun _ => rfl) rfl hl.1 rfl (Nat.le_of_ble_eq_true rfl) dX4_place_2 ⟨Nat.le_of_ble_eq_true rfl, Nat.le_of_ble_eq_true rfl⟩ (fun rv u H locs hq4 hp => ?_)
  obtain rfl : rv = iZ (if 0 ≤ o ∧ o < 256 then 1 else 0) := hq4
  refine z_if_eq (tgt := 19) hx hb dX4_place_5 (by decide) (by omega) (fun h5 => ?_) (fun h5 => ?_)
  · skip
    refine z_iconst hx hb dX4_place_19 ?_
    exact jn1 1 _ _ _ (by (repeat' split) <;> omega) hp (lv_sub hl [0, 1, 2] rfl)
  · skip
    refine lv_iload_n hx hb dX4_place_8 rfl (lv_at hl 2 rfl) ?_
    refine zs_i (wr := [oR mq th (↑n) mp (↑org) ent kn gp ln m1 m2 m3 m4 m5 m6 m7 m8 pl st sp po m9]) (W0 := []) (wl2 := fun (u : Unit) => [oR mq th (↑n) mp (↑org) ent kn gp ln m1 m2 m3 m4 m5 m6 m7 m8 pl st sp po m9]) (As := [.int (iZ (e_))]) (rest := [.ref mq]) hx hb hml hown hts hp (c_X4_isByte l G cI H.size e_ (by omega)) zPre_blind (z_pre hp [] rfl (by decide) [.int (iZ (e_))]) (va_cwS 1 hts gX4_place_X4_isByte rfl rfl rfl (by decide +kernel) ⟨Nat.le_of_ble_eq_true rfl, Nat.le_of_ble_eq_true rfl⟩) [] [0] [0] rfl rfl ⟨by decide, by decide, by decide⟩ (fun _ => rfl) rfl hl.1 rfl (Nat.le_of_ble_eq_true rfl) dX4_place_9 ⟨Nat.le_of_ble_eq_true rfl, Nat.le_of_ble_eq_true rfl⟩ (fun rv u H locs hq6 hp => ?_)
    obtain rfl : rv = iZ (if 0 ≤ e_ ∧ e_ < 256 then 1 else 0) := hq6
    refine z_if_eq (tgt := 19) hx hb dX4_place_12 (by decide) (by omega) (fun h7 => ?_) (fun h7 => ?_)
    · skip
      refine z_iconst hx hb dX4_place_19 ?_
      exact jn1 1 _ _ _ (by (repeat' split) <;> omega) hp (lv_sub hl [0, 1, 2] rfl)
    · skip
      refine z_iconst hx hb dX4_place_15 ?_
      refine lv_goto (tgt := 20) hx hb dX4_place_16 (by decide) ?_
      exact jn1 0 _ _ _ (by (repeat' split) <;> omega) hp (lv_sub hl [0, 1, 2] rfl)
abbrev rmX4_size : Room := { frames := 0, cells := 0, slots := 0, locals := 0 }
set_option maxRecDepth 100000 in
set_option maxHeartbeats 4000000 in
theorem c_X4_size (l : Launch) (G : va_G) (cI : ClassId) (sz : Nat) (mq mp m1 m2 m3 m4 m5 m6 m7 m8 m9 : Nat) (n org : Nat) (th ent kn gp ln pl st sp po : Int)  : Met l yX4_size wsX4_size rmX4_size (zPre G cI [oR mq th (↑n) mp (↑org) ent kn gp ln m1 m2 m3 m4 m5 m6 m7 m8 pl st sp po m9] sz [.ref mq]) (va_Qi (fun (r : Int32) (u : Unit) => r = iZ ↑n) (fun (u : Unit) t => zB G cI (va_A [oR mq th (↑n) mp (↑org) ent kn gp ln m1 m2 m3 m4 m5 m6 m7 m8 pl st sp po m9] sz) [oR mq 0 (↑n) mp (↑org) ent kn gp ln m1 m2 m3 m4 m5 m6 m7 m8 pl st sp po m9] t) (va_A [oR mq th (↑n) mp (↑org) ent kn gp ln m1 m2 m3 m4 m5 m6 m7 m8 pl st sp po m9] sz)) 0 0 (va_A [oR mq th (↑n) mp (↑org) ent kn gp ln m1 m2 m3 m4 m5 m6 m7 m8 pl st sp po m9] sz) := by
  refine zm_i (W1 := fun (u : Unit) => [oR mq 0 (↑n) mp (↑org) ent kn gp ln m1 m2 m3 m4 m5 m6 m7 m8 pl st sp po m9]) (cc := cX4_size) (maxL := 1) (ty := .int) (by decide) rfl (Nat.le_of_ble_eq_true rfl) ?_
  intro p e s m args below meth c A Q ls hsz hx hb hml hown hts hret hp hl
  have hl : lv_has ls 1 [(0, .ref mq)] := hl
  have hi4 : ∀ w ∈ wsX40, w ∈ wsX4_size := fun w h => List.mem_cons_of_mem _ (List.mem_append_right _ (h))
  have f44 := hts (.fieldLink RX4 44 "SelfOpenerModel" "thrown" "I") (List.mem_of_getElem? (i := 1) rfl)
  have f47 := hts (.fieldLink RX4 47 "SelfOpenerModel" "size" "I") (List.mem_of_getElem? (i := 2) rfl)
  suffices hw : ∀ (H : Heap) (locs : List Loc), Hp G cI A s H locs [oR mq th (↑n) mp (↑org) ent kn gp ln m1 m2 m3 m4 m5 m6 m7 m8 pl st sp po m9] → W p l e rmX4_size s m args below meth c H locs 0 0 Q (F0 m 0 ls []) from hw _ _ hp
  clear hp; intro H locs hp
  refine lv_aload_n hx hb dX4_size_0 rfl (lv_at hl 0 rfl) ?_
  refine z_iconst hx hb dX4_size_1 ?_
  refine z_put hx hb hts hi4 tyX4 tyX4_ok nmX4 hown hp 0 rfl rfl 0 (by decide) f44 rfl (rfl) (rfl) (Nat.le_of_ble_eq_true rfl) dX4_size_2 (ws' := [oR mq 0 (↑n) mp (↑org) ent kn gp ln m1 m2 m3 m4 m5 m6 m7 m8 pl st sp po m9]) rfl (fun H locs hp => ?_)
  refine lv_aload_n hx hb dX4_size_5 rfl (lv_at hl 0 rfl) ?_
  refine z_get hx hb hts hi4 hown hp 0 rfl rfl 1 (by decide) f47 rfl dX4_size_6 ?_
  exact hret _ _ _ _ _ _ _ () (rfl) hp dX4_size_9 (rfl) (Nat.le_of_ble_eq_true rfl) (Nat.le_of_ble_eq_true rfl)
