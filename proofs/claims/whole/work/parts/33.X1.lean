abbrev rmX1_init : Room := { frames := 2, cells := 8, slots := 1130, locals := 40 }
set_option maxRecDepth 100000 in
set_option maxHeartbeats 4000000 in
theorem c_X1_init (l : Launch) (G : va_G) (cI : ClassId) (sz : Nat) (kq : Nat)  : Met l yX1_init wsX1_init rmX1_init (zPre G cI [(kq, .inr (1, [.null, .null, .int (iZ (0)), .int (iZ (0)), .int (iZ (0)), .null, .null, .null, .null]))] sz [.ref kq]) (va_Qv (fun (u : Nat × Nat × Nat × Nat × Nat × Nat × Nat × Nat) => True) (fun (u : Nat × Nat × Nat × Nat × Nat × Nat × Nat × Nat) t => zB G cI (va_A [(kq, .inr (1, [.null, .null, .int (iZ (0)), .int (iZ (0)), .int (iZ (0)), .null, .null, .null, .null]))] sz) [oK kq u.1 u.2.2.2.1 0 0 (-1) u.2.2.2.2.1 u.2.2.2.2.2.1 u.2.2.2.2.2.2.1 u.2.2.2.2.2.2.2, oP u.1 u.2.1 u.2.2.1 0 0 0 0, aI cI u.2.1 160 (fun _ => 0), aI cI u.2.2.1 160 (fun _ => 0), aI cI u.2.2.2.1 163 (fun _ => 0), aI cI u.2.2.2.2.1 161 (fun _ => 0), aI cI u.2.2.2.2.2.1 160 (fun _ => 0), aI cI u.2.2.2.2.2.2.1 160 (fun _ => 0), aI cI u.2.2.2.2.2.2.2 160 (fun _ => 0)] t) (va_A [(kq, .inr (1, [.null, .null, .int (iZ (0)), .int (iZ (0)), .int (iZ (0)), .null, .null, .null, .null]))] sz)) 8 1130 (va_A [(kq, .inr (1, [.null, .null, .int (iZ (0)), .int (iZ (0)), .int (iZ (0)), .null, .null, .null, .null]))] sz) := by
  refine zm_v (W1 := fun (u : Nat × Nat × Nat × Nat × Nat × Nat × Nat × Nat) => [oK kq u.1 u.2.2.2.1 0 0 (-1) u.2.2.2.2.1 u.2.2.2.2.2.1 u.2.2.2.2.2.2.1 u.2.2.2.2.2.2.2, oP u.1 u.2.1 u.2.2.1 0 0 0 0, aI cI u.2.1 160 (fun _ => 0), aI cI u.2.2.1 160 (fun _ => 0), aI cI u.2.2.2.1 163 (fun _ => 0), aI cI u.2.2.2.2.1 161 (fun _ => 0), aI cI u.2.2.2.2.2.1 160 (fun _ => 0), aI cI u.2.2.2.2.2.2.1 160 (fun _ => 0), aI cI u.2.2.2.2.2.2.2 160 (fun _ => 0)]) (cc := cX1_init) (maxL := 1) (by decide) rfl (Nat.le_of_ble_eq_true rfl) ?_
  intro p e s m args below meth c A Q ls hsz hx hb hml hown hts hnm hret hp hl
  have hl : lv_has ls 1 [(0, .ref kq)] := hl
  have m3 := hts (.methodLink RX1 3 objectInit) (List.mem_of_getElem? (i := 1) rfl)
  have io := hts (.instanceMethod objectInit) (List.mem_of_getElem? (i := 2) rfl)
  have co := hts (.code objectInit ⟨#[0xb1]⟩ 1 none) (List.mem_of_getElem? (i := 3) rfl)
  have l9 := hts (.classLink RX1 9 RX2) (List.mem_of_getElem? (i := 4) rfl)
  have nX2 := hts (.instantiable RX2 6) (List.mem_of_getElem? (i := 5) rfl)
  have iniX2 := hts (.initialized RX2) (List.mem_of_getElem? (i := 6) rfl)
  have hi2 : ∀ w ∈ wsX20, w ∈ wsX1_init := fun w h => List.mem_cons_of_mem _ (List.mem_append_left _ (List.mem_append_right _ (h)))
  have m11 := hts (.methodLink RX1 11 yX2_init) (List.mem_of_getElem? (i := 15) rfl)
  have iX2_init := hts (.instanceMethod yX2_init) (List.mem_of_getElem? (i := 16) rfl)
  have hi1 : ∀ w ∈ wsX10, w ∈ wsX1_init := fun w h => List.mem_cons_of_mem _ (List.mem_append_right _ (h))
  have f12 := hts (.fieldLink RX1 12 "SelfOpener$Packing" "program" "LSelfOpener$Program;") (List.mem_of_getElem? (i := 7) rfl)
  have ac := hts (.arrayClass .int) (List.mem_of_getElem? (i := 8) rfl)
  have f18 := hts (.fieldLink RX1 18 "SelfOpener$Packing" "stream" "[I") (List.mem_of_getElem? (i := 9) rfl)
  have f22 := hts (.fieldLink RX1 22 "SelfOpener$Packing" "cost" "[I") (List.mem_of_getElem? (i := 10) rfl)
  have f25 := hts (.fieldLink RX1 25 "SelfOpener$Packing" "makes" "[I") (List.mem_of_getElem? (i := 11) rfl)
  have f28 := hts (.fieldLink RX1 28 "SelfOpener$Packing" "distance" "[I") (List.mem_of_getElem? (i := 12) rfl)
  have f31 := hts (.fieldLink RX1 31 "SelfOpener$Packing" "alike" "[I") (List.mem_of_getElem? (i := 13) rfl)
  have f34 := hts (.fieldLink RX1 34 "SelfOpener$Packing" "edition" "I") (List.mem_of_getElem? (i := 14) rfl)
  suffices hw : ∀ (H : Heap) (locs : List Loc), Hp G cI A s H locs [(kq, .inr (1, [.null, .null, .int (iZ (0)), .int (iZ (0)), .int (iZ (0)), .null, .null, .null, .null]))] → W p l e rmX1_init s m args below meth c H locs 0 0 Q (F0 m 0 ls []) from hw _ _ hp
  clear hp; intro H locs hp
  refine lv_aload_n hx hb dX1_init_0 rfl (lv_at hl 0 rfl) ?_
  refine W.objInit hx hb hown m3 io co rfl (by rw [hml]; exact hl.1) rfl dX1_init_1 (Nat.le_of_ble_eq_true rfl) (Nat.le_of_ble_eq_true rfl) ?_
  refine W.eq (g2 := F0 m 4 ls []) rfl ?_
  refine lv_aload_n hx hb dX1_init_4 rfl (lv_at hl 0 rfl) ?_
  refine z_new (ci := 2) (fs := [.null, .null, .int (iZ (0)), .int (iZ (0)), .int (iZ (0)), .int (iZ (0))]) hx hb hts hi2 tyX2 tyX2_ok hown l9 nX2 iniX2 hp rfl (by decide +kernel) (Nat.le_of_ble_eq_true rfl) (Nat.le_of_ble_eq_true rfl) dX1_init_5 (fun q2 H hp => ?_)
  have hp : Hp G cI A s H locs [(kq, .inr (1, [.null, .null, .int (iZ (0)), .int (iZ (0)), .int (iZ (0)), .null, .null, .null, .null])), (q2, .inr (2, [.null, .null, .int (iZ (0)), .int (iZ (0)), .int (iZ (0)), .int (iZ (0))]))] := hp
  refine lv_dup hx hb dX1_init_8 rfl ?_
  refine zn_v (wr := [(kq, .inr (1, [.null, .null, .int (iZ (0)), .int (iZ (0)), .int (iZ (0)), .null, .null, .null, .null]))]) (W0 := [(q2, .inr (2, [.null, .null, .int (iZ (0)), .int (iZ (0)), .int (iZ (0)), .int (iZ (0))]))]) (wl2 := fun (u : Nat × Nat) => [(kq, .inr (1, [.null, .null, .int (iZ (0)), .int (iZ (0)), .int (iZ (0)), .null, .null, .null, .null])), oP q2 u.1 u.2 0 0 0 0, aI cI u.1 160 (fun _ => 0), aI cI u.2 160 (fun _ => 0)]) (As := []) (rest := [.ref q2, .ref kq]) hx hb hml hown hts hp (c_X2_init l G cI H.size q2) zPre_blind (z_pre hp [1] rfl (by decide) [.ref q2]) (cwI 0 hts gX1_init_X2_init rfl rfl rfl iniX2 m11 iX2_init rfl (by decide +kernel) ⟨Nat.le_of_ble_eq_true rfl, Nat.le_of_ble_eq_true rfl⟩) [1] [0] [0, 1, 2, 3] rfl rfl ⟨by decide, by decide, by decide⟩ (fun _ => rfl) rfl hl.1 rfl (Nat.le_of_ble_eq_true rfl) dX1_init_9 ⟨Nat.le_of_ble_eq_true rfl, Nat.le_of_ble_eq_true rfl⟩ (fun u9 H locs hq1 hp => ?_)
  obtain ⟨b2, o2⟩ := u9
  refine z_putF hx hb hts hi1 tyX1 tyX1_ok nmX1 hown hp 0 rfl rfl 0 (by decide) f12 rfl hnm rfl (rfl) (rfl) (Nat.le_of_ble_eq_true rfl) dX1_init_12 (ws' := [(kq, .inr (1, [.ref q2, .null, .int (iZ (0)), .int (iZ (0)), .int (iZ (0)), .null, .null, .null, .null])), oP q2 b2 o2 0 0 0 0, aI cI b2 160 (fun _ => 0), aI cI o2 160 (fun _ => 0)]) rfl (fun H locs hp => ?_)
  refine lv_aload_n hx hb dX1_init_15 rfl (lv_at hl 0 rfl) ?_
  refine z_sipush hx hb dX1_init_16 (by decide +kernel) ?_
  refine z_newa hx hb 163 ac hp (by decide) (by decide) rfl (Nat.le_of_ble_eq_true rfl) (Nat.le_of_ble_eq_true rfl) dX1_init_19 (fun ks H hp => ?_)
  have hp : Hp G cI A s H locs [(kq, .inr (1, [.ref q2, .null, .int (iZ (0)), .int (iZ (0)), .int (iZ (0)), .null, .null, .null, .null])), oP q2 b2 o2 0 0 0 0, aI cI b2 160 (fun _ => 0), aI cI o2 160 (fun _ => 0), aI cI ks 163 (fun _ => 0)] := hp
  refine z_putF hx hb hts hi1 tyX1 tyX1_ok nmX1 hown hp 0 rfl rfl 1 (by decide) f18 rfl hnm rfl (rfl) (rfl) (Nat.le_of_ble_eq_true rfl) dX1_init_21 (ws' := [(kq, .inr (1, [.ref q2, .ref ks, .int (iZ (0)), .int (iZ (0)), .int (iZ (0)), .null, .null, .null, .null])), oP q2 b2 o2 0 0 0 0, aI cI b2 160 (fun _ => 0), aI cI o2 160 (fun _ => 0), aI cI ks 163 (fun _ => 0)]) rfl (fun H locs hp => ?_)
  refine lv_aload_n hx hb dX1_init_24 rfl (lv_at hl 0 rfl) ?_
  refine z_sipush hx hb dX1_init_25 (by decide +kernel) ?_
  refine z_newa hx hb 161 ac hp (by decide) (by decide) rfl (Nat.le_of_ble_eq_true rfl) (Nat.le_of_ble_eq_true rfl) dX1_init_28 (fun kc H hp => ?_)
  have hp : Hp G cI A s H locs [(kq, .inr (1, [.ref q2, .ref ks, .int (iZ (0)), .int (iZ (0)), .int (iZ (0)), .null, .null, .null, .null])), oP q2 b2 o2 0 0 0 0, aI cI b2 160 (fun _ => 0), aI cI o2 160 (fun _ => 0), aI cI ks 163 (fun _ => 0), aI cI kc 161 (fun _ => 0)] := hp
  refine z_putF hx hb hts hi1 tyX1 tyX1_ok nmX1 hown hp 0 rfl rfl 5 (by decide) f22 rfl hnm rfl (rfl) (rfl) (Nat.le_of_ble_eq_true rfl) dX1_init_30 (ws' := [(kq, .inr (1, [.ref q2, .ref ks, .int (iZ (0)), .int (iZ (0)), .int (iZ (0)), .ref kc, .null, .null, .null])), oP q2 b2 o2 0 0 0 0, aI cI b2 160 (fun _ => 0), aI cI o2 160 (fun _ => 0), aI cI ks 163 (fun _ => 0), aI cI kc 161 (fun _ => 0)]) rfl (fun H locs hp => ?_)
  refine lv_aload_n hx hb dX1_init_33 rfl (lv_at hl 0 rfl) ?_
  refine z_sipush hx hb dX1_init_34 (by decide +kernel) ?_
  refine z_newa hx hb 160 ac hp (by decide) (by decide) rfl (Nat.le_of_ble_eq_true rfl) (Nat.le_of_ble_eq_true rfl) dX1_init_37 (fun km H hp => ?_)
  have hp : Hp G cI A s H locs [(kq, .inr (1, [.ref q2, .ref ks, .int (iZ (0)), .int (iZ (0)), .int (iZ (0)), .ref kc, .null, .null, .null])), oP q2 b2 o2 0 0 0 0, aI cI b2 160 (fun _ => 0), aI cI o2 160 (fun _ => 0), aI cI ks 163 (fun _ => 0), aI cI kc 161 (fun _ => 0), aI cI km 160 (fun _ => 0)] := hp
  refine z_putF hx hb hts hi1 tyX1 tyX1_ok nmX1 hown hp 0 rfl rfl 6 (by decide) f25 rfl hnm rfl (rfl) (rfl) (Nat.le_of_ble_eq_true rfl) dX1_init_39 (ws' := [(kq, .inr (1, [.ref q2, .ref ks, .int (iZ (0)), .int (iZ (0)), .int (iZ (0)), .ref kc, .ref km, .null, .null])), oP q2 b2 o2 0 0 0 0, aI cI b2 160 (fun _ => 0), aI cI o2 160 (fun _ => 0), aI cI ks 163 (fun _ => 0), aI cI kc 161 (fun _ => 0), aI cI km 160 (fun _ => 0)]) rfl (fun H locs hp => ?_)
  refine lv_aload_n hx hb dX1_init_42 rfl (lv_at hl 0 rfl) ?_
  refine z_sipush hx hb dX1_init_43 (by decide +kernel) ?_
  refine z_newa hx hb 160 ac hp (by decide) (by decide) rfl (Nat.le_of_ble_eq_true rfl) (Nat.le_of_ble_eq_true rfl) dX1_init_46 (fun kd H hp => ?_)
  have hp : Hp G cI A s H locs [(kq, .inr (1, [.ref q2, .ref ks, .int (iZ (0)), .int (iZ (0)), .int (iZ (0)), .ref kc, .ref km, .null, .null])), oP q2 b2 o2 0 0 0 0, aI cI b2 160 (fun _ => 0), aI cI o2 160 (fun _ => 0), aI cI ks 163 (fun _ => 0), aI cI kc 161 (fun _ => 0), aI cI km 160 (fun _ => 0), aI cI kd 160 (fun _ => 0)] := hp
  refine z_putF hx hb hts hi1 tyX1 tyX1_ok nmX1 hown hp 0 rfl rfl 7 (by decide) f28 rfl hnm rfl (rfl) (rfl) (Nat.le_of_ble_eq_true rfl) dX1_init_48 (ws' := [(kq, .inr (1, [.ref q2, .ref ks, .int (iZ (0)), .int (iZ (0)), .int (iZ (0)), .ref kc, .ref km, .ref kd, .null])), oP q2 b2 o2 0 0 0 0, aI cI b2 160 (fun _ => 0), aI cI o2 160 (fun _ => 0), aI cI ks 163 (fun _ => 0), aI cI kc 161 (fun _ => 0), aI cI km 160 (fun _ => 0), aI cI kd 160 (fun _ => 0)]) rfl (fun H locs hp => ?_)
  refine lv_aload_n hx hb dX1_init_51 rfl (lv_at hl 0 rfl) ?_
  refine z_sipush hx hb dX1_init_52 (by decide +kernel) ?_
  refine z_newa hx hb 160 ac hp (by decide) (by decide) rfl (Nat.le_of_ble_eq_true rfl) (Nat.le_of_ble_eq_true rfl) dX1_init_55 (fun kl H hp => ?_)
  have hp : Hp G cI A s H locs [(kq, .inr (1, [.ref q2, .ref ks, .int (iZ (0)), .int (iZ (0)), .int (iZ (0)), .ref kc, .ref km, .ref kd, .null])), oP q2 b2 o2 0 0 0 0, aI cI b2 160 (fun _ => 0), aI cI o2 160 (fun _ => 0), aI cI ks 163 (fun _ => 0), aI cI kc 161 (fun _ => 0), aI cI km 160 (fun _ => 0), aI cI kd 160 (fun _ => 0), aI cI kl 160 (fun _ => 0)] := hp
  refine z_putF hx hb hts hi1 tyX1 tyX1_ok nmX1 hown hp 0 rfl rfl 8 (by decide) f31 rfl hnm rfl (rfl) (rfl) (Nat.le_of_ble_eq_true rfl) dX1_init_57 (ws' := [oK kq q2 ks 0 0 0 kc km kd kl, oP q2 b2 o2 0 0 0 0, aI cI b2 160 (fun _ => 0), aI cI o2 160 (fun _ => 0), aI cI ks 163 (fun _ => 0), aI cI kc 161 (fun _ => 0), aI cI km 160 (fun _ => 0), aI cI kd 160 (fun _ => 0), aI cI kl 160 (fun _ => 0)]) rfl (fun H locs hp => ?_)
  refine lv_aload_n hx hb dX1_init_60 rfl (lv_at hl 0 rfl) ?_
  refine z_iconst hx hb dX1_init_61 ?_
  refine z_put hx hb hts hi1 tyX1 tyX1_ok nmX1 hown hp 0 rfl rfl 4 (by decide) f34 rfl (rfl) (rfl) (Nat.le_of_ble_eq_true rfl) dX1_init_62 (ws' := [oK kq q2 ks 0 0 (-1) kc km kd kl, oP q2 b2 o2 0 0 0 0, aI cI b2 160 (fun _ => 0), aI cI o2 160 (fun _ => 0), aI cI ks 163 (fun _ => 0), aI cI kc 161 (fun _ => 0), aI cI km 160 (fun _ => 0), aI cI kd 160 (fun _ => 0), aI cI kl 160 (fun _ => 0)]) rfl (fun H locs hp => ?_)
  exact hret _ _ _ _ _ _ (q2, b2, o2, ks, kc, km, kd, kl) (trivial) hp dX1_init_65 (Nat.le_of_ble_eq_true rfl) (Nat.le_of_ble_eq_true rfl)
abbrev rmX1_stubAddress : Room := { frames := 0, cells := 0, slots := 0, locals := 0 }
set_option maxRecDepth 100000 in
set_option maxHeartbeats 4000000 in
theorem c_X1_stubAddress (l : Launch) (G : va_G) (cI : ClassId) (sz : Nat) (kq ks kc km kd kl : Nat) (q2 b2 o2 : Nat) (n org : Nat) (ln gp ek ent ed : Int) (h_n : n ≤ 160) (h_o : org < 256) (h_g : 0 ≤ gp ∧ gp ≤ 200) : Met l yX1_stubAddress wsX1_stubAddress rmX1_stubAddress (zPre G cI [oK kq q2 ks ln gp ek kc km kd kl, oP q2 b2 o2 (↑n) (↑org) ent ed] sz [.ref kq]) (va_Qi (fun (r : Int32) (u : Unit) => r = iZ (↑org + ↑n + gp)) (fun (u : Unit) t => zB G cI (va_A [oK kq q2 ks ln gp ek kc km kd kl, oP q2 b2 o2 (↑n) (↑org) ent ed] sz) [oK kq q2 ks ln gp ek kc km kd kl, oP q2 b2 o2 (↑n) (↑org) ent ed] t) (va_A [oK kq q2 ks ln gp ek kc km kd kl, oP q2 b2 o2 (↑n) (↑org) ent ed] sz)) 0 0 (va_A [oK kq q2 ks ln gp ek kc km kd kl, oP q2 b2 o2 (↑n) (↑org) ent ed] sz) := by
  refine zm_i (W1 := fun (u : Unit) => [oK kq q2 ks ln gp ek kc km kd kl, oP q2 b2 o2 (↑n) (↑org) ent ed]) (cc := cX1_stubAddress) (maxL := 1) (ty := .int) (by decide) rfl (Nat.le_of_ble_eq_true rfl) ?_
  intro p e s m args below meth c A Q ls hsz hx hb hml hown hts hret hp hl
  have hl : lv_has ls 1 [(0, .ref kq)] := hl
  have hi1 : ∀ w ∈ wsX10, w ∈ wsX1_stubAddress := fun w h => List.mem_cons_of_mem _ (List.mem_append_left _ (List.mem_append_right _ (h)))
  have f12 := hts (.fieldLink RX1 12 "SelfOpener$Packing" "program" "LSelfOpener$Program;") (List.mem_of_getElem? (i := 1) rfl)
  have hi2 : ∀ w ∈ wsX20, w ∈ wsX1_stubAddress := fun w h => List.mem_cons_of_mem _ (List.mem_append_right _ (h))
  have f38 := hts (.fieldLink RX1 38 "SelfOpener$Program" "origin" "I") (List.mem_of_getElem? (i := 2) rfl)
  have f41 := hts (.fieldLink RX1 41 "SelfOpener$Program" "size" "I") (List.mem_of_getElem? (i := 3) rfl)
  have f44 := hts (.fieldLink RX1 44 "SelfOpener$Packing" "gap" "I") (List.mem_of_getElem? (i := 4) rfl)
  suffices hw : ∀ (H : Heap) (locs : List Loc), Hp G cI A s H locs [oK kq q2 ks ln gp ek kc km kd kl, oP q2 b2 o2 (↑n) (↑org) ent ed] → W p l e rmX1_stubAddress s m args below meth c H locs 0 0 Q (F0 m 0 ls []) from hw _ _ hp
  clear hp; intro H locs hp
  refine lv_aload_n hx hb dX1_stubAddress_0 rfl (lv_at hl 0 rfl) ?_
  refine z_get hx hb hts hi1 hown hp 0 rfl rfl 0 (by decide) f12 rfl dX1_stubAddress_1 ?_
  refine z_get hx hb hts hi2 hown hp 1 rfl rfl 3 (by decide) f38 rfl dX1_stubAddress_4 ?_
  refine lv_aload_n hx hb dX1_stubAddress_7 rfl (lv_at hl 0 rfl) ?_
  refine z_get hx hb hts hi1 hown hp 0 rfl rfl 0 (by decide) f12 rfl dX1_stubAddress_8 ?_
  refine z_get hx hb hts hi2 hown hp 1 rfl rfl 2 (by decide) f41 rfl dX1_stubAddress_11 ?_
  refine z_iadd hx hb ((↑org) + (↑n)) (rfl) dX1_stubAddress_14 ?_
  refine lv_aload_n hx hb dX1_stubAddress_15 rfl (lv_at hl 0 rfl) ?_
  refine z_get hx hb hts hi1 hown hp 0 rfl rfl 3 (by decide) f44 rfl dX1_stubAddress_16 ?_
  refine z_iadd hx hb (((↑org) + (↑n)) + gp) (rfl) dX1_stubAddress_19 ?_
  exact hret _ _ _ _ _ _ _ () (rfl) hp dX1_stubAddress_20 (rfl) (Nat.le_of_ble_eq_true rfl) (Nat.le_of_ble_eq_true rfl)
abbrev rmX1_layoutEnd : Room := { frames := 1, cells := 0, slots := 0, locals := 20 }
set_option maxRecDepth 100000 in
set_option maxHeartbeats 4000000 in
theorem c_X1_layoutEnd (l : Launch) (G : va_G) (cI : ClassId) (sz : Nat) (kq ks kc km kd kl : Nat) (q2 b2 o2 : Nat) (n org : Nat) (ln gp ek ent ed : Int) (h_n : n ≤ 160) (h_o : org < 256) (h_g : 0 ≤ gp ∧ gp ≤ 200) : Met l yX1_layoutEnd wsX1_layoutEnd rmX1_layoutEnd (zPre G cI [oK kq q2 ks ln gp ek kc km kd kl, oP q2 b2 o2 (↑n) (↑org) ent ed] sz [.ref kq]) (va_Qi (fun (r : Int32) (u : Unit) => r = iZ (↑org + ↑n + gp + 60)) (fun (u : Unit) t => zB G cI (va_A [oK kq q2 ks ln gp ek kc km kd kl, oP q2 b2 o2 (↑n) (↑org) ent ed] sz) [oK kq q2 ks ln gp ek kc km kd kl, oP q2 b2 o2 (↑n) (↑org) ent ed] t) (va_A [oK kq q2 ks ln gp ek kc km kd kl, oP q2 b2 o2 (↑n) (↑org) ent ed] sz)) 0 0 (va_A [oK kq q2 ks ln gp ek kc km kd kl, oP q2 b2 o2 (↑n) (↑org) ent ed] sz) := by
  refine zm_i (W1 := fun (u : Unit) => [oK kq q2 ks ln gp ek kc km kd kl, oP q2 b2 o2 (↑n) (↑org) ent ed]) (cc := cX1_layoutEnd) (maxL := 1) (ty := .int) (by decide) rfl (Nat.le_of_ble_eq_true rfl) ?_
  intro p e s m args below meth c A Q ls hsz hx hb hml hown hts hret hp hl
  have hl : lv_has ls 1 [(0, .ref kq)] := hl
  suffices hw : ∀ (H : Heap) (locs : List Loc), Hp G cI A s H locs [oK kq q2 ks ln gp ek kc km kd kl, oP q2 b2 o2 (↑n) (↑org) ent ed] → W p l e rmX1_layoutEnd s m args below meth c H locs 0 0 Q (F0 m 0 ls []) from hw _ _ hp
  clear hp; intro H locs hp
  refine lv_aload_n hx hb dX1_layoutEnd_0 rfl (lv_at hl 0 rfl) ?_
  refine zc_i (wr := []) (W0 := [oK kq q2 ks ln gp ek kc km kd kl, oP q2 b2 o2 (↑n) (↑org) ent ed]) (wl2 := fun (u : Unit) => [oK kq q2 ks ln gp ek kc km kd kl, oP q2 b2 o2 (↑n) (↑org) ent ed]) (As := []) (rest := []) hx hb hml hown hts hp (c_X1_stubAddress l G cI H.size kq ks kc km kd kl q2 b2 o2 n org ln gp ek ent ed (by omega) (by omega) (by omega)) zPre_blind (z_pre hp [0, 1] rfl (by decide) [.ref kq]) (cwV 0 hts gX1_layoutEnd_X1_stubAddress rfl rfl rfl (by decide +kernel) ⟨Nat.le_of_ble_eq_true rfl, Nat.le_of_ble_eq_true rfl⟩) [0, 1] [] [0, 1] rfl rfl ⟨by decide, by decide, by decide⟩ (fun _ => rfl) 0 1 rfl rfl rfl rfl hl.1 rfl (Nat.le_of_ble_eq_true rfl) dX1_layoutEnd_1 ⟨Nat.le_of_ble_eq_true rfl, Nat.le_of_ble_eq_true rfl⟩ (fun rv u H locs hq1 hp => ?_)
  obtain rfl : rv = iZ (↑org + ↑n + gp) := hq1
  refine z_bipush hx hb dX1_layoutEnd_4 (by decide +kernel) ?_
  refine z_iadd hx hb ((↑org + ↑n + gp) + 60) (rfl) dX1_layoutEnd_6 ?_
  exact hret _ _ _ _ _ _ _ () (rfl) hp dX1_layoutEnd_7 (rfl) (Nat.le_of_ble_eq_true rfl) (Nat.le_of_ble_eq_true rfl)
abbrev rmX1_fits : Room := { frames := 2, cells := 0, slots := 0, locals := 40 }
set_option maxRecDepth 100000 in
set_option maxHeartbeats 4000000 in
theorem c_X1_fits (l : Launch) (G : va_G) (cI : ClassId) (sz : Nat) (kq ks kc km kd kl : Nat) (q2 b2 o2 : Nat) (n org : Nat) (ln gp ek ent ed : Int) (h_n : n ≤ 160) (h_o : org < 256) (h_g : 0 ≤ gp ∧ gp ≤ 200) : Met l yX1_fits wsX1_fits rmX1_fits (zPre G cI [oK kq q2 ks ln gp ek kc km kd kl, oP q2 b2 o2 (↑n) (↑org) ent ed] sz [.ref kq]) (va_Qi (fun (r : Int32) (u : Unit) => r = iZ (if ↑org + ↑n + gp + 60 ≤ 256 then 1 else 0)) (fun (u : Unit) t => zB G cI (va_A [oK kq q2 ks ln gp ek kc km kd kl, oP q2 b2 o2 (↑n) (↑org) ent ed] sz) [oK kq q2 ks ln gp ek kc km kd kl, oP q2 b2 o2 (↑n) (↑org) ent ed] t) (va_A [oK kq q2 ks ln gp ek kc km kd kl, oP q2 b2 o2 (↑n) (↑org) ent ed] sz)) 0 0 (va_A [oK kq q2 ks ln gp ek kc km kd kl, oP q2 b2 o2 (↑n) (↑org) ent ed] sz) := by
  refine zm_i (W1 := fun (u : Unit) => [oK kq q2 ks ln gp ek kc km kd kl, oP q2 b2 o2 (↑n) (↑org) ent ed]) (cc := cX1_fits) (maxL := 1) (ty := .boolean) (by decide) rfl (Nat.le_of_ble_eq_true rfl) ?_
  intro p e s m args below meth c A Q ls hsz hx hb hml hown hts hret hp hl
  have hl : lv_has ls 1 [(0, .ref kq)] := hl
  suffices hw : ∀ (H : Heap) (locs : List Loc), Hp G cI A s H locs [oK kq q2 ks ln gp ek kc km kd kl, oP q2 b2 o2 (↑n) (↑org) ent ed] → W p l e rmX1_fits s m args below meth c H locs 0 0 Q (F0 m 0 ls []) from hw _ _ hp
  clear hp; intro H locs hp
  refine lv_aload_n hx hb dX1_fits_0 rfl (lv_at hl 0 rfl) ?_
  refine zc_i (wr := []) (W0 := [oK kq q2 ks ln gp ek kc km kd kl, oP q2 b2 o2 (↑n) (↑org) ent ed]) (wl2 := fun (u : Unit) => [oK kq q2 ks ln gp ek kc km kd kl, oP q2 b2 o2 (↑n) (↑org) ent ed]) (As := []) (rest := []) hx hb hml hown hts hp (c_X1_layoutEnd l G cI H.size kq ks kc km kd kl q2 b2 o2 n org ln gp ek ent ed (by omega) (by omega) (by omega)) zPre_blind (z_pre hp [0, 1] rfl (by decide) [.ref kq]) (cwV 0 hts gX1_fits_X1_layoutEnd rfl rfl rfl (by decide +kernel) ⟨Nat.le_of_ble_eq_true rfl, Nat.le_of_ble_eq_true rfl⟩) [0, 1] [] [0, 1] rfl rfl ⟨by decide, by decide, by decide⟩ (fun _ => rfl) 0 1 rfl rfl rfl rfl hl.1 rfl (Nat.le_of_ble_eq_true rfl) dX1_fits_1 ⟨Nat.le_of_ble_eq_true rfl, Nat.le_of_ble_eq_true rfl⟩ (fun rv u H locs hq1 hp => ?_)
  obtain rfl : rv = iZ (↑org + ↑n + gp + 60) := hq1
  refine z_sipush hx hb dX1_fits_4 (by decide +kernel) ?_
  refine z_icmp_gt (tgt := 14) hx hb dX1_fits_7 (by decide) (by omega) (fun h2 => ?_) (fun h2 => ?_)
  · skip
    refine z_iconst hx hb dX1_fits_14 ?_
    exact hret _ _ _ _ _ _ _ () (congrArg iZ (by (repeat' split) <;> omega)) hp dX1_fits_15 (by decide +kernel) (Nat.le_of_ble_eq_true rfl) (Nat.le_of_ble_eq_true rfl)
  · skip
    refine z_iconst hx hb dX1_fits_10 ?_
    refine lv_goto (tgt := 15) hx hb dX1_fits_11 (by decide) ?_
    exact hret _ _ _ _ _ _ _ () (congrArg iZ (by (repeat' split) <;> omega)) hp dX1_fits_15 (by decide +kernel) (Nat.le_of_ble_eq_true rfl) (Nat.le_of_ble_eq_true rfl)
abbrev rmX1_findCopy : Room := { frames := 1, cells := 0, slots := 0, locals := 40 }
set_option maxRecDepth 100000 in
set_option maxHeartbeats 4000000 in
theorem c_X1_findCopy (l : Launch) (G : va_G) (cI : ClassId) (sz : Nat) (kq ks kc km kd kl : Nat) (q2 b2 o2 : Nat) (mks dst lks pb : Nat → Int) (n org i : Nat) (ln gp ek ent ed : Int) (h_n : n ≤ 160) (h_i : i < n) (h_b : BB pb 160) (h_l : ∀ d, 1 ≤ d → d ≤ i → lks d = ↑(al pb n (i + 1) d)) : Met l yX1_findCopy wsX1_findCopy rmX1_findCopy (zPre G cI [oK kq q2 ks ln gp ek kc km kd kl, aI cI km 160 mks, aI cI kd 160 dst, aI cI kl 160 lks, oP q2 b2 o2 (↑n) (↑org) ent ed, aI cI b2 160 pb] sz [.ref kq, .int (iZ (↑i))]) (va_Qv (fun (u : (Nat → Int) × Nat × Nat) => FC pb n i u.2.1 u.2.2 ∧ ∀ d, 1 ≤ d → d ≤ i → u.1 d = ↑(al pb n i d)) (fun (u : (Nat → Int) × Nat × Nat) t => zB G cI (va_A [oK kq q2 ks ln gp ek kc km kd kl, aI cI km 160 mks, aI cI kd 160 dst, aI cI kl 160 lks, oP q2 b2 o2 (↑n) (↑org) ent ed, aI cI b2 160 pb] sz) [oK kq q2 ks ln gp ek kc km kd kl, aI cI km 160 (upZ mks i (↑u.2.1)), aI cI kd 160 (upZ dst i (↑u.2.2)), aI cI kl 160 u.1, oP q2 b2 o2 (↑n) (↑org) ent ed, aI cI b2 160 pb] t) (va_A [oK kq q2 ks ln gp ek kc km kd kl, aI cI km 160 mks, aI cI kd 160 dst, aI cI kl 160 lks, oP q2 b2 o2 (↑n) (↑org) ent ed, aI cI b2 160 pb] sz)) 0 0 (va_A [oK kq q2 ks ln gp ek kc km kd kl, aI cI km 160 mks, aI cI kd 160 dst, aI cI kl 160 lks, oP q2 b2 o2 (↑n) (↑org) ent ed, aI cI b2 160 pb] sz) := by
  refine zm_v (W1 := fun (u : (Nat → Int) × Nat × Nat) => [oK kq q2 ks ln gp ek kc km kd kl, aI cI km 160 (upZ mks i (↑u.2.1)), aI cI kd 160 (upZ dst i (↑u.2.2)), aI cI kl 160 u.1, oP q2 b2 o2 (↑n) (↑org) ent ed, aI cI b2 160 pb]) (cc := cX1_findCopy) (maxL := 5) (by decide) rfl (Nat.le_of_ble_eq_true rfl) ?_
  intro p e s m args below meth c A Q ls hsz hx hb hml hown hts hnm hret hp hl
  have hl : lv_has ls 5 [(0, .ref kq), (1, .int (iZ (↑i)))] := hl
  have hi1 : ∀ w ∈ wsX10, w ∈ wsX1_findCopy := fun w h => List.mem_cons_of_mem _ (List.mem_append_left _ (List.mem_append_right _ (h)))
  have f12 := hts (.fieldLink RX1 12 "SelfOpener$Packing" "program" "LSelfOpener$Program;") (List.mem_of_getElem? (i := 1) rfl)
  have hi2 : ∀ w ∈ wsX20, w ∈ wsX1_findCopy := fun w h => List.mem_cons_of_mem _ (List.mem_append_right _ (h))
  have f70 := hts (.fieldLink RX1 70 "SelfOpener$Program" "bytes" "[I") (List.mem_of_getElem? (i := 2) rfl)
  have f25 := hts (.fieldLink RX1 25 "SelfOpener$Packing" "makes" "[I") (List.mem_of_getElem? (i := 3) rfl)
  have f28 := hts (.fieldLink RX1 28 "SelfOpener$Packing" "distance" "[I") (List.mem_of_getElem? (i := 4) rfl)
  have f31 := hts (.fieldLink RX1 31 "SelfOpener$Packing" "alike" "[I") (List.mem_of_getElem? (i := 5) rfl)
  have m73 := hts (.methodLink RX1 73 Lib.Math.min.name) (List.mem_of_getElem? (i := 6) rfl)
  have smin := hts (.static Lib.Math.min.name) (List.mem_of_getElem? (i := 7) rfl)
  have im := hts (.initialized "java/lang/Math") (List.mem_of_getElem? (i := 8) rfl)
  have cmin := hts (.code Lib.Math.min.name Lib.Math.min.code 2 (some .int)) (List.mem_of_getElem? (i := 9) rfl)
  suffices hw : ∀ (H : Heap) (locs : List Loc), Hp G cI A s H locs [oK kq q2 ks ln gp ek kc km kd kl, aI cI km 160 mks, aI cI kd 160 dst, aI cI kl 160 lks, oP q2 b2 o2 (↑n) (↑org) ent ed, aI cI b2 160 pb] → W p l e rmX1_findCopy s m args below meth c H locs 0 0 Q (F0 m 0 ls []) from hw _ _ hp
  clear hp; intro H locs hp
  refine lv_aload_n hx hb dX1_findCopy_0 rfl (lv_at hl 0 rfl) ?_
  refine z_get hx hb hts hi1 hown hp 0 rfl rfl 0 (by decide) f12 rfl dX1_findCopy_1 ?_
  refine z_get hx hb hts hi2 hown hp 4 rfl rfl 0 (by decide) f70 rfl dX1_findCopy_4 ?_
  refine lv_astore_n (lv' := [(2, .ref b2), (0, .ref kq), (1, .int (iZ (↑i)))]) hx hb dX1_findCopy_7 rfl hl (by decide) rfl (fun ls hl => ?_)
  refine lv_aload_n hx hb dX1_findCopy_8 rfl (lv_at hl 1 rfl) ?_
  refine z_get hx hb hts hi1 hown hp 0 rfl rfl 6 (by decide) f25 rfl dX1_findCopy_9 ?_
  refine lv_iload_n hx hb dX1_findCopy_12 rfl (lv_at hl 2 rfl) ?_
  refine z_iconst hx hb dX1_findCopy_13 ?_
  refine z_iast hx hb hp 1 rfl (i) (by omega) dX1_findCopy_14 (ws' := [oK kq q2 ks ln gp ek kc km kd kl, aI cI km 160 (upZ mks i 0), aI cI kd 160 dst, aI cI kl 160 lks, oP q2 b2 o2 (↑n) (↑org) ent ed, aI cI b2 160 pb]) rfl (fun H locs hp => ?_)
  refine lv_aload_n hx hb dX1_findCopy_15 rfl (lv_at hl 1 rfl) ?_
  refine z_get hx hb hts hi1 hown hp 0 rfl rfl 7 (by decide) f28 rfl dX1_findCopy_16 ?_
  refine lv_iload_n hx hb dX1_findCopy_19 rfl (lv_at hl 2 rfl) ?_
  refine z_iconst hx hb dX1_findCopy_20 ?_
  refine z_iast hx hb hp 2 rfl (i) (by omega) dX1_findCopy_21 (ws' := [oK kq q2 ks ln gp ek kc km kd kl, aI cI km 160 (upZ mks i 0), aI cI kd 160 (upZ dst i 0), aI cI kl 160 lks, oP q2 b2 o2 (↑n) (↑org) ent ed, aI cI b2 160 pb]) rfl (fun H locs hp => ?_)
  refine z_iconst hx hb dX1_findCopy_22 ?_
  refine lv_istore_n (lv' := [(3, .int (iZ (1))), (2, .ref b2), (0, .ref kq), (1, .int (iZ (↑i)))]) hx hb dX1_findCopy_23 rfl hl (by decide) rfl (fun ls hl => ?_)
  have lp1 : ∀ (N_lp1 : Nat) (d mm xx : Nat) (lk : Nat → Int) (H : Heap) (locs : List Loc) (ls : Array Slot), (1 ≤ d) → (d ≤ i + 1) → (FCp pb n i d mm xx) → (∀ e, 1 ≤ e → e < d → lk e = ↑(al pb n i e)) → (∀ e, d ≤ e → e ≤ i → lk e = ↑(al pb n (i + 1) e)) → (i + 1 - d) < N_lp1 → Hp G cI A s H locs [oK kq q2 ks ln gp ek kc km kd kl, aI cI km 160 (upZ mks i (↑mm)), aI cI kd 160 (upZ dst i (↑xx)), aI cI kl 160 lk, oP q2 b2 o2 (↑n) (↑org) ent ed, aI cI b2 160 pb] → lv_has ls 5 [(3, .int (iZ (↑d))), (2, .ref b2), (0, .ref kq), (1, .int (iZ (↑i)))] → W p l e rmX1_findCopy s m args below meth c H locs 0 0 Q (F0 m 24 ls []) := by
    intro N_lp1
    induction N_lp1 with
    | zero => intros; exfalso; omega
    | succ N_lp1 ih_lp1 =>
      intro d mm xx lk H locs ls hd1 hd2 hF hl1 hl2 hN hp hl
      refine lv_iload_n hx hb dX1_findCopy_24 rfl (lv_at hl 0 rfl) ?_
      refine lv_iload_n hx hb dX1_findCopy_25 rfl (lv_at hl 3 rfl) ?_
      refine z_icmp_gt (tgt := 110) hx hb dX1_findCopy_26 (by decide) (by omega) (fun h2 => ?_) (fun h2 => ?_)
      · skip
        obtain rfl : d = i + 1 := by omega
        exact hret _ _ _ _ _ _ (lk, mm, xx) (⟨hF, fun e h1 h2 => hl1 e h1 (by omega)⟩) hp dX1_findCopy_110 (Nat.le_of_ble_eq_true rfl) (Nat.le_of_ble_eq_true rfl)
      · skip
        have hmm := FCp_129 hF
        have hb1 := h_b i (by omega)
        have hb2 := h_b (i - d) (by omega)
        have hlk := hl2 d (by omega) (by omega)
        have hale := al_le (pb := pb) (n := n) (d := d) (n - (i + 1)) (i + 1) (by omega)
        have jn3 : ∀ (v : Nat) (H : Heap) (locs : List Loc) (ls : Array Slot), (v = al pb n i d) → Hp G cI A s H locs [oK kq q2 ks ln gp ek kc km kd kl, aI cI km 160 (upZ mks i (↑mm)), aI cI kd 160 (upZ dst i (↑xx)), aI cI kl 160 lk, oP q2 b2 o2 (↑n) (↑org) ent ed, aI cI b2 160 pb] → lv_has ls 5 [(3, .int (iZ (↑d))), (2, .ref b2), (0, .ref kq), (1, .int (iZ (↑i)))] → W p l e rmX1_findCopy s m args below meth c H locs 0 0 Q (F0 m 57 ls [.int (iZ (↑v)), .int (iZ (↑d)), .ref kl]) := by
          intro v H locs ls hv hp hl
          have hale2 := al_le (pb := pb) (n := n) (d := d) (n - i) i (by omega)
          have hca : ca pb n i d ≤ 129 := by unfold ca; omega
          refine z_iast hx hb hp 3 rfl (d) (by omega) dX1_findCopy_57 (ws' := [oK kq q2 ks ln gp ek kc km kd kl, aI cI km 160 (upZ mks i (↑mm)), aI cI kd 160 (upZ dst i (↑xx)), aI cI kl 160 (upZ lk d (↑v)), oP q2 b2 o2 (↑n) (↑org) ent ed, aI cI b2 160 pb]) rfl (fun H locs hp => ?_)
          refine lv_aload_n hx hb dX1_findCopy_58 rfl (lv_at hl 2 rfl) ?_
          refine z_get hx hb hts hi1 hown hp 0 rfl rfl 8 (by decide) f31 rfl dX1_findCopy_59 ?_
          refine lv_iload_n hx hb dX1_findCopy_62 rfl (lv_at hl 0 rfl) ?_
          refine z_iald hx hb hp 3 rfl (d) (by omega) dX1_findCopy_63 (↑v) (upZ_s _ _ _) ?_
          refine z_sipush hx hb dX1_findCopy_64 (by decide +kernel) ?_
          refine z_mmin hx hb (by rw [hml]; exact hl.1.symm) hown m73 smin im cmin (Nat.le_of_ble_eq_true rfl) (Nat.le_of_ble_eq_true rfl) (Nat.le_of_ble_eq_true rfl) (Nat.le_of_ble_eq_true rfl) (↑(ca pb n i d)) (by omega) (by unfold ca; omega) dX1_findCopy_67 ?_
          refine lv_istore (lv' := [(4, .int (iZ (↑(ca pb n i d)))), (3, .int (iZ (↑d))), (2, .ref b2), (0, .ref kq), (1, .int (iZ (↑i)))]) hx hb dX1_findCopy_70 hl (by decide) rfl (fun ls hl => ?_)
          refine lv_iload hx hb dX1_findCopy_72 (lv_at hl 0 rfl) ?_
          refine z_iconst hx hb dX1_findCopy_74 ?_
          refine z_icmp_le (tgt := 104) hx hb dX1_findCopy_75 (by decide) (by omega) (fun h5 => ?_) (fun h5 => ?_)
          · skip
            refine z_iinc (k := 1) (lv' := [(3, .int (iZ (↑(d + 1)))), (4, .int (iZ (↑(ca pb n i d)))), (2, .ref b2), (0, .ref kq), (1, .int (iZ (↑i)))]) hx hb (↑(d + 1)) (by omega) dX1_findCopy_104 hl rfl (by decide) rfl (fun ls hl => ?_)
            refine lv_goto (tgt := 24) hx hb dX1_findCopy_107 (by decide) ?_
            exact ih_lp1 (d + 1) mm xx (upZ lk d (↑v)) _ _ _ (by omega) (by omega) (FCp_keep hF (by omega)) (fun e h1 h2 => by unfold upZ; by_cases q : e = d; rw [if_pos q, q, hv]; rw [if_neg q]; exact hl1 e h1 (by omega)) (fun e h1 h2 => by rw [upZ_n _ _ (by omega)]; exact hl2 e (by omega) h2) (by omega) hp (lv_sub hl [0, 2, 3, 4] rfl)
          · skip
            refine lv_iload hx hb dX1_findCopy_78 (lv_at hl 0 rfl) ?_
            refine lv_aload_n hx hb dX1_findCopy_80 rfl (lv_at hl 3 rfl) ?_
            refine z_get hx hb hts hi1 hown hp 0 rfl rfl 6 (by decide) f25 rfl dX1_findCopy_81 ?_
            refine lv_iload_n hx hb dX1_findCopy_84 rfl (lv_at hl 4 rfl) ?_
            refine z_iald hx hb hp 1 rfl (i) (by omega) dX1_findCopy_85 (↑mm) (upZ_s _ _ _) ?_
            refine z_icmp_le (tgt := 104) hx hb dX1_findCopy_86 (by decide) (by omega) (fun h6 => ?_) (fun h6 => ?_)
            · skip
              refine z_iinc (k := 1) (lv' := [(3, .int (iZ (↑(d + 1)))), (4, .int (iZ (↑(ca pb n i d)))), (2, .ref b2), (0, .ref kq), (1, .int (iZ (↑i)))]) hx hb (↑(d + 1)) (by omega) dX1_findCopy_104 hl rfl (by decide) rfl (fun ls hl => ?_)
              refine lv_goto (tgt := 24) hx hb dX1_findCopy_107 (by decide) ?_
              exact ih_lp1 (d + 1) mm xx (upZ lk d (↑v)) _ _ _ (by omega) (by omega) (FCp_keep hF (by omega)) (fun e h1 h2 => by unfold upZ; by_cases q : e = d; rw [if_pos q, q, hv]; rw [if_neg q]; exact hl1 e h1 (by omega)) (fun e h1 h2 => by rw [upZ_n _ _ (by omega)]; exact hl2 e (by omega) h2) (by omega) hp (lv_sub hl [0, 2, 3, 4] rfl)
            · skip
              refine lv_aload_n hx hb dX1_findCopy_89 rfl (lv_at hl 3 rfl) ?_
              refine z_get hx hb hts hi1 hown hp 0 rfl rfl 6 (by decide) f25 rfl dX1_findCopy_90 ?_
              refine lv_iload_n hx hb dX1_findCopy_93 rfl (lv_at hl 4 rfl) ?_
              refine lv_iload hx hb dX1_findCopy_94 (lv_at hl 0 rfl) ?_
              refine z_iast hx hb hp 1 rfl (i) (by omega) dX1_findCopy_96 (ws' := [oK kq q2 ks ln gp ek kc km kd kl, aI cI km 160 (upZ (upZ mks i (↑mm)) i (↑(ca pb n i d))), aI cI kd 160 (upZ dst i (↑xx)), aI cI kl 160 (upZ lk d (↑v)), oP q2 b2 o2 (↑n) (↑org) ent ed, aI cI b2 160 pb]) rfl (fun H locs hp => ?_)
              have hp := z_alike hp 1 rfl (upZ mks i (↑(ca pb n i d))) (fun j _ => by rw [upZ_u]) (ws' := [oK kq q2 ks ln gp ek kc km kd kl, aI cI km 160 (upZ mks i (↑(ca pb n i d))), aI cI kd 160 (upZ dst i (↑xx)), aI cI kl 160 (upZ lk d (↑v)), oP q2 b2 o2 (↑n) (↑org) ent ed, aI cI b2 160 pb]) rfl
              refine lv_aload_n hx hb dX1_findCopy_97 rfl (lv_at hl 3 rfl) ?_
              refine z_get hx hb hts hi1 hown hp 0 rfl rfl 7 (by decide) f28 rfl dX1_findCopy_98 ?_
              refine lv_iload_n hx hb dX1_findCopy_101 rfl (lv_at hl 4 rfl) ?_
              refine lv_iload_n hx hb dX1_findCopy_102 rfl (lv_at hl 1 rfl) ?_
              refine z_iast hx hb hp 2 rfl (i) (by omega) dX1_findCopy_103 (ws' := [oK kq q2 ks ln gp ek kc km kd kl, aI cI km 160 (upZ mks i (↑(ca pb n i d))), aI cI kd 160 (upZ (upZ dst i (↑xx)) i (↑d)), aI cI kl 160 (upZ lk d (↑v)), oP q2 b2 o2 (↑n) (↑org) ent ed, aI cI b2 160 pb]) rfl (fun H locs hp => ?_)
              have hp := z_alike hp 2 rfl (upZ dst i (↑d)) (fun j _ => by rw [upZ_u]) (ws' := [oK kq q2 ks ln gp ek kc km kd kl, aI cI km 160 (upZ mks i (↑(ca pb n i d))), aI cI kd 160 (upZ dst i (↑d)), aI cI kl 160 (upZ lk d (↑v)), oP q2 b2 o2 (↑n) (↑org) ent ed, aI cI b2 160 pb]) rfl
              refine z_iinc (k := 1) (lv' := [(3, .int (iZ (↑(d + 1)))), (4, .int (iZ (↑(ca pb n i d)))), (2, .ref b2), (0, .ref kq), (1, .int (iZ (↑i)))]) hx hb (↑(d + 1)) (by omega) dX1_findCopy_104 hl rfl (by decide) rfl (fun ls hl => ?_)
              refine lv_goto (tgt := 24) hx hb dX1_findCopy_107 (by decide) ?_
              exact ih_lp1 (d + 1) (ca pb n i d) d (upZ lk d (↑v)) _ _ _ (by omega) (by omega) (FCp_up (by omega) hF (by omega) (by omega)) (fun e h1 h2 => by unfold upZ; by_cases q : e = d; rw [if_pos q, q, hv]; rw [if_neg q]; exact hl1 e h1 (by omega)) (fun e h1 h2 => by rw [upZ_n _ _ (by omega)]; exact hl2 e (by omega) h2) (by omega) hp (lv_sub hl [0, 2, 3, 4] rfl)
        refine lv_aload_n hx hb dX1_findCopy_29 rfl (lv_at hl 2 rfl) ?_
        refine z_get hx hb hts hi1 hown hp 0 rfl rfl 8 (by decide) f31 rfl dX1_findCopy_30 ?_
        refine lv_iload_n hx hb dX1_findCopy_33 rfl (lv_at hl 0 rfl) ?_
        refine lv_aload_n hx hb dX1_findCopy_34 rfl (lv_at hl 1 rfl) ?_
        refine lv_iload_n hx hb dX1_findCopy_35 rfl (lv_at hl 3 rfl) ?_
        refine z_iald hx hb hp 5 rfl (i) (by omega) dX1_findCopy_36 (pb i) (rfl) ?_
        refine lv_aload_n hx hb dX1_findCopy_37 rfl (lv_at hl 1 rfl) ?_
        refine lv_iload_n hx hb dX1_findCopy_38 rfl (lv_at hl 3 rfl) ?_
        refine lv_iload_n hx hb dX1_findCopy_39 rfl (lv_at hl 0 rfl) ?_
        refine z_isub hx hb ((↑i) - (↑d)) (rfl) dX1_findCopy_40 ?_
        refine z_iald hx hb hp 5 rfl (i - d) (by omega) dX1_findCopy_41 (pb (i - d)) (rfl) ?_
        refine z_icmp_ne (tgt := 56) hx hb dX1_findCopy_42 (by decide) (by omega) (fun h7 => ?_) (fun h7 => ?_)
        · skip
          refine z_iconst hx hb dX1_findCopy_56 ?_
          exact jn3 0 _ _ _ (by rw [al_s (i := i) d h_i, if_neg (fun q => absurd q.2 (by omega))]) hp (lv_sub hl [0, 1, 2, 3] rfl)
        · skip
          refine lv_aload_n hx hb dX1_findCopy_45 rfl (lv_at hl 2 rfl) ?_
          refine z_get hx hb hts hi1 hown hp 0 rfl rfl 8 (by decide) f31 rfl dX1_findCopy_46 ?_
          refine lv_iload_n hx hb dX1_findCopy_49 rfl (lv_at hl 0 rfl) ?_
          refine z_iald hx hb hp 3 rfl (d) (by omega) dX1_findCopy_50 (lk d) (rfl) ?_
          refine z_iconst hx hb dX1_findCopy_51 ?_
          refine z_iadd hx hb (↑(al pb n (i + 1) d + 1)) (by omega) dX1_findCopy_52 ?_
          refine lv_goto (tgt := 57) hx hb dX1_findCopy_53 (by decide) ?_
          exact jn3 (al pb n (i + 1) d + 1) _ _ _ (by rw [al_s (i := i) d h_i, if_pos ⟨by omega, by omega⟩]) hp (lv_sub hl [0, 1, 2, 3] rfl)
  exact lp1 _ 1 0 0 lks _ _ _ (by omega) (by omega) (FCp_1 pb n i) (fun e h1 h2 => by omega) (fun e h1 h2 => h_l e h1 h2) (Nat.lt_succ_self _) hp (lv_sub hl [0, 1, 2, 3] rfl)
abbrev rmX1_chooseToken : Room := { frames := 1, cells := 0, slots := 0, locals := 40 }
set_option maxRecDepth 100000 in
set_option maxHeartbeats 4000000 in
theorem c_X1_chooseToken (l : Launch) (G : va_G) (cI : ClassId) (sz : Nat) (kq ks kc km kd kl : Nat) (q2 b2 o2 : Nat) (mks dst cst pb : Nat → Int) (n org i mm xx : Nat) (ln gp ek ent ed : Int) (h_n : n ≤ 160) (h_i : i < n) (h_m : mks i = ↑mm) (h_x : dst i = ↑xx) (h_f : FC pb n i mm xx) (h_c : ∀ j, i < j → j ≤ n → 1 ≤ cst j ∧ cst j ≤ 400) : Met l yX1_chooseToken wsX1_chooseToken rmX1_chooseToken (zPre G cI [oK kq q2 ks ln gp ek kc km kd kl, aI cI kc 161 cst, aI cI km 160 mks, aI cI kd 160 dst, oP q2 b2 o2 (↑n) (↑org) ent ed] sz [.ref kq, .int (iZ (↑i))]) (va_Qv (fun (u : Int × Int × Int) => PSi pb n cst i u.1 u.2.1 u.2.2) (fun (u : Int × Int × Int) t => zB G cI (va_A [oK kq q2 ks ln gp ek kc km kd kl, aI cI kc 161 cst, aI cI km 160 mks, aI cI kd 160 dst, oP q2 b2 o2 (↑n) (↑org) ent ed] sz) [oK kq q2 ks ln gp ek kc km kd kl, aI cI kc 161 (upZ cst i u.2.2), aI cI km 160 (upZ mks i u.1), aI cI kd 160 (upZ dst i u.2.1), oP q2 b2 o2 (↑n) (↑org) ent ed] t) (va_A [oK kq q2 ks ln gp ek kc km kd kl, aI cI kc 161 cst, aI cI km 160 mks, aI cI kd 160 dst, oP q2 b2 o2 (↑n) (↑org) ent ed] sz)) 0 0 (va_A [oK kq q2 ks ln gp ek kc km kd kl, aI cI kc 161 cst, aI cI km 160 mks, aI cI kd 160 dst, oP q2 b2 o2 (↑n) (↑org) ent ed] sz) := by
  refine zm_v (W1 := fun (u : Int × Int × Int) => [oK kq q2 ks ln gp ek kc km kd kl, aI cI kc 161 (upZ cst i u.2.2), aI cI km 160 (upZ mks i u.1), aI cI kd 160 (upZ dst i u.2.1), oP q2 b2 o2 (↑n) (↑org) ent ed]) (cc := cX1_chooseToken) (maxL := 6) (by decide) rfl (Nat.le_of_ble_eq_true rfl) ?_
  intro p e s m args below meth c A Q ls hsz hx hb hml hown hts hnm hret hp hl
  have hl : lv_has ls 6 [(0, .ref kq), (1, .int (iZ (↑i)))] := hl
  have hi1 : ∀ w ∈ wsX10, w ∈ wsX1_chooseToken := fun w h => List.mem_cons_of_mem _ (List.mem_append_left _ (List.mem_append_right _ (h)))
  have f12 := hts (.fieldLink RX1 12 "SelfOpener$Packing" "program" "LSelfOpener$Program;") (List.mem_of_getElem? (i := 4) rfl)
  have hi2 : ∀ w ∈ wsX20, w ∈ wsX1_chooseToken := fun w h => List.mem_cons_of_mem _ (List.mem_append_right _ (h))
  have f41 := hts (.fieldLink RX1 41 "SelfOpener$Program" "size" "I") (List.mem_of_getElem? (i := 5) rfl)
  have m73 := hts (.methodLink RX1 73 Lib.Math.min.name) (List.mem_of_getElem? (i := 6) rfl)
  have smin := hts (.static Lib.Math.min.name) (List.mem_of_getElem? (i := 7) rfl)
  have im := hts (.initialized "java/lang/Math") (List.mem_of_getElem? (i := 8) rfl)
  have cmin := hts (.code Lib.Math.min.name Lib.Math.min.code 2 (some .int)) (List.mem_of_getElem? (i := 9) rfl)
  have f22 := hts (.fieldLink RX1 22 "SelfOpener$Packing" "cost" "[I") (List.mem_of_getElem? (i := 2) rfl)
  have f25 := hts (.fieldLink RX1 25 "SelfOpener$Packing" "makes" "[I") (List.mem_of_getElem? (i := 3) rfl)
  have f28 := hts (.fieldLink RX1 28 "SelfOpener$Packing" "distance" "[I") (List.mem_of_getElem? (i := 1) rfl)
  have hm := FC_le h_i h_f
  have hmx : (xx = 0 ∧ mm = 0) ∨ (1 ≤ xx ∧ 2 ≤ mm) := by
    rcases h_f with ⟨e1, e2, -⟩ | ⟨e1, e2, -⟩
    · exact Or.inl ⟨e2, e1⟩
    · exact Or.inr ⟨e2, e1⟩
  suffices hw : ∀ (H : Heap) (locs : List Loc), Hp G cI A s H locs [oK kq q2 ks ln gp ek kc km kd kl, aI cI kc 161 cst, aI cI km 160 mks, aI cI kd 160 dst, oP q2 b2 o2 (↑n) (↑org) ent ed] → W p l e rmX1_chooseToken s m args below meth c H locs 0 0 Q (F0 m 0 ls []) from hw _ _ hp
  clear hp; intro H locs hp
  have jn1 : ∀ (b0 : Int) (H : Heap) (locs : List Loc) (ls : Array Slot), ((xx = 0 → b0 = 1000) ∧ (0 < xx → b0 = 2 + cst (i + mm))) → (1 ≤ b0 ∧ b0 ≤ 1000) → Hp G cI A s H locs [oK kq q2 ks ln gp ek kc km kd kl, aI cI kc 161 cst, aI cI km 160 mks, aI cI kd 160 dst, oP q2 b2 o2 (↑n) (↑org) ent ed] → lv_has ls 6 [(0, .ref kq), (1, .int (iZ (↑i)))] → W p l e rmX1_chooseToken s m args below meth c H locs 0 0 Q (F0 m 30 ls [.int (iZ (b0))]) := by
    intro b0 H locs ls hb0 hb1 hp hl
    refine lv_istore_n (lv' := [(2, .int (iZ (b0))), (0, .ref kq), (1, .int (iZ (↑i)))]) hx hb dX1_chooseToken_30 rfl hl (by decide) rfl (fun ls hl => ?_)
    refine z_bipush hx hb dX1_chooseToken_31 (by decide +kernel) ?_
    refine lv_aload_n hx hb dX1_chooseToken_33 rfl (lv_at hl 1 rfl) ?_
    refine z_get hx hb hts hi1 hown hp 0 rfl rfl 0 (by decide) f12 rfl dX1_chooseToken_34 ?_
    refine z_get hx hb hts hi2 hown hp 4 rfl rfl 2 (by decide) f41 rfl dX1_chooseToken_37 ?_
    refine lv_iload_n hx hb dX1_chooseToken_40 rfl (lv_at hl 2 rfl) ?_
    refine z_isub hx hb ((↑n) - (↑i)) (rfl) dX1_chooseToken_41 ?_
    refine z_mmin hx hb (by rw [hml]; exact hl.1.symm) hown m73 smin im cmin (Nat.le_of_ble_eq_true rfl) (Nat.le_of_ble_eq_true rfl) (Nat.le_of_ble_eq_true rfl) (Nat.le_of_ble_eq_true rfl) (min 127 ((↑n) - (↑i))) (by omega) (by omega) dX1_chooseToken_42 ?_
    refine lv_istore_n (lv' := [(3, .int (iZ (min 127 ((↑n) - (↑i))))), (2, .int (iZ (b0))), (0, .ref kq), (1, .int (iZ (↑i)))]) hx hb dX1_chooseToken_45 rfl hl (by decide) rfl (fun ls hl => ?_)
    have hp := z_alike hp 2 rfl (upZ mks i (if 0 = 0 then (mm : Int) else ((0 : Nat) : Int))) (fun j _ => by rw [if_pos rfl, upZ_same h_m]) (ws' := [oK kq q2 ks ln gp ek kc km kd kl, aI cI kc 161 cst, aI cI km 160 (upZ mks i (if 0 = 0 then (mm : Int) else ((0 : Nat) : Int))), aI cI kd 160 dst, oP q2 b2 o2 (↑n) (↑org) ent ed]) rfl
    have hp := z_alike hp 3 rfl (upZ dst i (if 0 = 0 then (xx : Int) else 0)) (fun j _ => by rw [if_pos rfl, upZ_same h_x]) (ws' := [oK kq q2 ks ln gp ek kc km kd kl, aI cI kc 161 cst, aI cI km 160 (upZ mks i (if 0 = 0 then (mm : Int) else ((0 : Nat) : Int))), aI cI kd 160 (upZ dst i (if 0 = 0 then (xx : Int) else 0)), oP q2 b2 o2 (↑n) (↑org) ent ed]) rfl
    refine z_iconst hx hb dX1_chooseToken_46 ?_
    refine lv_istore (lv' := [(4, .int (iZ (1))), (3, .int (iZ (min 127 ((↑n) - (↑i))))), (2, .int (iZ (b0))), (0, .ref kq), (1, .int (iZ (↑i)))]) hx hb dX1_chooseToken_47 hl (by decide) rfl (fun ls hl => ?_)
    have lp4 : ∀ (N_lp4 : Nat) (t r : Nat) (b : Int) (H : Heap) (locs : List Loc) (ls : Array Slot), (1 ≤ t) → (t ≤ 128) → (i + t ≤ n + 1) → (CTi cst i t r b b0) → (1 ≤ b ∧ b ≤ 1000) → (129 - t) < N_lp4 → Hp G cI A s H locs [oK kq q2 ks ln gp ek kc km kd kl, aI cI kc 161 cst, aI cI km 160 (upZ mks i (if r = 0 then (mm : Int) else (r : Int))), aI cI kd 160 (upZ dst i (if r = 0 then (xx : Int) else 0)), oP q2 b2 o2 (↑n) (↑org) ent ed] → lv_has ls 6 [(4, .int (iZ (↑t))), (2, .int (iZ (b))), (3, .int (iZ (min 127 ((↑n) - (↑i))))), (0, .ref kq), (1, .int (iZ (↑i)))] → W p l e rmX1_chooseToken s m args below meth c H locs 0 0 Q (F0 m 49 ls []) := by
      intro N_lp4
      induction N_lp4 with
      | zero => intros; exfalso; omega
      | succ N_lp4 ih_lp4 =>
        intro t r b H locs ls ht1 ht2 ht3 hT hbb hN hp hl
        refine lv_iload hx hb dX1_chooseToken_49 (lv_at hl 0 rfl) ?_
        refine lv_iload_n hx hb dX1_chooseToken_51 rfl (lv_at hl 2 rfl) ?_
        refine z_icmp_gt (tgt := 101) hx hb dX1_chooseToken_52 (by decide) (by omega) (fun h5 => ?_) (fun h5 => ?_)
        · skip
          refine lv_aload_n hx hb dX1_chooseToken_101 rfl (lv_at hl 3 rfl) ?_
          refine z_get hx hb hts hi1 hown hp 0 rfl rfl 5 (by decide) f22 rfl dX1_chooseToken_102 ?_
          refine lv_iload_n hx hb dX1_chooseToken_105 rfl (lv_at hl 4 rfl) ?_
          refine lv_iload_n hx hb dX1_chooseToken_106 rfl (lv_at hl 1 rfl) ?_
          refine z_iast hx hb hp 1 rfl (i) (by omega) dX1_chooseToken_107 (ws' := [oK kq q2 ks ln gp ek kc km kd kl, aI cI kc 161 (upZ cst i b), aI cI km 160 (upZ mks i (if r = 0 then (mm : Int) else (r : Int))), aI cI kd 160 (upZ dst i (if r = 0 then (xx : Int) else 0)), oP q2 b2 o2 (↑n) (↑org) ent ed]) rfl (fun H locs hp => ?_)
          exact hret _ _ _ _ _ _ (if r = 0 then (mm : Int) else (r : Int), if r = 0 then (xx : Int) else 0, b) (CTi_end h_i h_f hb0 (h_c (i + 1) (by omega) (by omega)).2 (fun q q1 q2 => by omega) ht2 ht3 hT) hp dX1_chooseToken_108 (Nat.le_of_ble_eq_true rfl) (Nat.le_of_ble_eq_true rfl)
        · skip
          have hct := h_c (i + t) (by omega) (by omega)
          refine z_iconst hx hb dX1_chooseToken_55 ?_
          refine lv_iload hx hb dX1_chooseToken_56 (lv_at hl 0 rfl) ?_
          refine z_iadd hx hb (1 + (↑t)) (rfl) dX1_chooseToken_58 ?_
          refine lv_aload_n hx hb dX1_chooseToken_59 rfl (lv_at hl 3 rfl) ?_
          refine z_get hx hb hts hi1 hown hp 0 rfl rfl 5 (by decide) f22 rfl dX1_chooseToken_60 ?_
          refine lv_iload_n hx hb dX1_chooseToken_63 rfl (lv_at hl 4 rfl) ?_
          refine lv_iload hx hb dX1_chooseToken_64 (lv_at hl 0 rfl) ?_
          refine z_iadd hx hb (↑(i + t)) (by omega) dX1_chooseToken_66 ?_
          refine z_iald hx hb hp 1 rfl (i + t) (by omega) dX1_chooseToken_67 (cst (i + t)) (rfl) ?_
          refine z_iadd hx hb (1 + ↑t + cst (i + t)) (rfl) dX1_chooseToken_68 ?_
          refine lv_istore (lv' := [(5, .int (iZ (1 + ↑t + cst (i + t)))), (4, .int (iZ (↑t))), (2, .int (iZ (b))), (3, .int (iZ (min 127 ((↑n) - (↑i))))), (0, .ref kq), (1, .int (iZ (↑i)))]) hx hb dX1_chooseToken_69 hl (by decide) rfl (fun ls hl => ?_)
          refine lv_iload hx hb dX1_chooseToken_71 (lv_at hl 0 rfl) ?_
          refine lv_iload_n hx hb dX1_chooseToken_73 rfl (lv_at hl 2 rfl) ?_
          refine z_icmp_ge (tgt := 95) hx hb dX1_chooseToken_74 (by decide) (by omega) (fun h6 => ?_) (fun h6 => ?_)
          · skip
            refine z_iinc (k := 1) (lv' := [(4, .int (iZ (↑(t + 1)))), (5, .int (iZ (1 + ↑t + cst (i + t)))), (2, .int (iZ (b))), (3, .int (iZ (min 127 ((↑n) - (↑i))))), (0, .ref kq), (1, .int (iZ (↑i)))]) hx hb (↑(t + 1)) (by omega) dX1_chooseToken_95 hl rfl (by decide) rfl (fun ls hl => ?_)
            refine lv_goto (tgt := 49) hx hb dX1_chooseToken_98 (by decide) ?_
            exact ih_lp4 (t + 1) r b _ _ _ (by omega) (by omega) (by omega) (CTi_keep hT (by omega)) (by omega) (by omega) hp (lv_sub hl [0, 2, 3, 4, 5] rfl)
          · skip
            refine lv_iload hx hb dX1_chooseToken_77 (lv_at hl 0 rfl) ?_
            refine lv_istore_n (lv' := [(2, .int (iZ (1 + ↑t + cst (i + t)))), (5, .int (iZ (1 + ↑t + cst (i + t)))), (4, .int (iZ (↑t))), (3, .int (iZ (min 127 ((↑n) - (↑i))))), (0, .ref kq), (1, .int (iZ (↑i)))]) hx hb dX1_chooseToken_79 rfl hl (by decide) rfl (fun ls hl => ?_)
            refine lv_aload_n hx hb dX1_chooseToken_80 rfl (lv_at hl 4 rfl) ?_
            refine z_get hx hb hts hi1 hown hp 0 rfl rfl 6 (by decide) f25 rfl dX1_chooseToken_81 ?_
            refine lv_iload_n hx hb dX1_chooseToken_84 rfl (lv_at hl 5 rfl) ?_
            refine lv_iload hx hb dX1_chooseToken_85 (lv_at hl 2 rfl) ?_
            refine z_iast hx hb hp 2 rfl (i) (by omega) dX1_chooseToken_87 (ws' := [oK kq q2 ks ln gp ek kc km kd kl, aI cI kc 161 cst, aI cI km 160 (upZ (upZ mks i (if r = 0 then (mm : Int) else (r : Int))) i (↑t)), aI cI kd 160 (upZ dst i (if r = 0 then (xx : Int) else 0)), oP q2 b2 o2 (↑n) (↑org) ent ed]) rfl (fun H locs hp => ?_)
            have hp := z_alike hp 2 rfl (upZ mks i (if t = 0 then (mm : Int) else (t : Int))) (fun j _ => by rw [upZ_u, if_neg (by omega)]) (ws' := [oK kq q2 ks ln gp ek kc km kd kl, aI cI kc 161 cst, aI cI km 160 (upZ mks i (if t = 0 then (mm : Int) else (t : Int))), aI cI kd 160 (upZ dst i (if r = 0 then (xx : Int) else 0)), oP q2 b2 o2 (↑n) (↑org) ent ed]) rfl
            refine lv_aload_n hx hb dX1_chooseToken_88 rfl (lv_at hl 4 rfl) ?_
            refine z_get hx hb hts hi1 hown hp 0 rfl rfl 7 (by decide) f28 rfl dX1_chooseToken_89 ?_
            refine lv_iload_n hx hb dX1_chooseToken_92 rfl (lv_at hl 5 rfl) ?_
            refine z_iconst hx hb dX1_chooseToken_93 ?_
            refine z_iast hx hb hp 3 rfl (i) (by omega) dX1_chooseToken_94 (ws' := [oK kq q2 ks ln gp ek kc km kd kl, aI cI kc 161 cst, aI cI km 160 (upZ mks i (if t = 0 then (mm : Int) else (t : Int))), aI cI kd 160 (upZ (upZ dst i (if r = 0 then (xx : Int) else 0)) i 0), oP q2 b2 o2 (↑n) (↑org) ent ed]) rfl (fun H locs hp => ?_)
            have hp := z_alike hp 3 rfl (upZ dst i (if t = 0 then (xx : Int) else 0)) (fun j _ => by rw [upZ_u, if_neg (by omega)]) (ws' := [oK kq q2 ks ln gp ek kc km kd kl, aI cI kc 161 cst, aI cI km 160 (upZ mks i (if t = 0 then (mm : Int) else (t : Int))), aI cI kd 160 (upZ dst i (if t = 0 then (xx : Int) else 0)), oP q2 b2 o2 (↑n) (↑org) ent ed]) rfl
            refine z_iinc (k := 2) (lv' := [(4, .int (iZ (↑(t + 1)))), (2, .int (iZ (1 + ↑t + cst (i + t)))), (5, .int (iZ (1 + ↑t + cst (i + t)))), (3, .int (iZ (min 127 ((↑n) - (↑i))))), (0, .ref kq), (1, .int (iZ (↑i)))]) hx hb (↑(t + 1)) (by omega) dX1_chooseToken_95 hl rfl (by decide) rfl (fun ls hl => ?_)
            refine lv_goto (tgt := 49) hx hb dX1_chooseToken_98 (by decide) ?_
            exact ih_lp4 (t + 1) t (1 + ↑t + cst (i + t)) _ _ _ (by omega) (by omega) (by omega) (CTi_up ht1 hT (by omega)) (by omega) (by omega) hp (lv_sub hl [0, 1, 3, 4, 5] rfl)
    exact lp4 _ 1 0 b0 _ _ _ (by omega) (by omega) (by omega) (CTi_0 _ _ _) (hb1) (Nat.lt_succ_self _) hp (lv_sub hl [0, 2, 1, 3, 4] rfl)
  refine lv_aload_n hx hb dX1_chooseToken_0 rfl (lv_at hl 0 rfl) ?_
  refine z_get hx hb hts hi1 hown hp 0 rfl rfl 7 (by decide) f28 rfl dX1_chooseToken_1 ?_
  refine lv_iload_n hx hb dX1_chooseToken_4 rfl (lv_at hl 1 rfl) ?_
  refine z_iald hx hb hp 3 rfl (i) (by omega) dX1_chooseToken_5 (↑xx) (h_x) ?_
  refine z_if_le (tgt := 27) hx hb dX1_chooseToken_6 (by decide) (by omega) (fun h7 => ?_) (fun h7 => ?_)
  · skip
    refine z_sipush hx hb dX1_chooseToken_27 (by decide +kernel) ?_
    exact jn1 1000 _ _ _ (⟨fun _ => rfl, fun q => by omega⟩) (by omega) hp (lv_sub hl [0, 1] rfl)
  · skip
    refine z_iconst hx hb dX1_chooseToken_9 ?_
    refine lv_aload_n hx hb dX1_chooseToken_10 rfl (lv_at hl 0 rfl) ?_
    refine z_get hx hb hts hi1 hown hp 0 rfl rfl 5 (by decide) f22 rfl dX1_chooseToken_11 ?_
    refine lv_iload_n hx hb dX1_chooseToken_14 rfl (lv_at hl 1 rfl) ?_
    refine lv_aload_n hx hb dX1_chooseToken_15 rfl (lv_at hl 0 rfl) ?_
    refine z_get hx hb hts hi1 hown hp 0 rfl rfl 6 (by decide) f25 rfl dX1_chooseToken_16 ?_
    refine lv_iload_n hx hb dX1_chooseToken_19 rfl (lv_at hl 1 rfl) ?_
    refine z_iald hx hb hp 2 rfl (i) (by omega) dX1_chooseToken_20 (↑mm) (h_m) ?_
    refine z_iadd hx hb (↑(i + mm)) (by omega) dX1_chooseToken_21 ?_
    refine z_iald hx hb hp 1 rfl (i + mm) (by omega) dX1_chooseToken_22 (cst (i + mm)) (rfl) ?_
    refine z_iadd hx hb (2 + (cst (i + mm))) (rfl) dX1_chooseToken_23 ?_
    refine lv_goto (tgt := 30) hx hb dX1_chooseToken_24 (by decide) ?_
    exact jn1 (2 + (cst (i + mm))) _ _ _ (⟨fun q => by omega, fun _ => rfl⟩) (by have := h_c (i + mm) (by omega) (by omega); omega) hp (lv_sub hl [0, 1] rfl)
