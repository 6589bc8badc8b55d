abbrev rmX2_init : Room := { frames := 1, cells := 2, slots := 320, locals := 12 }
set_option maxRecDepth 100000 in
set_option maxHeartbeats 4000000 in
theorem c_X2_init (l : Launch) (G : va_G) (cI : ClassId) (sz : Nat) (q2 : Nat)  : Met l yX2_init wsX2_init rmX2_init (zPre G cI [(q2, .inr (2, [.null, .null, .int (iZ (0)), .int (iZ (0)), .int (iZ (0)), .int (iZ (0))]))] sz [.ref q2]) (va_Qv (fun (u : Nat × Nat) => True) (fun (u : Nat × Nat) t => zB G cI (va_A [(q2, .inr (2, [.null, .null, .int (iZ (0)), .int (iZ (0)), .int (iZ (0)), .int (iZ (0))]))] sz) [oP q2 u.1 u.2 0 0 0 0, aI cI u.1 160 (fun _ => 0), aI cI u.2 160 (fun _ => 0)] t) (va_A [(q2, .inr (2, [.null, .null, .int (iZ (0)), .int (iZ (0)), .int (iZ (0)), .int (iZ (0))]))] sz)) 2 320 (va_A [(q2, .inr (2, [.null, .null, .int (iZ (0)), .int (iZ (0)), .int (iZ (0)), .int (iZ (0))]))] sz) := by
  refine zm_v (W1 := fun (u : Nat × Nat) => [oP q2 u.1 u.2 0 0 0 0, aI cI u.1 160 (fun _ => 0), aI cI u.2 160 (fun _ => 0)]) (cc := cX2_init) (maxL := 1) (by decide) rfl (Nat.le_of_ble_eq_true rfl) ?_
  intro p e s m args below meth c A Q ls hsz hx hb hml hown hts hnm hret hp hl
  have hl : lv_has ls 1 [(0, .ref q2)] := hl
  have m3 := hts (.methodLink RX2 3 objectInit) (List.mem_of_getElem? (i := 1) rfl)
  have io := hts (.instanceMethod objectInit) (List.mem_of_getElem? (i := 2) rfl)
  have co := hts (.code objectInit ⟨#[0xb1]⟩ 1 none) (List.mem_of_getElem? (i := 3) rfl)
  have ac := hts (.arrayClass .int) (List.mem_of_getElem? (i := 4) rfl)
  have hi2 : ∀ w ∈ wsX20, w ∈ wsX2_init := fun w h => List.mem_cons_of_mem _ (List.mem_append_right _ (h))
  have f9 := hts (.fieldLink RX2 9 "SelfOpener$Program" "bytes" "[I") (List.mem_of_getElem? (i := 5) rfl)
  have f15 := hts (.fieldLink RX2 15 "SelfOpener$Program" "opened" "[I") (List.mem_of_getElem? (i := 6) rfl)
  suffices hw : ∀ (H : Heap) (locs : List Loc), Hp G cI A s H locs [(q2, .inr (2, [.null, .null, .int (iZ (0)), .int (iZ (0)), .int (iZ (0)), .int (iZ (0))]))] → W p l e rmX2_init s m args below meth c H locs 0 0 Q (F0 m 0 ls []) from hw _ _ hp
  clear hp; intro H locs hp
  refine lv_aload_n hx hb dX2_init_0 rfl (lv_at hl 0 rfl) ?_
  refine W.objInit hx hb hown m3 io co rfl (by rw [hml]; exact hl.1) rfl dX2_init_1 (Nat.le_of_ble_eq_true rfl) (Nat.le_of_ble_eq_true rfl) ?_
  refine W.eq (g2 := F0 m 4 ls []) rfl ?_
  refine lv_aload_n hx hb dX2_init_4 rfl (lv_at hl 0 rfl) ?_
  refine z_sipush hx hb dX2_init_5 (by decide +kernel) ?_
  refine z_newa hx hb 160 ac hp (by decide) (by decide) rfl (Nat.le_of_ble_eq_true rfl) (Nat.le_of_ble_eq_true rfl) dX2_init_8 (fun b1 H hp => ?_)
  have hp : Hp G cI A s H locs [(q2, .inr (2, [.null, .null, .int (iZ (0)), .int (iZ (0)), .int (iZ (0)), .int (iZ (0))])), aI cI b1 160 (fun _ => 0)] := hp
  refine z_putF hx hb hts hi2 tyX2 tyX2_ok nmX2 hown hp 0 rfl rfl 0 (by decide) f9 rfl hnm rfl (rfl) (rfl) (Nat.le_of_ble_eq_true rfl) dX2_init_10 (ws' := [(q2, .inr (2, [.ref b1, .null, .int (iZ (0)), .int (iZ (0)), .int (iZ (0)), .int (iZ (0))])), aI cI b1 160 (fun _ => 0)]) rfl (fun H locs hp => ?_)
  refine lv_aload_n hx hb dX2_init_13 rfl (lv_at hl 0 rfl) ?_
  refine z_sipush hx hb dX2_init_14 (by decide +kernel) ?_
  refine z_newa hx hb 160 ac hp (by decide) (by decide) rfl (Nat.le_of_ble_eq_true rfl) (Nat.le_of_ble_eq_true rfl) dX2_init_17 (fun b3 H hp => ?_)
  have hp : Hp G cI A s H locs [(q2, .inr (2, [.ref b1, .null, .int (iZ (0)), .int (iZ (0)), .int (iZ (0)), .int (iZ (0))])), aI cI b1 160 (fun _ => 0), aI cI b3 160 (fun _ => 0)] := hp
  refine z_putF hx hb hts hi2 tyX2 tyX2_ok nmX2 hown hp 0 rfl rfl 1 (by decide) f15 rfl hnm rfl (rfl) (rfl) (Nat.le_of_ble_eq_true rfl) dX2_init_19 (ws' := [oP q2 b1 b3 0 0 0 0, aI cI b1 160 (fun _ => 0), aI cI b3 160 (fun _ => 0)]) rfl (fun H locs hp => ?_)
  exact hret _ _ _ _ _ _ (b1, b3) (trivial) hp dX2_init_22 (Nat.le_of_ble_eq_true rfl) (Nat.le_of_ble_eq_true rfl)
abbrev rmX2_hasRoom : Room := { frames := 0, cells := 0, slots := 0, locals := 0 }
set_option maxRecDepth 100000 in
set_option maxHeartbeats 4000000 in
theorem c_X2_hasRoom (l : Launch) (G : va_G) (cI : ClassId) (sz : Nat) (q2 b2 o2 : Nat) (n org : Nat) (ent ed : Int) (k : Int) (h_n : n ≤ 160) (h_k : rg k) : Met l yX2_hasRoom wsX2_hasRoom rmX2_hasRoom (zPre G cI [oP q2 b2 o2 (↑n) (↑org) ent ed] sz [.ref q2, .int (iZ (k))]) (va_Qi (fun (r : Int32) (u : Unit) => r = iZ (if k ≤ 160 - ↑n then 1 else 0)) (fun (u : Unit) t => zB G cI (va_A [oP q2 b2 o2 (↑n) (↑org) ent ed] sz) [oP q2 b2 o2 (↑n) (↑org) ent ed] t) (va_A [oP q2 b2 o2 (↑n) (↑org) ent ed] sz)) 0 0 (va_A [oP q2 b2 o2 (↑n) (↑org) ent ed] sz) := by
  refine zm_i (W1 := fun (u : Unit) => [oP q2 b2 o2 (↑n) (↑org) ent ed]) (cc := cX2_hasRoom) (maxL := 2) (ty := .boolean) (by decide) rfl (Nat.le_of_ble_eq_true rfl) ?_
  intro p e s m args below meth c A Q ls hsz hx hb hml hown hts hret hp hl
  have hl : lv_has ls 2 [(0, .ref q2), (1, .int (iZ (k)))] := hl
  have hi2 : ∀ w ∈ wsX20, w ∈ wsX2_hasRoom := fun w h => List.mem_cons_of_mem _ (List.mem_append_right _ (h))
  have f18 := hts (.fieldLink RX2 18 "SelfOpener$Program" "size" "I") (List.mem_of_getElem? (i := 1) rfl)
  suffices hw : ∀ (H : Heap) (locs : List Loc), Hp G cI A s H locs [oP q2 b2 o2 (↑n) (↑org) ent ed] → W p l e rmX2_hasRoom s m args below meth c H locs 0 0 Q (F0 m 0 ls []) from hw _ _ hp
  clear hp; intro H locs hp
  refine lv_iload_n hx hb dX2_hasRoom_0 rfl (lv_at hl 1 rfl) ?_
  refine z_sipush hx hb dX2_hasRoom_1 (by decide +kernel) ?_
  refine lv_aload_n hx hb dX2_hasRoom_4 rfl (lv_at hl 0 rfl) ?_
  refine z_get hx hb hts hi2 hown hp 0 rfl rfl 2 (by decide) f18 rfl dX2_hasRoom_5 ?_
  refine z_isub hx hb (160 - (↑n)) (rfl) dX2_hasRoom_8 ?_
  refine z_icmp_gt (tgt := 16) hx hb dX2_hasRoom_9 (by decide) (by omega) (fun h1 => ?_) (fun h1 => ?_)
  · skip
    refine z_iconst hx hb dX2_hasRoom_16 ?_
    exact hret _ _ _ _ _ _ _ () (congrArg iZ (by (repeat' split) <;> omega)) hp dX2_hasRoom_17 (by decide +kernel) (Nat.le_of_ble_eq_true rfl) (Nat.le_of_ble_eq_true rfl)
  · skip
    refine z_iconst hx hb dX2_hasRoom_12 ?_
    refine lv_goto (tgt := 17) hx hb dX2_hasRoom_13 (by decide) ?_
    exact hret _ _ _ _ _ _ _ () (congrArg iZ (by (repeat' split) <;> omega)) hp dX2_hasRoom_17 (by decide +kernel) (Nat.le_of_ble_eq_true rfl) (Nat.le_of_ble_eq_true rfl)
abbrev rmX2_fits : Room := { frames := 0, cells := 0, slots := 0, locals := 0 }
set_option maxRecDepth 100000 in
set_option maxHeartbeats 4000000 in
theorem c_X2_fits (l : Launch) (G : va_G) (cI : ClassId) (sz : Nat) (q2 b2 o2 : Nat) (n org : Nat) (ent ed : Int) (h_n : n ≤ 160) (h_o : org ≤ 256) : Met l yX2_fits wsX2_fits rmX2_fits (zPre G cI [oP q2 b2 o2 (↑n) (↑org) ent ed] sz [.ref q2]) (va_Qi (fun (r : Int32) (u : Unit) => r = iZ (if org + n ≤ 256 then 1 else 0)) (fun (u : Unit) t => zB G cI (va_A [oP q2 b2 o2 (↑n) (↑org) ent ed] sz) [oP q2 b2 o2 (↑n) (↑org) ent ed] t) (va_A [oP q2 b2 o2 (↑n) (↑org) ent ed] sz)) 0 0 (va_A [oP q2 b2 o2 (↑n) (↑org) ent ed] sz) := by
  refine zm_i (W1 := fun (u : Unit) => [oP q2 b2 o2 (↑n) (↑org) ent ed]) (cc := cX2_fits) (maxL := 1) (ty := .boolean) (by decide) rfl (Nat.le_of_ble_eq_true rfl) ?_
  intro p e s m args below meth c A Q ls hsz hx hb hml hown hts hret hp hl
  have hl : lv_has ls 1 [(0, .ref q2)] := hl
  have hi2 : ∀ w ∈ wsX20, w ∈ wsX2_fits := fun w h => List.mem_cons_of_mem _ (List.mem_append_right _ (h))
  have f22 := hts (.fieldLink RX2 22 "SelfOpener$Program" "origin" "I") (List.mem_of_getElem? (i := 1) rfl)
  have f18 := hts (.fieldLink RX2 18 "SelfOpener$Program" "size" "I") (List.mem_of_getElem? (i := 2) rfl)
  suffices hw : ∀ (H : Heap) (locs : List Loc), Hp G cI A s H locs [oP q2 b2 o2 (↑n) (↑org) ent ed] → W p l e rmX2_fits s m args below meth c H locs 0 0 Q (F0 m 0 ls []) from hw _ _ hp
  clear hp; intro H locs hp
  refine lv_aload_n hx hb dX2_fits_0 rfl (lv_at hl 0 rfl) ?_
  refine z_get hx hb hts hi2 hown hp 0 rfl rfl 3 (by decide) f22 rfl dX2_fits_1 ?_
  refine lv_aload_n hx hb dX2_fits_4 rfl (lv_at hl 0 rfl) ?_
  refine z_get hx hb hts hi2 hown hp 0 rfl rfl 2 (by decide) f18 rfl dX2_fits_5 ?_
  refine z_iadd hx hb ((↑org) + (↑n)) (rfl) dX2_fits_8 ?_
  refine z_sipush hx hb dX2_fits_9 (by decide +kernel) ?_
  refine z_icmp_gt (tgt := 19) hx hb dX2_fits_12 (by decide) (by omega) (fun h1 => ?_) (fun h1 => ?_)
  · skip
    refine z_iconst hx hb dX2_fits_19 ?_
    exact hret _ _ _ _ _ _ _ () (congrArg iZ (by (repeat' split) <;> omega)) hp dX2_fits_20 (by decide +kernel) (Nat.le_of_ble_eq_true rfl) (Nat.le_of_ble_eq_true rfl)
  · skip
    refine z_iconst hx hb dX2_fits_15 ?_
    refine lv_goto (tgt := 20) hx hb dX2_fits_16 (by decide) ?_
    exact hret _ _ _ _ _ _ _ () (congrArg iZ (by (repeat' split) <;> omega)) hp dX2_fits_20 (by decide +kernel) (Nat.le_of_ble_eq_true rfl) (Nat.le_of_ble_eq_true rfl)
abbrev rmX2_append : Room := { frames := 0, cells := 0, slots := 0, locals := 0 }
set_option maxRecDepth 100000 in
set_option maxHeartbeats 4000000 in
theorem c_X2_append (l : Launch) (G : va_G) (cI : ClassId) (sz : Nat) (q2 b2 o2 : Nat) (pb : Nat → Int) (n org : Nat) (ent ed : Int) (v : Int) (h_n : n < 160) : Met l yX2_append wsX2_append rmX2_append (zPre G cI [oP q2 b2 o2 (↑n) (↑org) ent ed, aI cI b2 160 pb] sz [.ref q2, .int (iZ (v))]) (va_Qv (fun (u : Unit) => True) (fun (u : Unit) t => zB G cI (va_A [oP q2 b2 o2 (↑n) (↑org) ent ed, aI cI b2 160 pb] sz) [oP q2 b2 o2 (↑(n + 1)) (↑org) ent (ed + 1), aI cI b2 160 (upZ pb n v)] t) (va_A [oP q2 b2 o2 (↑n) (↑org) ent ed, aI cI b2 160 pb] sz)) 0 0 (va_A [oP q2 b2 o2 (↑n) (↑org) ent ed, aI cI b2 160 pb] sz) := by
  refine zm_v (W1 := fun (u : Unit) => [oP q2 b2 o2 (↑(n + 1)) (↑org) ent (ed + 1), aI cI b2 160 (upZ pb n v)]) (cc := cX2_append) (maxL := 2) (by decide) rfl (Nat.le_of_ble_eq_true rfl) ?_
  intro p e s m args below meth c A Q ls hsz hx hb hml hown hts hnm hret hp hl
  have hl : lv_has ls 2 [(0, .ref q2), (1, .int (iZ (v)))] := hl
  have hi2 : ∀ w ∈ wsX20, w ∈ wsX2_append := fun w h => List.mem_cons_of_mem _ (List.mem_append_right _ (h))
  have f9 := hts (.fieldLink RX2 9 "SelfOpener$Program" "bytes" "[I") (List.mem_of_getElem? (i := 1) rfl)
  have f18 := hts (.fieldLink RX2 18 "SelfOpener$Program" "size" "I") (List.mem_of_getElem? (i := 2) rfl)
  have f25 := hts (.fieldLink RX2 25 "SelfOpener$Program" "edition" "I") (List.mem_of_getElem? (i := 3) rfl)
  suffices hw : ∀ (H : Heap) (locs : List Loc), Hp G cI A s H locs [oP q2 b2 o2 (↑n) (↑org) ent ed, aI cI b2 160 pb] → W p l e rmX2_append s m args below meth c H locs 0 0 Q (F0 m 0 ls []) from hw _ _ hp
  clear hp; intro H locs hp
  refine lv_aload_n hx hb dX2_append_0 rfl (lv_at hl 0 rfl) ?_
  refine z_get hx hb hts hi2 hown hp 0 rfl rfl 0 (by decide) f9 rfl dX2_append_1 ?_
  refine lv_aload_n hx hb dX2_append_4 rfl (lv_at hl 0 rfl) ?_
  refine z_get hx hb hts hi2 hown hp 0 rfl rfl 2 (by decide) f18 rfl dX2_append_5 ?_
  refine lv_iload_n hx hb dX2_append_8 rfl (lv_at hl 1 rfl) ?_
  refine z_iast hx hb hp 1 rfl (n) (by omega) dX2_append_9 (ws' := [oP q2 b2 o2 (↑n) (↑org) ent ed, aI cI b2 160 (upZ pb n v)]) rfl (fun H locs hp => ?_)
  refine lv_aload_n hx hb dX2_append_10 rfl (lv_at hl 0 rfl) ?_
  refine lv_dup hx hb dX2_append_11 rfl ?_
  refine z_get hx hb hts hi2 hown hp 0 rfl rfl 2 (by decide) f18 rfl dX2_append_12 ?_
  refine z_iconst hx hb dX2_append_15 ?_
  refine z_iadd hx hb (↑(n + 1)) (by omega) dX2_append_16 ?_
  refine z_put hx hb hts hi2 tyX2 tyX2_ok nmX2 hown hp 0 rfl rfl 2 (by decide) f18 rfl (rfl) (rfl) (Nat.le_of_ble_eq_true rfl) dX2_append_17 (ws' := [oP q2 b2 o2 (↑(n + 1)) (↑org) ent ed, aI cI b2 160 (upZ pb n v)]) rfl (fun H locs hp => ?_)
  refine lv_aload_n hx hb dX2_append_20 rfl (lv_at hl 0 rfl) ?_
  refine lv_dup hx hb dX2_append_21 rfl ?_
  refine z_get hx hb hts hi2 hown hp 0 rfl rfl 5 (by decide) f25 rfl dX2_append_22 ?_
  refine z_iconst hx hb dX2_append_25 ?_
  refine z_iadd hx hb (ed + 1) (rfl) dX2_append_26 ?_
  refine z_put hx hb hts hi2 tyX2 tyX2_ok nmX2 hown hp 0 rfl rfl 5 (by decide) f25 rfl (rfl) (rfl) (Nat.le_of_ble_eq_true rfl) dX2_append_27 (ws' := [oP q2 b2 o2 (↑(n + 1)) (↑org) ent (ed + 1), aI cI b2 160 (upZ pb n v)]) rfl (fun H locs hp => ?_)
  exact hret _ _ _ _ _ _ () (trivial) hp dX2_append_30 (Nat.le_of_ble_eq_true rfl) (Nat.le_of_ble_eq_true rfl)
abbrev rmX2_set : Room := { frames := 0, cells := 0, slots := 0, locals := 0 }
set_option maxRecDepth 100000 in
set_option maxHeartbeats 4000000 in
theorem c_X2_set (l : Launch) (G : va_G) (cI : ClassId) (sz : Nat) (q2 b2 o2 : Nat) (pb : Nat → Int) (n org : Nat) (ent ed : Int) (i : Nat) (v : Int) (h_i : i < 160) : Met l yX2_set wsX2_set rmX2_set (zPre G cI [oP q2 b2 o2 (↑n) (↑org) ent ed, aI cI b2 160 pb] sz [.ref q2, .int (iZ (↑i)), .int (iZ (v))]) (va_Qv (fun (u : Unit) => True) (fun (u : Unit) t => zB G cI (va_A [oP q2 b2 o2 (↑n) (↑org) ent ed, aI cI b2 160 pb] sz) [oP q2 b2 o2 (↑n) (↑org) ent (ed + 1), aI cI b2 160 (upZ pb i v)] t) (va_A [oP q2 b2 o2 (↑n) (↑org) ent ed, aI cI b2 160 pb] sz)) 0 0 (va_A [oP q2 b2 o2 (↑n) (↑org) ent ed, aI cI b2 160 pb] sz) := by
  refine zm_v (W1 := fun (u : Unit) => [oP q2 b2 o2 (↑n) (↑org) ent (ed + 1), aI cI b2 160 (upZ pb i v)]) (cc := cX2_set) (maxL := 3) (by decide) rfl (Nat.le_of_ble_eq_true rfl) ?_
  intro p e s m args below meth c A Q ls hsz hx hb hml hown hts hnm hret hp hl
  have hl : lv_has ls 3 [(0, .ref q2), (1, .int (iZ (↑i))), (2, .int (iZ (v)))] := hl
  have hi2 : ∀ w ∈ wsX20, w ∈ wsX2_set := fun w h => List.mem_cons_of_mem _ (List.mem_append_right _ (h))
  have f9 := hts (.fieldLink RX2 9 "SelfOpener$Program" "bytes" "[I") (List.mem_of_getElem? (i := 1) rfl)
  have f25 := hts (.fieldLink RX2 25 "SelfOpener$Program" "edition" "I") (List.mem_of_getElem? (i := 2) rfl)
  suffices hw : ∀ (H : Heap) (locs : List Loc), Hp G cI A s H locs [oP q2 b2 o2 (↑n) (↑org) ent ed, aI cI b2 160 pb] → W p l e rmX2_set s m args below meth c H locs 0 0 Q (F0 m 0 ls []) from hw _ _ hp
  clear hp; intro H locs hp
  refine lv_aload_n hx hb dX2_set_0 rfl (lv_at hl 0 rfl) ?_
  refine z_get hx hb hts hi2 hown hp 0 rfl rfl 0 (by decide) f9 rfl dX2_set_1 ?_
  refine lv_iload_n hx hb dX2_set_4 rfl (lv_at hl 1 rfl) ?_
  refine lv_iload_n hx hb dX2_set_5 rfl (lv_at hl 2 rfl) ?_
  refine z_iast hx hb hp 1 rfl (i) (by omega) dX2_set_6 (ws' := [oP q2 b2 o2 (↑n) (↑org) ent ed, aI cI b2 160 (upZ pb i v)]) rfl (fun H locs hp => ?_)
  refine lv_aload_n hx hb dX2_set_7 rfl (lv_at hl 0 rfl) ?_
  refine lv_dup hx hb dX2_set_8 rfl ?_
  refine z_get hx hb hts hi2 hown hp 0 rfl rfl 5 (by decide) f25 rfl dX2_set_9 ?_
  refine z_iconst hx hb dX2_set_12 ?_
  refine z_iadd hx hb (ed + 1) (rfl) dX2_set_13 ?_
  refine z_put hx hb hts hi2 tyX2 tyX2_ok nmX2 hown hp 0 rfl rfl 5 (by decide) f25 rfl (rfl) (rfl) (Nat.le_of_ble_eq_true rfl) dX2_set_14 (ws' := [oP q2 b2 o2 (↑n) (↑org) ent (ed + 1), aI cI b2 160 (upZ pb i v)]) rfl (fun H locs hp => ?_)
  exact hret _ _ _ _ _ _ () (trivial) hp dX2_set_17 (Nat.le_of_ble_eq_true rfl) (Nat.le_of_ble_eq_true rfl)
abbrev rmX2_shorten : Room := { frames := 0, cells := 0, slots := 0, locals := 0 }
set_option maxRecDepth 100000 in
set_option maxHeartbeats 4000000 in
theorem c_X2_shorten (l : Launch) (G : va_G) (cI : ClassId) (sz : Nat) (q2 b2 o2 : Nat) (n org : Nat) (ent ed : Int) (k : Nat)  : Met l yX2_shorten wsX2_shorten rmX2_shorten (zPre G cI [oP q2 b2 o2 (↑n) (↑org) ent ed] sz [.ref q2, .int (iZ (↑k))]) (va_Qv (fun (u : Unit) => True) (fun (u : Unit) t => zB G cI (va_A [oP q2 b2 o2 (↑n) (↑org) ent ed] sz) [oP q2 b2 o2 (↑k) (↑org) ent (ed + 1)] t) (va_A [oP q2 b2 o2 (↑n) (↑org) ent ed] sz)) 0 0 (va_A [oP q2 b2 o2 (↑n) (↑org) ent ed] sz) := by
  refine zm_v (W1 := fun (u : Unit) => [oP q2 b2 o2 (↑k) (↑org) ent (ed + 1)]) (cc := cX2_shorten) (maxL := 2) (by decide) rfl (Nat.le_of_ble_eq_true rfl) ?_
  intro p e s m args below meth c A Q ls hsz hx hb hml hown hts hnm hret hp hl
  have hl : lv_has ls 2 [(0, .ref q2), (1, .int (iZ (↑k)))] := hl
  have hi2 : ∀ w ∈ wsX20, w ∈ wsX2_shorten := fun w h => List.mem_cons_of_mem _ (List.mem_append_right _ (h))
  have f18 := hts (.fieldLink RX2 18 "SelfOpener$Program" "size" "I") (List.mem_of_getElem? (i := 1) rfl)
  have f25 := hts (.fieldLink RX2 25 "SelfOpener$Program" "edition" "I") (List.mem_of_getElem? (i := 2) rfl)
  suffices hw : ∀ (H : Heap) (locs : List Loc), Hp G cI A s H locs [oP q2 b2 o2 (↑n) (↑org) ent ed] → W p l e rmX2_shorten s m args below meth c H locs 0 0 Q (F0 m 0 ls []) from hw _ _ hp
  clear hp; intro H locs hp
  refine lv_aload_n hx hb dX2_shorten_0 rfl (lv_at hl 0 rfl) ?_
  refine lv_iload_n hx hb dX2_shorten_1 rfl (lv_at hl 1 rfl) ?_
  refine z_put hx hb hts hi2 tyX2 tyX2_ok nmX2 hown hp 0 rfl rfl 2 (by decide) f18 rfl (rfl) (rfl) (Nat.le_of_ble_eq_true rfl) dX2_shorten_2 (ws' := [oP q2 b2 o2 (↑k) (↑org) ent ed]) rfl (fun H locs hp => ?_)
  refine lv_aload_n hx hb dX2_shorten_5 rfl (lv_at hl 0 rfl) ?_
  refine lv_dup hx hb dX2_shorten_6 rfl ?_
  refine z_get hx hb hts hi2 hown hp 0 rfl rfl 5 (by decide) f25 rfl dX2_shorten_7 ?_
  refine z_iconst hx hb dX2_shorten_10 ?_
  refine z_iadd hx hb (ed + 1) (rfl) dX2_shorten_11 ?_
  refine z_put hx hb hts hi2 tyX2 tyX2_ok nmX2 hown hp 0 rfl rfl 5 (by decide) f25 rfl (rfl) (rfl) (Nat.le_of_ble_eq_true rfl) dX2_shorten_12 (ws' := [oP q2 b2 o2 (↑k) (↑org) ent (ed + 1)]) rfl (fun H locs hp => ?_)
  exact hret _ _ _ _ _ _ () (trivial) hp dX2_shorten_15 (Nat.le_of_ble_eq_true rfl) (Nat.le_of_ble_eq_true rfl)
abbrev rmX2_loadedAt : Room := { frames := 0, cells := 0, slots := 0, locals := 0 }
set_option maxRecDepth 100000 in
set_option maxHeartbeats 4000000 in
theorem c_X2_loadedAt (l : Launch) (G : va_G) (cI : ClassId) (sz : Nat) (q2 b2 o2 : Nat) (pb : Nat → Int) (n org : Nat) (ent ed : Int) (a : Nat) (h_n : n ≤ 160) (h_o : org < 256) (h_a : a < 256) : Met l yX2_loadedAt wsX2_loadedAt rmX2_loadedAt (zPre G cI [oP q2 b2 o2 (↑n) (↑org) ent ed, aI cI b2 160 pb] sz [.ref q2, .int (iZ (↑a))]) (va_Qi (fun (r : Int32) (u : Unit) => r = iZ (if org ≤ a ∧ a < org + n then pb (a - org) else 0)) (fun (u : Unit) t => zB G cI (va_A [oP q2 b2 o2 (↑n) (↑org) ent ed, aI cI b2 160 pb] sz) [oP q2 b2 o2 (↑n) (↑org) ent ed, aI cI b2 160 pb] t) (va_A [oP q2 b2 o2 (↑n) (↑org) ent ed, aI cI b2 160 pb] sz)) 0 0 (va_A [oP q2 b2 o2 (↑n) (↑org) ent ed, aI cI b2 160 pb] sz) := by
  refine zm_i (W1 := fun (u : Unit) => [oP q2 b2 o2 (↑n) (↑org) ent ed, aI cI b2 160 pb]) (cc := cX2_loadedAt) (maxL := 3) (ty := .int) (by decide) rfl (Nat.le_of_ble_eq_true rfl) ?_
  intro p e s m args below meth c A Q ls hsz hx hb hml hown hts hret hp hl
  have hl : lv_has ls 3 [(0, .ref q2), (1, .int (iZ (↑a)))] := hl
  have hi2 : ∀ w ∈ wsX20, w ∈ wsX2_loadedAt := fun w h => List.mem_cons_of_mem _ (List.mem_append_right _ (h))
  have f22 := hts (.fieldLink RX2 22 "SelfOpener$Program" "origin" "I") (List.mem_of_getElem? (i := 1) rfl)
  have f18 := hts (.fieldLink RX2 18 "SelfOpener$Program" "size" "I") (List.mem_of_getElem? (i := 2) rfl)
  have f9 := hts (.fieldLink RX2 9 "SelfOpener$Program" "bytes" "[I") (List.mem_of_getElem? (i := 3) rfl)
  suffices hw : ∀ (H : Heap) (locs : List Loc), Hp G cI A s H locs [oP q2 b2 o2 (↑n) (↑org) ent ed, aI cI b2 160 pb] → W p l e rmX2_loadedAt s m args below meth c H locs 0 0 Q (F0 m 0 ls []) from hw _ _ hp
  clear hp; intro H locs hp
  refine lv_iload_n hx hb dX2_loadedAt_0 rfl (lv_at hl 1 rfl) ?_
  refine lv_aload_n hx hb dX2_loadedAt_1 rfl (lv_at hl 0 rfl) ?_
  refine z_get hx hb hts hi2 hown hp 0 rfl rfl 3 (by decide) f22 rfl dX2_loadedAt_2 ?_
  refine z_isub hx hb ((↑a) - (↑org)) (rfl) dX2_loadedAt_5 ?_
  refine lv_istore_n (lv' := [(2, .int (iZ ((↑a) - (↑org)))), (0, .ref q2), (1, .int (iZ (↑a)))]) hx hb dX2_loadedAt_6 rfl hl (by decide) rfl (fun ls hl => ?_)
  refine lv_iload_n hx hb dX2_loadedAt_7 rfl (lv_at hl 0 rfl) ?_
  refine z_if_lt (tgt := 28) hx hb dX2_loadedAt_8 (by decide) (by omega) (fun h1 => ?_) (fun h1 => ?_)
  · skip
    refine z_iconst hx hb dX2_loadedAt_28 ?_
    exact hret _ _ _ _ _ _ _ () (congrArg iZ (by split <;> first | rfl | omega)) hp dX2_loadedAt_29 (rfl) (Nat.le_of_ble_eq_true rfl) (Nat.le_of_ble_eq_true rfl)
  · skip
    refine lv_iload_n hx hb dX2_loadedAt_11 rfl (lv_at hl 0 rfl) ?_
    refine lv_aload_n hx hb dX2_loadedAt_12 rfl (lv_at hl 1 rfl) ?_
    refine z_get hx hb hts hi2 hown hp 0 rfl rfl 2 (by decide) f18 rfl dX2_loadedAt_13 ?_
    refine z_icmp_ge (tgt := 28) hx hb dX2_loadedAt_16 (by decide) (by omega) (fun h2 => ?_) (fun h2 => ?_)
    · skip
      refine z_iconst hx hb dX2_loadedAt_28 ?_
      exact hret _ _ _ _ _ _ _ () (congrArg iZ (by split <;> first | rfl | omega)) hp dX2_loadedAt_29 (rfl) (Nat.le_of_ble_eq_true rfl) (Nat.le_of_ble_eq_true rfl)
    · skip
      refine lv_aload_n hx hb dX2_loadedAt_19 rfl (lv_at hl 1 rfl) ?_
      refine z_get hx hb hts hi2 hown hp 0 rfl rfl 0 (by decide) f9 rfl dX2_loadedAt_20 ?_
      refine lv_iload_n hx hb dX2_loadedAt_23 rfl (lv_at hl 0 rfl) ?_
      refine z_iald hx hb hp 1 rfl (a - org) (by omega) dX2_loadedAt_24 (pb (a - org)) (rfl) ?_
      refine lv_goto (tgt := 29) hx hb dX2_loadedAt_25 (by decide) ?_
      exact hret _ _ _ _ _ _ _ () (congrArg iZ (by split <;> first | rfl | omega)) hp dX2_loadedAt_29 (rfl) (Nat.le_of_ble_eq_true rfl) (Nat.le_of_ble_eq_true rfl)
abbrev rmX2_openRun : Room := { frames := 6, cells := 1, slots := 6, locals := 89 }
set_option maxRecDepth 100000 in
set_option maxHeartbeats 4000000 in
theorem c_X2_openRun (l : Launch) (G : va_G) (cI : ClassId) (t : Nat) (hst : l.stackTraces = false) (sz : Nat) (q2 b2 o2 : Nat) (pb ob : Nat → Int) (n org : Nat) (ent ed : Int) (rd t_ gr : Nat) (h_n : n ≤ 160) (h_rd : rd < n) (h_gr : gr ≤ 160) (h_t : t_ < 256) : vx_Met l yX2_openRun wsX2_openRun rmX2_openRun (zPreC t G cI [oP q2 b2 o2 (↑n) (↑org) ent ed, aI cI b2 160 pb, aI cI o2 160 ob] sz [.ref q2, .int (iZ (↑rd)), .int (iZ (↑t_)), .int (iZ (↑gr))]) (va_Qi (fun (r : Int32) (u : Unit) => r = iZ (↑(gr + t_)) ∧ t_ ≤ n - rd - 1 ∧ t_ ≤ 160 - gr) (fun (u : Unit) t => zB G cI (va_A [oP q2 b2 o2 (↑n) (↑org) ent ed, aI cI b2 160 pb, aI cI o2 160 ob] sz) [oP q2 b2 o2 (↑n) (↑org) ent ed, aI cI b2 160 pb, aI cI o2 160 (cpZ pb ob (rd + 1) gr t_)] t) (va_A [oP q2 b2 o2 (↑n) (↑org) ent ed, aI cI b2 160 pb, aI cI o2 160 ob] sz)) (vx_X (fun _ => True) (fun X (u : Unit) t => ((X = nNS ∧ n - rd - 1 < t_) ∨ (X = nUO ∧ t_ ≤ n - rd - 1 ∧ 160 - gr < t_)) ∧ zB G cI (va_A [oP q2 b2 o2 (↑n) (↑org) ent ed, aI cI b2 160 pb, aI cI o2 160 ob] sz) [oP q2 b2 o2 (↑n) (↑org) ent ed, aI cI b2 160 pb, aI cI o2 160 ob] t) (va_A [oP q2 b2 o2 (↑n) (↑org) ent ed, aI cI b2 160 pb, aI cI o2 160 ob] sz)) 1 6 (va_A [oP q2 b2 o2 (↑n) (↑org) ent ed, aI cI b2 160 pb, aI cI o2 160 ob] sz) := by
  refine zm_xi (W1 := fun (u : Unit) => [oP q2 b2 o2 (↑n) (↑org) ent ed, aI cI b2 160 pb, aI cI o2 160 (cpZ pb ob (rd + 1) gr t_)]) (WX := fun (u : Unit) => [oP q2 b2 o2 (↑n) (↑org) ent ed, aI cI b2 160 pb, aI cI o2 160 ob]) (cc := cX2_openRun) (maxL := 4) (ty := .int) hst rfl rfl (by decide) rfl (Nat.le_of_ble_eq_true rfl) ?_
  intro p e s m args below meth c A Q ls hsz hx hb hml hown hts hC hret hthr hout hp hl
  have hl : lv_has ls 4 [(0, .ref q2), (1, .int (iZ (↑rd))), (2, .int (iZ (↑t_))), (3, .int (iZ (↑gr)))] := hl
  have hi2 : ∀ w ∈ wsX20, w ∈ wsX2_openRun := fun w h => List.mem_cons_of_mem _ (List.mem_append_left _ (List.mem_append_left _ (List.mem_append_right _ (h))))
  have f18 := hts (.fieldLink RX2 18 "SelfOpener$Program" "size" "I") (List.mem_of_getElem? (i := 5) rfl)
  have f9 := hts (.fieldLink RX2 9 "SelfOpener$Program" "bytes" "[I") (List.mem_of_getElem? (i := 6) rfl)
  have f15 := hts (.fieldLink RX2 15 "SelfOpener$Program" "opened" "[I") (List.mem_of_getElem? (i := 7) rfl)
  have m43 := hts (.methodLink RX2 43 arraycopyName) (List.mem_of_getElem? (i := 8) rfl)
  have na := hts (.native arraycopyName) (List.mem_of_getElem? (i := 9) rfl)
  have sa := hts (.static arraycopyName) (List.mem_of_getElem? (i := 10) rfl)
  have is := hts (.initialized "java/lang/System") (List.mem_of_getElem? (i := 11) rfl)
  have l53 := hts (.classLink RX2 53 "java/lang/UnsupportedOperationException") (List.mem_of_getElem? (i := 3) rfl)
  have ini53 := hts (.initialized "java/lang/UnsupportedOperationException") (List.mem_of_getElem? (i := 4) rfl)
  have l37 := hts (.classLink RX2 37 "java/util/NoSuchElementException") (List.mem_of_getElem? (i := 1) rfl)
  have ini37 := hts (.initialized "java/util/NoSuchElementException") (List.mem_of_getElem? (i := 2) rfl)
  suffices hw : ∀ (H : Heap) (locs : List Loc), Hp G cI A s H locs [oP q2 b2 o2 (↑n) (↑org) ent ed, aI cI b2 160 pb, aI cI o2 160 ob] → W p l e rmX2_openRun s m args below meth c H locs 0 0 Q (F0 m 0 ls []) from hw _ _ hp
  clear hp; intro H locs hp
  refine lv_iload_n hx hb dX2_openRun_0 rfl (lv_at hl 2 rfl) ?_
  refine lv_aload_n hx hb dX2_openRun_1 rfl (lv_at hl 0 rfl) ?_
  refine z_get hx hb hts hi2 hown hp 0 rfl rfl 2 (by decide) f18 rfl dX2_openRun_2 ?_
  refine lv_iload_n hx hb dX2_openRun_5 rfl (lv_at hl 1 rfl) ?_
  refine z_isub hx hb ((↑n) - (↑rd)) (rfl) dX2_openRun_6 ?_
  refine z_iconst hx hb dX2_openRun_7 ?_
  refine z_isub hx hb (((↑n) - (↑rd)) - 1) (rfl) dX2_openRun_8 ?_
  refine z_icmp_le (tgt := 20) hx hb dX2_openRun_9 (by decide) (by omega) (fun h1 => ?_) (fun h1 => ?_)
  · skip
    refine lv_iload_n hx hb dX2_openRun_20 rfl (lv_at hl 2 rfl) ?_
    refine z_sipush hx hb dX2_openRun_21 (by decide +kernel) ?_
    refine lv_iload_n hx hb dX2_openRun_24 rfl (lv_at hl 3 rfl) ?_
    refine z_isub hx hb (160 - (↑gr)) (rfl) dX2_openRun_25 ?_
    refine z_icmp_le (tgt := 37) hx hb dX2_openRun_26 (by decide) (by omega) (fun h2 => ?_) (fun h2 => ?_)
    · skip
      refine lv_aload_n hx hb dX2_openRun_37 rfl (lv_at hl 0 rfl) ?_
      refine z_get hx hb hts hi2 hown hp 0 rfl rfl 0 (by decide) f9 rfl dX2_openRun_38 ?_
      refine lv_iload_n hx hb dX2_openRun_41 rfl (lv_at hl 1 rfl) ?_
      refine z_iconst hx hb dX2_openRun_42 ?_
      refine z_iadd hx hb ((↑rd) + 1) (rfl) dX2_openRun_43 ?_
      refine lv_aload_n hx hb dX2_openRun_44 rfl (lv_at hl 0 rfl) ?_
      refine z_get hx hb hts hi2 hown hp 0 rfl rfl 1 (by decide) f15 rfl dX2_openRun_45 ?_
      refine lv_iload_n hx hb dX2_openRun_48 rfl (lv_at hl 3 rfl) ?_
      refine lv_iload_n hx hb dX2_openRun_49 rfl (lv_at hl 2 rfl) ?_
      refine z_copy hx hb (by rw [hml]; exact hl.1.symm) hown m43 na sa is hp 1 2 rfl rfl (rd + 1) (gr) (t_) (by omega) (by omega) (by omega) (by omega) (Nat.le_of_ble_eq_true rfl) (Nat.le_of_ble_eq_true rfl) dX2_openRun_50 (ws' := [oP q2 b2 o2 (↑n) (↑org) ent ed, aI cI b2 160 pb, aI cI o2 160 (cpZ pb ob (rd + 1) gr t_)]) rfl (fun H locs hp => ?_)
      refine lv_iload_n hx hb dX2_openRun_53 rfl (lv_at hl 3 rfl) ?_
      refine lv_iload_n hx hb dX2_openRun_54 rfl (lv_at hl 2 rfl) ?_
      refine z_iadd hx hb (↑(gr + t_)) (by omega) dX2_openRun_55 ?_
      exact hret _ _ _ _ _ _ _ () (⟨rfl, by omega, by omega⟩) hp dX2_openRun_56 (rfl) (Nat.le_of_ble_eq_true rfl) (Nat.le_of_ble_eq_true rfl)
    · skip
      exact hthr _ _ _ _ _ _ _ "java/lang/UnsupportedOperationException" 53 55 () (Or.inr ⟨rfl, by omega, by omega⟩) hp hl.1 (by decide) l53 ini53 (fun w h => hts w (List.mem_cons_of_mem _ (List.mem_append_right _ (h)))) (by decide +kernel) (by decide +kernel) dX2_openRun_29 dX2_openRun_32 dX2_openRun_33 dX2_openRun_36 (Nat.le_of_ble_eq_true rfl) (Nat.le_of_ble_eq_true rfl) (Nat.le_of_ble_eq_true rfl) (Nat.le_of_ble_eq_true rfl) (Nat.le_of_ble_eq_true rfl)
  · skip
    exact hthr _ _ _ _ _ _ _ "java/util/NoSuchElementException" 37 39 () (Or.inl ⟨rfl, by omega⟩) hp hl.1 (by decide) l37 ini37 (fun w h => hts w (List.mem_cons_of_mem _ (List.mem_append_left _ (List.mem_append_right _ (h))))) (by decide +kernel) (by decide +kernel) dX2_openRun_12 dX2_openRun_15 dX2_openRun_16 dX2_openRun_19 (Nat.le_of_ble_eq_true rfl) (Nat.le_of_ble_eq_true rfl) (Nat.le_of_ble_eq_true rfl) (Nat.le_of_ble_eq_true rfl) (Nat.le_of_ble_eq_true rfl)
abbrev rmX2_openRun_ok : Room := { frames := 1, cells := 0, slots := 0, locals := 80 }
set_option maxRecDepth 100000 in
set_option maxHeartbeats 4000000 in
theorem c_X2_openRun_ok (l : Launch) (G : va_G) (cI : ClassId) (sz : Nat) (q2 b2 o2 : Nat) (pb ob : Nat → Int) (n org : Nat) (ent ed : Int) (rd t_ gr : Nat) (h_n : n ≤ 160) (h_rd : rd < n) (h_gr : gr ≤ 160) (h_t : t_ < 256) (h_ok : t_ ≤ n - rd - 1 ∧ t_ ≤ 160 - gr) : Met l yX2_openRun wsX2_openRun rmX2_openRun_ok (zPre G cI [oP q2 b2 o2 (↑n) (↑org) ent ed, aI cI b2 160 pb, aI cI o2 160 ob] sz [.ref q2, .int (iZ (↑rd)), .int (iZ (↑t_)), .int (iZ (↑gr))]) (va_Qi (fun (r : Int32) (u : Unit) => r = iZ (↑(gr + t_))) (fun (u : Unit) t => zB G cI (va_A [oP q2 b2 o2 (↑n) (↑org) ent ed, aI cI b2 160 pb, aI cI o2 160 ob] sz) [oP q2 b2 o2 (↑n) (↑org) ent ed, aI cI b2 160 pb, aI cI o2 160 (cpZ pb ob (rd + 1) gr t_)] t) (va_A [oP q2 b2 o2 (↑n) (↑org) ent ed, aI cI b2 160 pb, aI cI o2 160 ob] sz)) 0 0 (va_A [oP q2 b2 o2 (↑n) (↑org) ent ed, aI cI b2 160 pb, aI cI o2 160 ob] sz) := by
  refine zm_i (W1 := fun (u : Unit) => [oP q2 b2 o2 (↑n) (↑org) ent ed, aI cI b2 160 pb, aI cI o2 160 (cpZ pb ob (rd + 1) gr t_)]) (cc := cX2_openRun) (maxL := 4) (ty := .int) (by decide) rfl (Nat.le_of_ble_eq_true rfl) ?_
  intro p e s m args below meth c A Q ls hsz hx hb hml hown hts hret hp hl
  have hl : lv_has ls 4 [(0, .ref q2), (1, .int (iZ (↑rd))), (2, .int (iZ (↑t_))), (3, .int (iZ (↑gr)))] := hl
  have hi2 : ∀ w ∈ wsX20, w ∈ wsX2_openRun := fun w h => List.mem_cons_of_mem _ (List.mem_append_left _ (List.mem_append_left _ (List.mem_append_right _ (h))))
  have f18 := hts (.fieldLink RX2 18 "SelfOpener$Program" "size" "I") (List.mem_of_getElem? (i := 5) rfl)
  have f9 := hts (.fieldLink RX2 9 "SelfOpener$Program" "bytes" "[I") (List.mem_of_getElem? (i := 6) rfl)
  have f15 := hts (.fieldLink RX2 15 "SelfOpener$Program" "opened" "[I") (List.mem_of_getElem? (i := 7) rfl)
  have m43 := hts (.methodLink RX2 43 arraycopyName) (List.mem_of_getElem? (i := 8) rfl)
  have na := hts (.native arraycopyName) (List.mem_of_getElem? (i := 9) rfl)
  have sa := hts (.static arraycopyName) (List.mem_of_getElem? (i := 10) rfl)
  have is := hts (.initialized "java/lang/System") (List.mem_of_getElem? (i := 11) rfl)
  suffices hw : ∀ (H : Heap) (locs : List Loc), Hp G cI A s H locs [oP q2 b2 o2 (↑n) (↑org) ent ed, aI cI b2 160 pb, aI cI o2 160 ob] → W p l e rmX2_openRun_ok s m args below meth c H locs 0 0 Q (F0 m 0 ls []) from hw _ _ hp
  clear hp; intro H locs hp
  refine lv_iload_n hx hb dX2_openRun_0 rfl (lv_at hl 2 rfl) ?_
  refine lv_aload_n hx hb dX2_openRun_1 rfl (lv_at hl 0 rfl) ?_
  refine z_get hx hb hts hi2 hown hp 0 rfl rfl 2 (by decide) f18 rfl dX2_openRun_2 ?_
  refine lv_iload_n hx hb dX2_openRun_5 rfl (lv_at hl 1 rfl) ?_
  refine z_isub hx hb ((↑n) - (↑rd)) (rfl) dX2_openRun_6 ?_
  refine z_iconst hx hb dX2_openRun_7 ?_
  refine z_isub hx hb (((↑n) - (↑rd)) - 1) (rfl) dX2_openRun_8 ?_
  refine z_icmp_le (tgt := 20) hx hb dX2_openRun_9 (by decide) (by omega) (fun h1 => ?_) (fun h1 => ?_)
  · skip
    refine lv_iload_n hx hb dX2_openRun_20 rfl (lv_at hl 2 rfl) ?_
    refine z_sipush hx hb dX2_openRun_21 (by decide +kernel) ?_
    refine lv_iload_n hx hb dX2_openRun_24 rfl (lv_at hl 3 rfl) ?_
    refine z_isub hx hb (160 - (↑gr)) (rfl) dX2_openRun_25 ?_
    refine z_icmp_le (tgt := 37) hx hb dX2_openRun_26 (by decide) (by omega) (fun h2 => ?_) (fun h2 => ?_)
    · skip
      refine lv_aload_n hx hb dX2_openRun_37 rfl (lv_at hl 0 rfl) ?_
      refine z_get hx hb hts hi2 hown hp 0 rfl rfl 0 (by decide) f9 rfl dX2_openRun_38 ?_
      refine lv_iload_n hx hb dX2_openRun_41 rfl (lv_at hl 1 rfl) ?_
      refine z_iconst hx hb dX2_openRun_42 ?_
      refine z_iadd hx hb ((↑rd) + 1) (rfl) dX2_openRun_43 ?_
      refine lv_aload_n hx hb dX2_openRun_44 rfl (lv_at hl 0 rfl) ?_
      refine z_get hx hb hts hi2 hown hp 0 rfl rfl 1 (by decide) f15 rfl dX2_openRun_45 ?_
      refine lv_iload_n hx hb dX2_openRun_48 rfl (lv_at hl 3 rfl) ?_
      refine lv_iload_n hx hb dX2_openRun_49 rfl (lv_at hl 2 rfl) ?_
      refine z_copy hx hb (by rw [hml]; exact hl.1.symm) hown m43 na sa is hp 1 2 rfl rfl (rd + 1) (gr) (t_) (by omega) (by omega) (by omega) (by omega) (Nat.le_of_ble_eq_true rfl) (Nat.le_of_ble_eq_true rfl) dX2_openRun_50 (ws' := [oP q2 b2 o2 (↑n) (↑org) ent ed, aI cI b2 160 pb, aI cI o2 160 (cpZ pb ob (rd + 1) gr t_)]) rfl (fun H locs hp => ?_)
      refine lv_iload_n hx hb dX2_openRun_53 rfl (lv_at hl 3 rfl) ?_
      refine lv_iload_n hx hb dX2_openRun_54 rfl (lv_at hl 2 rfl) ?_
      refine z_iadd hx hb (↑(gr + t_)) (by omega) dX2_openRun_55 ?_
      exact hret _ _ _ _ _ _ _ () (rfl) hp dX2_openRun_56 (rfl) (Nat.le_of_ble_eq_true rfl) (Nat.le_of_ble_eq_true rfl)
    · skip
      exfalso; omega
  · skip
    exfalso; omega
abbrev rmX2_openCopy : Room := { frames := 6, cells := 1, slots := 6, locals := 89 }
set_option maxRecDepth 100000 in
set_option maxHeartbeats 4000000 in
theorem c_X2_openCopy (l : Launch) (G : va_G) (cI : ClassId) (t : Nat) (hst : l.stackTraces = false) (sz : Nat) (q2 b2 o2 : Nat) (pb ob : Nat → Int) (n org : Nat) (ent ed : Int) (rd t_ gr : Nat) (h_n : n ≤ 160) (h_rd : rd < n) (h_gr : gr ≤ 160) (h_t : t_ < 256) (h_b : BB pb 160) : vx_Met l yX2_openCopy wsX2_openCopy rmX2_openCopy (zPreC t G cI [oP q2 b2 o2 (↑n) (↑org) ent ed, aI cI b2 160 pb, aI cI o2 160 ob] sz [.ref q2, .int (iZ (↑rd)), .int (iZ (↑t_)), .int (iZ (↑gr))]) (va_Qi (fun (r : Int32) (u : Unit) => r = iZ (↑(gr + t_)) ∧ rd + 1 < n ∧ pb (rd + 1) ≠ 0 ∧ (pb (rd + 1)).toNat ≤ gr ∧ t_ ≤ 160 - gr) (fun (u : Unit) t => zB G cI (va_A [oP q2 b2 o2 (↑n) (↑org) ent ed, aI cI b2 160 pb, aI cI o2 160 ob] sz) [oP q2 b2 o2 (↑n) (↑org) ent ed, aI cI b2 160 pb, aI cI o2 160 (cpy1 ob gr (pb (rd + 1)).toNat t_)] t) (va_A [oP q2 b2 o2 (↑n) (↑org) ent ed, aI cI b2 160 pb, aI cI o2 160 ob] sz)) (vx_X (fun _ => True) (fun X (u : Unit) t => ((X = nNS ∧ n ≤ rd + 1) ∨ (X = nIA ∧ rd + 1 < n ∧ (pb (rd + 1) = 0 ∨ gr < (pb (rd + 1)).toNat)) ∨ (X = nUO ∧ rd + 1 < n ∧ pb (rd + 1) ≠ 0 ∧ (pb (rd + 1)).toNat ≤ gr ∧ 160 - gr < t_)) ∧ zB G cI (va_A [oP q2 b2 o2 (↑n) (↑org) ent ed, aI cI b2 160 pb, aI cI o2 160 ob] sz) [oP q2 b2 o2 (↑n) (↑org) ent ed, aI cI b2 160 pb, aI cI o2 160 ob] t) (va_A [oP q2 b2 o2 (↑n) (↑org) ent ed, aI cI b2 160 pb, aI cI o2 160 ob] sz)) 1 6 (va_A [oP q2 b2 o2 (↑n) (↑org) ent ed, aI cI b2 160 pb, aI cI o2 160 ob] sz) := by
  refine zm_xi (W1 := fun (u : Unit) => [oP q2 b2 o2 (↑n) (↑org) ent ed, aI cI b2 160 pb, aI cI o2 160 (cpy1 ob gr (pb (rd + 1)).toNat t_)]) (WX := fun (u : Unit) => [oP q2 b2 o2 (↑n) (↑org) ent ed, aI cI b2 160 pb, aI cI o2 160 ob]) (cc := cX2_openCopy) (maxL := 6) (ty := .int) hst rfl rfl (by decide) rfl (Nat.le_of_ble_eq_true rfl) ?_
  intro p e s m args below meth c A Q ls hsz hx hb hml hown hts hC hret hthr hout hp hl
  have hl : lv_has ls 6 [(0, .ref q2), (1, .int (iZ (↑rd))), (2, .int (iZ (↑t_))), (3, .int (iZ (↑gr)))] := hl
  have hi2 : ∀ w ∈ wsX20, w ∈ wsX2_openCopy := fun w h => List.mem_cons_of_mem _ (List.mem_append_left _ (List.mem_append_left _ (List.mem_append_left _ (List.mem_append_right _ (h)))))
  have f18 := hts (.fieldLink RX2 18 "SelfOpener$Program" "size" "I") (List.mem_of_getElem? (i := 7) rfl)
  have f9 := hts (.fieldLink RX2 9 "SelfOpener$Program" "bytes" "[I") (List.mem_of_getElem? (i := 8) rfl)
  have l56 := hts (.classLink RX2 56 "java/lang/IllegalArgumentException") (List.mem_of_getElem? (i := 3) rfl)
  have ini56 := hts (.initialized "java/lang/IllegalArgumentException") (List.mem_of_getElem? (i := 4) rfl)
  have f15 := hts (.fieldLink RX2 15 "SelfOpener$Program" "opened" "[I") (List.mem_of_getElem? (i := 9) rfl)
  have l53 := hts (.classLink RX2 53 "java/lang/UnsupportedOperationException") (List.mem_of_getElem? (i := 5) rfl)
  have ini53 := hts (.initialized "java/lang/UnsupportedOperationException") (List.mem_of_getElem? (i := 6) rfl)
  have l37 := hts (.classLink RX2 37 "java/util/NoSuchElementException") (List.mem_of_getElem? (i := 1) rfl)
  have ini37 := hts (.initialized "java/util/NoSuchElementException") (List.mem_of_getElem? (i := 2) rfl)
  suffices hw : ∀ (H : Heap) (locs : List Loc), Hp G cI A s H locs [oP q2 b2 o2 (↑n) (↑org) ent ed, aI cI b2 160 pb, aI cI o2 160 ob] → W p l e rmX2_openCopy s m args below meth c H locs 0 0 Q (F0 m 0 ls []) from hw _ _ hp
  clear hp; intro H locs hp
  refine lv_iload_n hx hb dX2_openCopy_0 rfl (lv_at hl 1 rfl) ?_
  refine z_iconst hx hb dX2_openCopy_1 ?_
  refine z_iadd hx hb ((↑rd) + 1) (rfl) dX2_openCopy_2 ?_
  refine lv_aload_n hx hb dX2_openCopy_3 rfl (lv_at hl 0 rfl) ?_
  refine z_get hx hb hts hi2 hown hp 0 rfl rfl 2 (by decide) f18 rfl dX2_openCopy_4 ?_
  refine z_icmp_lt (tgt := 18) hx hb dX2_openCopy_7 (by decide) (by omega) (fun h1 => ?_) (fun h1 => ?_)
  · skip
    have hd := h_b (rd + 1) (by omega)
    refine lv_aload_n hx hb dX2_openCopy_18 rfl (lv_at hl 0 rfl) ?_
    refine z_get hx hb hts hi2 hown hp 0 rfl rfl 0 (by decide) f9 rfl dX2_openCopy_19 ?_
    refine lv_iload_n hx hb dX2_openCopy_22 rfl (lv_at hl 1 rfl) ?_
    refine z_iconst hx hb dX2_openCopy_23 ?_
    refine z_iadd hx hb ((↑rd) + 1) (rfl) dX2_openCopy_24 ?_
    refine z_iald hx hb hp 1 rfl (rd + 1) (by omega) dX2_openCopy_25 (pb (rd + 1)) (rfl) ?_
    refine z_top (↑((pb (rd + 1)).toNat)) (by omega) ?_
    refine lv_istore (lv' := [(4, .int (iZ (↑((pb (rd + 1)).toNat)))), (0, .ref q2), (1, .int (iZ (↑rd))), (2, .int (iZ (↑t_))), (3, .int (iZ (↑gr)))]) hx hb dX2_openCopy_26 hl (by decide) rfl (fun ls hl => ?_)
    refine lv_iload hx hb dX2_openCopy_28 (lv_at hl 0 rfl) ?_
    refine z_if_eq (tgt := 39) hx hb dX2_openCopy_30 (by decide) (by omega) (fun h2 => ?_) (fun h2 => ?_)
    · skip
      exact hthr _ _ _ _ _ _ _ "java/lang/IllegalArgumentException" 56 58 () (Or.inr (Or.inl ⟨rfl, by omega, by omega⟩)) hp hl.1 (by decide) l56 ini56 (fun w h => hts w (List.mem_cons_of_mem _ (List.mem_append_left _ (List.mem_append_right _ (h))))) (by decide +kernel) (by decide +kernel) dX2_openCopy_39 dX2_openCopy_42 dX2_openCopy_43 dX2_openCopy_46 (Nat.le_of_ble_eq_true rfl) (Nat.le_of_ble_eq_true rfl) (Nat.le_of_ble_eq_true rfl) (Nat.le_of_ble_eq_true rfl) (Nat.le_of_ble_eq_true rfl)
    · skip
      refine lv_iload hx hb dX2_openCopy_33 (lv_at hl 0 rfl) ?_
      refine lv_iload_n hx hb dX2_openCopy_35 rfl (lv_at hl 4 rfl) ?_
      refine z_icmp_le (tgt := 47) hx hb dX2_openCopy_36 (by decide) (by omega) (fun h3 => ?_) (fun h3 => ?_)
      · skip
        refine lv_iload_n hx hb dX2_openCopy_47 rfl (lv_at hl 3 rfl) ?_
        refine z_sipush hx hb dX2_openCopy_48 (by decide +kernel) ?_
        refine lv_iload_n hx hb dX2_openCopy_51 rfl (lv_at hl 4 rfl) ?_
        refine z_isub hx hb (160 - (↑gr)) (rfl) dX2_openCopy_52 ?_
        refine z_icmp_le (tgt := 64) hx hb dX2_openCopy_53 (by decide) (by omega) (fun h4 => ?_) (fun h4 => ?_)
        · skip
          refine lv_iload_n hx hb dX2_openCopy_64 rfl (lv_at hl 4 rfl) ?_
          refine lv_istore (lv' := [(5, .int (iZ (↑gr))), (4, .int (iZ (↑((pb (rd + 1)).toNat)))), (0, .ref q2), (1, .int (iZ (↑rd))), (2, .int (iZ (↑t_))), (3, .int (iZ (↑gr)))]) hx hb dX2_openCopy_65 hl (by decide) rfl (fun ls hl => ?_)
          have lp5 : ∀ (N_lp5 : Nat) (k : Nat) (H : Heap) (locs : List Loc) (ls : Array Slot), (k ≤ t_) → (t_ - k) < N_lp5 → Hp G cI A s H locs [oP q2 b2 o2 (↑n) (↑org) ent ed, aI cI b2 160 pb, aI cI o2 160 (cpy1 ob gr (pb (rd + 1)).toNat k)] → lv_has ls 6 [(5, .int (iZ (↑(gr + k)))), (4, .int (iZ (↑((pb (rd + 1)).toNat)))), (0, .ref q2), (1, .int (iZ (↑rd))), (2, .int (iZ (↑t_))), (3, .int (iZ (↑gr)))] → W p l e rmX2_openCopy s m args below meth c H locs 0 0 Q (F0 m 67 ls []) := by
            intro N_lp5
            induction N_lp5 with
            | zero => intros; exfalso; omega
            | succ N_lp5 ih_lp5 =>
              intro k H locs ls hk hN hp hl
              refine lv_iload hx hb dX2_openCopy_67 (lv_at hl 0 rfl) ?_
              refine lv_iload_n hx hb dX2_openCopy_69 rfl (lv_at hl 5 rfl) ?_
              refine lv_iload_n hx hb dX2_openCopy_70 rfl (lv_at hl 4 rfl) ?_
              refine z_iadd hx hb ((↑gr) + (↑t_)) (rfl) dX2_openCopy_71 ?_
              refine z_icmp_ge (tgt := 98) hx hb dX2_openCopy_72 (by decide) (by omega) (fun h6 => ?_) (fun h6 => ?_)
              · skip
                obtain rfl : t_ = k := by omega
                refine lv_iload_n hx hb dX2_openCopy_98 rfl (lv_at hl 5 rfl) ?_
                refine lv_iload_n hx hb dX2_openCopy_99 rfl (lv_at hl 4 rfl) ?_
                refine z_iadd hx hb (↑(gr + t_)) (by omega) dX2_openCopy_100 ?_
                exact hret _ _ _ _ _ _ _ () (⟨rfl, by omega, by omega, by omega, by omega⟩) hp dX2_openCopy_101 (rfl) (Nat.le_of_ble_eq_true rfl) (Nat.le_of_ble_eq_true rfl)
              · skip
                refine lv_aload_n hx hb dX2_openCopy_75 rfl (lv_at hl 2 rfl) ?_
                refine z_get hx hb hts hi2 hown hp 0 rfl rfl 1 (by decide) f15 rfl dX2_openCopy_76 ?_
                refine lv_iload hx hb dX2_openCopy_79 (lv_at hl 0 rfl) ?_
                refine lv_aload_n hx hb dX2_openCopy_81 rfl (lv_at hl 2 rfl) ?_
                refine z_get hx hb hts hi2 hown hp 0 rfl rfl 1 (by decide) f15 rfl dX2_openCopy_82 ?_
                refine lv_iload hx hb dX2_openCopy_85 (lv_at hl 0 rfl) ?_
                refine lv_iload hx hb dX2_openCopy_87 (lv_at hl 1 rfl) ?_
                refine z_isub hx hb (↑(gr + k - (pb (rd + 1)).toNat)) (by omega) dX2_openCopy_89 ?_
                refine z_iald hx hb hp 2 rfl (gr + k - (pb (rd + 1)).toNat) (by omega) dX2_openCopy_90 (cpy1 ob gr (pb (rd + 1)).toNat k (gr + k - (pb (rd + 1)).toNat)) (rfl) ?_
                refine z_iast hx hb hp 2 rfl (gr + k) (by omega) dX2_openCopy_91 (ws' := [oP q2 b2 o2 (↑n) (↑org) ent ed, aI cI b2 160 pb, aI cI o2 160 (upZ (cpy1 ob gr (pb (rd + 1)).toNat k) (gr + k) (cpy1 ob gr (pb (rd + 1)).toNat k (gr + k - (pb (rd + 1)).toNat)))]) rfl (fun H locs hp => ?_)
                refine z_iinc (k := 0) (lv' := [(5, .int (iZ (↑(gr + (k + 1))))), (4, .int (iZ (↑((pb (rd + 1)).toNat)))), (0, .ref q2), (1, .int (iZ (↑rd))), (2, .int (iZ (↑t_))), (3, .int (iZ (↑gr)))]) hx hb (↑(gr + (k + 1))) (by omega) dX2_openCopy_92 hl rfl (by decide) rfl (fun ls hl => ?_)
                refine lv_goto (tgt := 67) hx hb dX2_openCopy_95 (by decide) ?_
                exact ih_lp5 (k + 1) _ _ _ (by omega) (by omega) hp (lv_sub hl [0, 1, 2, 3, 4, 5] rfl)
          exact lp5 _ 0 _ _ _ (by omega) (Nat.lt_succ_self _) hp (lv_sub hl [0, 1, 2, 3, 4, 5] rfl)
        · skip
          exact hthr _ _ _ _ _ _ _ "java/lang/UnsupportedOperationException" 53 55 () (Or.inr (Or.inr ⟨rfl, by omega, by omega, by omega, by omega⟩)) hp hl.1 (by decide) l53 ini53 (fun w h => hts w (List.mem_cons_of_mem _ (List.mem_append_right _ (h)))) (by decide +kernel) (by decide +kernel) dX2_openCopy_56 dX2_openCopy_59 dX2_openCopy_60 dX2_openCopy_63 (Nat.le_of_ble_eq_true rfl) (Nat.le_of_ble_eq_true rfl) (Nat.le_of_ble_eq_true rfl) (Nat.le_of_ble_eq_true rfl) (Nat.le_of_ble_eq_true rfl)
      · skip
        exact hthr _ _ _ _ _ _ _ "java/lang/IllegalArgumentException" 56 58 () (Or.inr (Or.inl ⟨rfl, by omega, by omega⟩)) hp hl.1 (by decide) l56 ini56 (fun w h => hts w (List.mem_cons_of_mem _ (List.mem_append_left _ (List.mem_append_right _ (h))))) (by decide +kernel) (by decide +kernel) dX2_openCopy_39 dX2_openCopy_42 dX2_openCopy_43 dX2_openCopy_46 (Nat.le_of_ble_eq_true rfl) (Nat.le_of_ble_eq_true rfl) (Nat.le_of_ble_eq_true rfl) (Nat.le_of_ble_eq_true rfl) (Nat.le_of_ble_eq_true rfl)
  · skip
    exact hthr _ _ _ _ _ _ _ "java/util/NoSuchElementException" 37 39 () (Or.inl ⟨rfl, by omega⟩) hp hl.1 (by decide) l37 ini37 (fun w h => hts w (List.mem_cons_of_mem _ (List.mem_append_left _ (List.mem_append_left _ (List.mem_append_right _ (h)))))) (by decide +kernel) (by decide +kernel) dX2_openCopy_10 dX2_openCopy_13 dX2_openCopy_14 dX2_openCopy_17 (Nat.le_of_ble_eq_true rfl) (Nat.le_of_ble_eq_true rfl) (Nat.le_of_ble_eq_true rfl) (Nat.le_of_ble_eq_true rfl) (Nat.le_of_ble_eq_true rfl)
abbrev rmX2_openCopy_ok : Room := { frames := 0, cells := 0, slots := 0, locals := 0 }
set_option maxRecDepth 100000 in
set_option maxHeartbeats 4000000 in
theorem c_X2_openCopy_ok (l : Launch) (G : va_G) (cI : ClassId) (sz : Nat) (q2 b2 o2 : Nat) (pb ob : Nat → Int) (n org : Nat) (ent ed : Int) (rd t_ gr : Nat) (h_n : n ≤ 160) (h_rd : rd < n) (h_gr : gr ≤ 160) (h_t : t_ < 256) (h_b : BB pb 160) (h_ok : rd + 1 < n ∧ pb (rd + 1) ≠ 0 ∧ (pb (rd + 1)).toNat ≤ gr ∧ t_ ≤ 160 - gr) : Met l yX2_openCopy wsX2_openCopy rmX2_openCopy_ok (zPre G cI [oP q2 b2 o2 (↑n) (↑org) ent ed, aI cI b2 160 pb, aI cI o2 160 ob] sz [.ref q2, .int (iZ (↑rd)), .int (iZ (↑t_)), .int (iZ (↑gr))]) (va_Qi (fun (r : Int32) (u : Unit) => r = iZ (↑(gr + t_))) (fun (u : Unit) t => zB G cI (va_A [oP q2 b2 o2 (↑n) (↑org) ent ed, aI cI b2 160 pb, aI cI o2 160 ob] sz) [oP q2 b2 o2 (↑n) (↑org) ent ed, aI cI b2 160 pb, aI cI o2 160 (cpy1 ob gr (pb (rd + 1)).toNat t_)] t) (va_A [oP q2 b2 o2 (↑n) (↑org) ent ed, aI cI b2 160 pb, aI cI o2 160 ob] sz)) 0 0 (va_A [oP q2 b2 o2 (↑n) (↑org) ent ed, aI cI b2 160 pb, aI cI o2 160 ob] sz) := by
  refine zm_i (W1 := fun (u : Unit) => [oP q2 b2 o2 (↑n) (↑org) ent ed, aI cI b2 160 pb, aI cI o2 160 (cpy1 ob gr (pb (rd + 1)).toNat t_)]) (cc := cX2_openCopy) (maxL := 6) (ty := .int) (by decide) rfl (Nat.le_of_ble_eq_true rfl) ?_
  intro p e s m args below meth c A Q ls hsz hx hb hml hown hts hret hp hl
  have hl : lv_has ls 6 [(0, .ref q2), (1, .int (iZ (↑rd))), (2, .int (iZ (↑t_))), (3, .int (iZ (↑gr)))] := hl
  have hi2 : ∀ w ∈ wsX20, w ∈ wsX2_openCopy := fun w h => List.mem_cons_of_mem _ (List.mem_append_left _ (List.mem_append_left _ (List.mem_append_left _ (List.mem_append_right _ (h)))))
  have f18 := hts (.fieldLink RX2 18 "SelfOpener$Program" "size" "I") (List.mem_of_getElem? (i := 7) rfl)
  have f9 := hts (.fieldLink RX2 9 "SelfOpener$Program" "bytes" "[I") (List.mem_of_getElem? (i := 8) rfl)
  have f15 := hts (.fieldLink RX2 15 "SelfOpener$Program" "opened" "[I") (List.mem_of_getElem? (i := 9) rfl)
  suffices hw : ∀ (H : Heap) (locs : List Loc), Hp G cI A s H locs [oP q2 b2 o2 (↑n) (↑org) ent ed, aI cI b2 160 pb, aI cI o2 160 ob] → W p l e rmX2_openCopy_ok s m args below meth c H locs 0 0 Q (F0 m 0 ls []) from hw _ _ hp
  clear hp; intro H locs hp
  refine lv_iload_n hx hb dX2_openCopy_0 rfl (lv_at hl 1 rfl) ?_
  refine z_iconst hx hb dX2_openCopy_1 ?_
  refine z_iadd hx hb ((↑rd) + 1) (rfl) dX2_openCopy_2 ?_
  refine lv_aload_n hx hb dX2_openCopy_3 rfl (lv_at hl 0 rfl) ?_
  refine z_get hx hb hts hi2 hown hp 0 rfl rfl 2 (by decide) f18 rfl dX2_openCopy_4 ?_
  refine z_icmp_lt (tgt := 18) hx hb dX2_openCopy_7 (by decide) (by omega) (fun h1 => ?_) (fun h1 => ?_)
  · skip
    have hd := h_b (rd + 1) (by omega)
    refine lv_aload_n hx hb dX2_openCopy_18 rfl (lv_at hl 0 rfl) ?_
    refine z_get hx hb hts hi2 hown hp 0 rfl rfl 0 (by decide) f9 rfl dX2_openCopy_19 ?_
    refine lv_iload_n hx hb dX2_openCopy_22 rfl (lv_at hl 1 rfl) ?_
    refine z_iconst hx hb dX2_openCopy_23 ?_
    refine z_iadd hx hb ((↑rd) + 1) (rfl) dX2_openCopy_24 ?_
    refine z_iald hx hb hp 1 rfl (rd + 1) (by omega) dX2_openCopy_25 (pb (rd + 1)) (rfl) ?_
    refine z_top (↑((pb (rd + 1)).toNat)) (by omega) ?_
    refine lv_istore (lv' := [(4, .int (iZ (↑((pb (rd + 1)).toNat)))), (0, .ref q2), (1, .int (iZ (↑rd))), (2, .int (iZ (↑t_))), (3, .int (iZ (↑gr)))]) hx hb dX2_openCopy_26 hl (by decide) rfl (fun ls hl => ?_)
    refine lv_iload hx hb dX2_openCopy_28 (lv_at hl 0 rfl) ?_
    refine z_if_eq (tgt := 39) hx hb dX2_openCopy_30 (by decide) (by omega) (fun h2 => ?_) (fun h2 => ?_)
    · skip
      exfalso; omega
    · skip
      refine lv_iload hx hb dX2_openCopy_33 (lv_at hl 0 rfl) ?_
      refine lv_iload_n hx hb dX2_openCopy_35 rfl (lv_at hl 4 rfl) ?_
      refine z_icmp_le (tgt := 47) hx hb dX2_openCopy_36 (by decide) (by omega) (fun h3 => ?_) (fun h3 => ?_)
      · skip
        refine lv_iload_n hx hb dX2_openCopy_47 rfl (lv_at hl 3 rfl) ?_
        refine z_sipush hx hb dX2_openCopy_48 (by decide +kernel) ?_
        refine lv_iload_n hx hb dX2_openCopy_51 rfl (lv_at hl 4 rfl) ?_
        refine z_isub hx hb (160 - (↑gr)) (rfl) dX2_openCopy_52 ?_
        refine z_icmp_le (tgt := 64) hx hb dX2_openCopy_53 (by decide) (by omega) (fun h4 => ?_) (fun h4 => ?_)
        · skip
          refine lv_iload_n hx hb dX2_openCopy_64 rfl (lv_at hl 4 rfl) ?_
          refine lv_istore (lv' := [(5, .int (iZ (↑gr))), (4, .int (iZ (↑((pb (rd + 1)).toNat)))), (0, .ref q2), (1, .int (iZ (↑rd))), (2, .int (iZ (↑t_))), (3, .int (iZ (↑gr)))]) hx hb dX2_openCopy_65 hl (by decide) rfl (fun ls hl => ?_)
          have lp5 : ∀ (N_lp5 : Nat) (k : Nat) (H : Heap) (locs : List Loc) (ls : Array Slot), (k ≤ t_) → (t_ - k) < N_lp5 → Hp G cI A s H locs [oP q2 b2 o2 (↑n) (↑org) ent ed, aI cI b2 160 pb, aI cI o2 160 (cpy1 ob gr (pb (rd + 1)).toNat k)] → lv_has ls 6 [(5, .int (iZ (↑(gr + k)))), (4, .int (iZ (↑((pb (rd + 1)).toNat)))), (0, .ref q2), (1, .int (iZ (↑rd))), (2, .int (iZ (↑t_))), (3, .int (iZ (↑gr)))] → W p l e rmX2_openCopy_ok s m args below meth c H locs 0 0 Q (F0 m 67 ls []) := by
            intro N_lp5
            induction N_lp5 with
            | zero => intros; exfalso; omega
            | succ N_lp5 ih_lp5 =>
              intro k H locs ls hk hN hp hl
              refine lv_iload hx hb dX2_openCopy_67 (lv_at hl 0 rfl) ?_
              refine lv_iload_n hx hb dX2_openCopy_69 rfl (lv_at hl 5 rfl) ?_
              refine lv_iload_n hx hb dX2_openCopy_70 rfl (lv_at hl 4 rfl) ?_
              refine z_iadd hx hb ((↑gr) + (↑t_)) (rfl) dX2_openCopy_71 ?_
              refine z_icmp_ge (tgt := 98) hx hb dX2_openCopy_72 (by decide) (by omega) (fun h6 => ?_) (fun h6 => ?_)
              · skip
                obtain rfl : t_ = k := by omega
                refine lv_iload_n hx hb dX2_openCopy_98 rfl (lv_at hl 5 rfl) ?_
                refine lv_iload_n hx hb dX2_openCopy_99 rfl (lv_at hl 4 rfl) ?_
                refine z_iadd hx hb (↑(gr + t_)) (by omega) dX2_openCopy_100 ?_
                exact hret _ _ _ _ _ _ _ () (rfl) hp dX2_openCopy_101 (rfl) (Nat.le_of_ble_eq_true rfl) (Nat.le_of_ble_eq_true rfl)
              · skip
                refine lv_aload_n hx hb dX2_openCopy_75 rfl (lv_at hl 2 rfl) ?_
                refine z_get hx hb hts hi2 hown hp 0 rfl rfl 1 (by decide) f15 rfl dX2_openCopy_76 ?_
                refine lv_iload hx hb dX2_openCopy_79 (lv_at hl 0 rfl) ?_
                refine lv_aload_n hx hb dX2_openCopy_81 rfl (lv_at hl 2 rfl) ?_
                refine z_get hx hb hts hi2 hown hp 0 rfl rfl 1 (by decide) f15 rfl dX2_openCopy_82 ?_
                refine lv_iload hx hb dX2_openCopy_85 (lv_at hl 0 rfl) ?_
                refine lv_iload hx hb dX2_openCopy_87 (lv_at hl 1 rfl) ?_
                refine z_isub hx hb (↑(gr + k - (pb (rd + 1)).toNat)) (by omega) dX2_openCopy_89 ?_
                refine z_iald hx hb hp 2 rfl (gr + k - (pb (rd + 1)).toNat) (by omega) dX2_openCopy_90 (cpy1 ob gr (pb (rd + 1)).toNat k (gr + k - (pb (rd + 1)).toNat)) (rfl) ?_
                refine z_iast hx hb hp 2 rfl (gr + k) (by omega) dX2_openCopy_91 (ws' := [oP q2 b2 o2 (↑n) (↑org) ent ed, aI cI b2 160 pb, aI cI o2 160 (upZ (cpy1 ob gr (pb (rd + 1)).toNat k) (gr + k) (cpy1 ob gr (pb (rd + 1)).toNat k (gr + k - (pb (rd + 1)).toNat)))]) rfl (fun H locs hp => ?_)
                refine z_iinc (k := 0) (lv' := [(5, .int (iZ (↑(gr + (k + 1))))), (4, .int (iZ (↑((pb (rd + 1)).toNat)))), (0, .ref q2), (1, .int (iZ (↑rd))), (2, .int (iZ (↑t_))), (3, .int (iZ (↑gr)))]) hx hb (↑(gr + (k + 1))) (by omega) dX2_openCopy_92 hl rfl (by decide) rfl (fun ls hl => ?_)
                refine lv_goto (tgt := 67) hx hb dX2_openCopy_95 (by decide) ?_
                exact ih_lp5 (k + 1) _ _ _ (by omega) (by omega) hp (lv_sub hl [0, 1, 2, 3, 4, 5] rfl)
          exact lp5 _ 0 _ _ _ (by omega) (Nat.lt_succ_self _) hp (lv_sub hl [0, 1, 2, 3, 4, 5] rfl)
        · skip
          exfalso; omega
      · skip
        exfalso; omega
  · skip
    exfalso; omega
abbrev rmX2_openAsStream : Room := { frames := 7, cells := 1, slots := 6, locals := 120 }
set_option maxRecDepth 100000 in
set_option maxHeartbeats 4000000 in
theorem c_X2_openAsStream (l : Launch) (G : va_G) (cI : ClassId) (t : Nat) (hst : l.stackTraces = false) (sz : Nat) (q2 b2 o2 : Nat) (pb ob : Nat → Int) (n org : Nat) (ent ed : Int) (h_n : n ≤ 160) (h_b : BB pb 160) : vx_Met l yX2_openAsStream wsX2_openAsStream rmX2_openAsStream (zPreC t G cI [oP q2 b2 o2 (↑n) (↑org) ent ed, aI cI b2 160 pb, aI cI o2 160 ob] sz [.ref q2]) (va_Qv (fun (u : Unit) => (unp pb n (n + 1) 0 0 ob).1 = 0) (fun (u : Unit) t => zB G cI (va_A [oP q2 b2 o2 (↑n) (↑org) ent ed, aI cI b2 160 pb, aI cI o2 160 ob] sz) [oP q2 b2 o2 (↑(unp pb n (n + 1) 0 0 ob).2.1) (↑org) ent (ed + 1), aI cI b2 160 (cpZ (unp pb n (n + 1) 0 0 ob).2.2 pb 0 0 (unp pb n (n + 1) 0 0 ob).2.1), aI cI o2 160 ((unp pb n (n + 1) 0 0 ob).2.2)] t) (va_A [oP q2 b2 o2 (↑n) (↑org) ent ed, aI cI b2 160 pb, aI cI o2 160 ob] sz)) (vx_X (fun _ => True) (fun X (u : Nat → Int) t => ((unp pb n (n + 1) 0 0 ob).1 ≠ 0 ∧ X = unpX (unp pb n (n + 1) 0 0 ob).1) ∧ zB G cI (va_A [oP q2 b2 o2 (↑n) (↑org) ent ed, aI cI b2 160 pb, aI cI o2 160 ob] sz) [oP q2 b2 o2 (↑n) (↑org) ent ed, aI cI b2 160 pb, aI cI o2 160 u] t) (va_A [oP q2 b2 o2 (↑n) (↑org) ent ed, aI cI b2 160 pb, aI cI o2 160 ob] sz)) 1 6 (va_A [oP q2 b2 o2 (↑n) (↑org) ent ed, aI cI b2 160 pb, aI cI o2 160 ob] sz) := by
  refine zm_xv (W1 := fun (u : Unit) => [oP q2 b2 o2 (↑(unp pb n (n + 1) 0 0 ob).2.1) (↑org) ent (ed + 1), aI cI b2 160 (cpZ (unp pb n (n + 1) 0 0 ob).2.2 pb 0 0 (unp pb n (n + 1) 0 0 ob).2.1), aI cI o2 160 ((unp pb n (n + 1) 0 0 ob).2.2)]) (WX := fun (u : Nat → Int) => [oP q2 b2 o2 (↑n) (↑org) ent ed, aI cI b2 160 pb, aI cI o2 160 u]) (cc := cX2_openAsStream) (maxL := 4) hst rfl rfl (by decide) rfl (Nat.le_of_ble_eq_true rfl) ?_
  intro p e s m args below meth c A Q ls hsz hx hb hml hown hts hC hret hthr hout hp hl
  have hl : lv_has ls 4 [(0, .ref q2)] := hl
  have hi2 : ∀ w ∈ wsX20, w ∈ wsX2_openAsStream := fun w h => List.mem_cons_of_mem _ (List.mem_append_left _ (List.mem_append_left _ (List.mem_append_left _ (List.mem_append_left _ (List.mem_append_right _ (h))))))
  have f18 := hts (.fieldLink RX2 18 "SelfOpener$Program" "size" "I") (List.mem_of_getElem? (i := 5) rfl)
  have f15 := hts (.fieldLink RX2 15 "SelfOpener$Program" "opened" "[I") (List.mem_of_getElem? (i := 7) rfl)
  have f9 := hts (.fieldLink RX2 9 "SelfOpener$Program" "bytes" "[I") (List.mem_of_getElem? (i := 6) rfl)
  have m43 := hts (.methodLink RX2 43 arraycopyName) (List.mem_of_getElem? (i := 8) rfl)
  have na := hts (.native arraycopyName) (List.mem_of_getElem? (i := 9) rfl)
  have sa := hts (.static arraycopyName) (List.mem_of_getElem? (i := 10) rfl)
  have is := hts (.initialized "java/lang/System") (List.mem_of_getElem? (i := 11) rfl)
  have l40 := hts (.classLink RX2 40 "java/lang/IllegalStateException") (List.mem_of_getElem? (i := 3) rfl)
  have ini40 := hts (.initialized "java/lang/IllegalStateException") (List.mem_of_getElem? (i := 4) rfl)
  have l37 := hts (.classLink RX2 37 "java/util/NoSuchElementException") (List.mem_of_getElem? (i := 1) rfl)
  have ini37 := hts (.initialized "java/util/NoSuchElementException") (List.mem_of_getElem? (i := 2) rfl)
  obtain ⟨R, hR0⟩ : ∃ z, z = unp pb n (n + 1) 0 0 ob := ⟨_, rfl⟩
  rw [← hR0] at hret hthr hout
  suffices hw : ∀ (H : Heap) (locs : List Loc), Hp G cI A s H locs [oP q2 b2 o2 (↑n) (↑org) ent ed, aI cI b2 160 pb, aI cI o2 160 ob] → W p l e rmX2_openAsStream s m args below meth c H locs 0 0 Q (F0 m 0 ls []) from hw _ _ hp
  clear hp; intro H locs hp
  refine z_iconst hx hb dX2_openAsStream_0 ?_
  refine lv_istore_n (lv' := [(1, .int (iZ (0))), (0, .ref q2)]) hx hb dX2_openAsStream_1 rfl hl (by decide) rfl (fun ls hl => ?_)
  refine z_iconst hx hb dX2_openAsStream_2 ?_
  refine lv_istore_n (lv' := [(2, .int (iZ (0))), (1, .int (iZ (0))), (0, .ref q2)]) hx hb dX2_openAsStream_3 rfl hl (by decide) rfl (fun ls hl => ?_)
  have jn1 : ∀ (rd gr : Nat) (op : Nat → Int) (H : Heap) (locs : List Loc) (ls : Array Slot), (rd ≤ n) → (gr ≤ 160) → ((if n ≤ rd then (1, gr, op) else if rd < n - 1 then (2, gr, op) else (0, gr, op)) = R) → Hp G cI A s H locs [oP q2 b2 o2 (↑n) (↑org) ent ed, aI cI b2 160 pb, aI cI o2 160 op] → lv_has ls 4 [(0, .ref q2), (1, .int (iZ (↑rd))), (2, .int (iZ (↑gr)))] → W p l e rmX2_openAsStream s m args below meth c H locs 0 0 Q (F0 m 69 ls []) := by
    intro rd gr op H locs ls hrd hgr hR hp hl
    refine lv_iload_n hx hb dX2_openAsStream_69 rfl (lv_at hl 1 rfl) ?_
    refine lv_aload_n hx hb dX2_openAsStream_70 rfl (lv_at hl 0 rfl) ?_
    refine z_get hx hb hts hi2 hown hp 0 rfl rfl 2 (by decide) f18 rfl dX2_openAsStream_71 ?_
    refine z_icmp_lt (tgt := 85) hx hb dX2_openAsStream_74 (by decide) (by omega) (fun h5 => ?_) (fun h5 => ?_)
    · skip
      refine lv_iload_n hx hb dX2_openAsStream_85 rfl (lv_at hl 1 rfl) ?_
      refine lv_aload_n hx hb dX2_openAsStream_86 rfl (lv_at hl 0 rfl) ?_
      refine z_get hx hb hts hi2 hown hp 0 rfl rfl 2 (by decide) f18 rfl dX2_openAsStream_87 ?_
      refine z_iconst hx hb dX2_openAsStream_90 ?_
      refine z_isub hx hb ((↑n) - 1) (rfl) dX2_openAsStream_91 ?_
      refine z_icmp_ge (tgt := 103) hx hb dX2_openAsStream_92 (by decide) (by omega) (fun h6 => ?_) (fun h6 => ?_)
      · skip
        rw [if_neg (by omega), if_neg (by omega)] at hR
        subst hR
        refine lv_aload_n hx hb dX2_openAsStream_103 rfl (lv_at hl 0 rfl) ?_
        refine z_get hx hb hts hi2 hown hp 0 rfl rfl 1 (by decide) f15 rfl dX2_openAsStream_104 ?_
        refine z_iconst hx hb dX2_openAsStream_107 ?_
        refine lv_aload_n hx hb dX2_openAsStream_108 rfl (lv_at hl 0 rfl) ?_
        refine z_get hx hb hts hi2 hown hp 0 rfl rfl 0 (by decide) f9 rfl dX2_openAsStream_109 ?_
        refine z_iconst hx hb dX2_openAsStream_112 ?_
        refine lv_iload_n hx hb dX2_openAsStream_113 rfl (lv_at hl 2 rfl) ?_
        refine z_copy hx hb (by rw [hml]; exact hl.1.symm) hown m43 na sa is hp 2 1 rfl rfl (0) (0) (gr) (by omega) (by omega) (by omega) (by omega) (Nat.le_of_ble_eq_true rfl) (Nat.le_of_ble_eq_true rfl) dX2_openAsStream_114 (ws' := [oP q2 b2 o2 (↑n) (↑org) ent ed, aI cI b2 160 (cpZ op pb 0 0 gr), aI cI o2 160 op]) rfl (fun H locs hp => ?_)
        refine lv_aload_n hx hb dX2_openAsStream_117 rfl (lv_at hl 0 rfl) ?_
        refine lv_iload_n hx hb dX2_openAsStream_118 rfl (lv_at hl 2 rfl) ?_
        refine zc_v (wr := [aI cI b2 160 (cpZ op pb 0 0 gr), aI cI o2 160 op]) (W0 := [oP q2 b2 o2 (↑n) (↑org) ent ed]) (wl2 := fun (u : Unit) => [oP q2 b2 o2 (↑gr) (↑org) ent (ed + 1), aI cI b2 160 (cpZ op pb 0 0 gr), aI cI o2 160 op]) (As := [.int (iZ (↑gr))]) (rest := []) hx hb hml hown hts hp (c_X2_shorten l G cI H.size q2 b2 o2 n org ent ed gr) zPre_blind (z_pre hp [0] rfl (by decide) [.ref q2, .int (iZ (↑gr))]) (cwV 1 hts gX2_openAsStream_X2_shorten rfl rfl rfl (by decide +kernel) ⟨Nat.le_of_ble_eq_true rfl, Nat.le_of_ble_eq_true rfl⟩) [0] [1, 2] [2, 0, 1] rfl rfl ⟨by decide, by decide, by decide⟩ (fun _ => rfl) 0 2 rfl rfl rfl rfl hl.1 rfl (Nat.le_of_ble_eq_true rfl) dX2_openAsStream_119 ⟨Nat.le_of_ble_eq_true rfl, Nat.le_of_ble_eq_true rfl⟩ (fun u H locs hq7 hp => ?_)
        exact hret _ _ _ _ _ _ () (rfl) hp dX2_openAsStream_122 (Nat.le_of_ble_eq_true rfl) (Nat.le_of_ble_eq_true rfl)
      · skip
        exact hthr _ _ _ _ _ _ _ "java/lang/IllegalStateException" 40 42 op (by rw [if_neg (by omega), if_pos (by omega)] at hR; rw [← hR]; exact ⟨show (2 : Int) ≠ 0 by decide, rfl⟩) hp hl.1 (by decide) l40 ini40 (fun w h => hts w (List.mem_cons_of_mem _ (List.mem_append_left _ (List.mem_append_left _ (List.mem_append_right _ (h)))))) (by decide +kernel) (by decide +kernel) dX2_openAsStream_95 dX2_openAsStream_98 dX2_openAsStream_99 dX2_openAsStream_102 (Nat.le_of_ble_eq_true rfl) (Nat.le_of_ble_eq_true rfl) (Nat.le_of_ble_eq_true rfl) (Nat.le_of_ble_eq_true rfl) (Nat.le_of_ble_eq_true rfl)
    · skip
      exact hthr _ _ _ _ _ _ _ "java/util/NoSuchElementException" 37 39 op (by rw [if_pos (by omega)] at hR; rw [← hR]; exact ⟨show (1 : Int) ≠ 0 by decide, rfl⟩) hp hl.1 (by decide) l37 ini37 (fun w h => hts w (List.mem_cons_of_mem _ (List.mem_append_left _ (List.mem_append_left _ (List.mem_append_left _ (List.mem_append_right _ (h))))))) (by decide +kernel) (by decide +kernel) dX2_openAsStream_77 dX2_openAsStream_80 dX2_openAsStream_81 dX2_openAsStream_84 (Nat.le_of_ble_eq_true rfl) (Nat.le_of_ble_eq_true rfl) (Nat.le_of_ble_eq_true rfl) (Nat.le_of_ble_eq_true rfl) (Nat.le_of_ble_eq_true rfl)
  have lp8 : ∀ (N_lp8 : Nat) (f rd gr : Nat) (op : Nat → Int) (H : Heap) (locs : List Loc) (ls : Array Slot), (rd ≤ n) → (gr ≤ 160) → (n + 1 ≤ f + rd) → (unp pb n f rd gr op = R) → (n - rd) < N_lp8 → Hp G cI A s H locs [oP q2 b2 o2 (↑n) (↑org) ent ed, aI cI b2 160 pb, aI cI o2 160 op] → lv_has ls 4 [(0, .ref q2), (1, .int (iZ (↑rd))), (2, .int (iZ (↑gr)))] → W p l e rmX2_openAsStream s m args below meth c H locs 0 0 Q (F0 m 4 ls []) := by
    intro N_lp8
    induction N_lp8 with
    | zero => intros; exfalso; omega
    | succ N_lp8 ih_lp8 =>
      intro f rd gr op H locs ls hrd hgr hf hR hN hp hl
      obtain ⟨f, rfl⟩ : ∃ f9, f = f9 + 1 := ⟨f - 1, by omega⟩
      refine lv_iload_n hx hb dX2_openAsStream_4 rfl (lv_at hl 1 rfl) ?_
      refine lv_aload_n hx hb dX2_openAsStream_5 rfl (lv_at hl 0 rfl) ?_
      refine z_get hx hb hts hi2 hown hp 0 rfl rfl 2 (by decide) f18 rfl dX2_openAsStream_6 ?_
      refine z_icmp_ge (tgt := 69) hx hb dX2_openAsStream_9 (by decide) (by omega) (fun h9 => ?_) (fun h9 => ?_)
      · skip
        exact jn1 rd gr op _ _ _ (by omega) (by omega) (by rw [unp_end (by omega)] at hR; exact hR) hp (lv_sub hl [0, 1, 2] rfl)
      · skip
        have hb1 := h_b rd (by omega)
        refine lv_aload_n hx hb dX2_openAsStream_12 rfl (lv_at hl 0 rfl) ?_
        refine z_get hx hb hts hi2 hown hp 0 rfl rfl 0 (by decide) f9 rfl dX2_openAsStream_13 ?_
        refine lv_iload_n hx hb dX2_openAsStream_16 rfl (lv_at hl 1 rfl) ?_
        refine z_iald hx hb hp 1 rfl (rd) (by omega) dX2_openAsStream_17 (pb rd) (rfl) ?_
        refine z_if_eq (tgt := 69) hx hb dX2_openAsStream_18 (by decide) (by omega) (fun h10 => ?_) (fun h10 => ?_)
        · skip
          exact jn1 rd gr op _ _ _ (by omega) (by omega) (by rw [unp_end (by omega)] at hR; exact hR) hp (lv_sub hl [0, 1, 2] rfl)
        · skip
          refine lv_aload_n hx hb dX2_openAsStream_21 rfl (lv_at hl 0 rfl) ?_
          refine z_get hx hb hts hi2 hown hp 0 rfl rfl 0 (by decide) f9 rfl dX2_openAsStream_22 ?_
          refine lv_iload_n hx hb dX2_openAsStream_25 rfl (lv_at hl 1 rfl) ?_
          refine z_iald hx hb hp 1 rfl (rd) (by omega) dX2_openAsStream_26 (pb rd) (rfl) ?_
          refine z_top (↑((pb rd).toNat)) (by omega) ?_
          refine lv_istore_n (lv' := [(3, .int (iZ (↑((pb rd).toNat)))), (0, .ref q2), (1, .int (iZ (↑rd))), (2, .int (iZ (↑gr)))]) hx hb dX2_openAsStream_27 rfl hl (by decide) rfl (fun ls hl => ?_)
          refine lv_iload_n hx hb dX2_openAsStream_28 rfl (lv_at hl 0 rfl) ?_
          refine z_sipush hx hb dX2_openAsStream_29 (by decide +kernel) ?_
          refine z_icmp_ge (tgt := 52) hx hb dX2_openAsStream_32 (by decide) (by omega) (fun h11 => ?_) (fun h11 => ?_)
          · skip
            refine lv_aload_n hx hb dX2_openAsStream_52 rfl (lv_at hl 1 rfl) ?_
            refine lv_iload_n hx hb dX2_openAsStream_53 rfl (lv_at hl 2 rfl) ?_
            refine lv_iload_n hx hb dX2_openAsStream_54 rfl (lv_at hl 0 rfl) ?_
            refine z_bipush hx hb dX2_openAsStream_55 (by decide +kernel) ?_
            refine z_isub hx hb (↑((pb rd).toNat - 126)) (by omega) dX2_openAsStream_57 ?_
            refine lv_iload_n hx hb dX2_openAsStream_58 rfl (lv_at hl 3 rfl) ?_
            by_cases hc : rd + 1 < n ∧ pb (rd + 1) ≠ 0 ∧ (pb (rd + 1)).toNat ≤ gr ∧ (pb rd).toNat - 126 ≤ 160 - gr
            · skip
              refine zc_i (wr := []) (W0 := [oP q2 b2 o2 (↑n) (↑org) ent ed, aI cI b2 160 pb, aI cI o2 160 op]) (wl2 := fun (u : Unit) => [oP q2 b2 o2 (↑n) (↑org) ent ed, aI cI b2 160 pb, aI cI o2 160 (cpy1 op gr (pb (rd + 1)).toNat ((pb rd).toNat - 126))]) (As := [.int (iZ (↑rd)), .int (iZ (↑((pb rd).toNat - 126))), .int (iZ (↑gr))]) (rest := []) hx hb hml hown hts hp (c_X2_openCopy_ok l G cI H.size q2 b2 o2 pb op n org ent ed rd ((pb rd).toNat - 126) gr (by omega) (by omega) (by omega) (by omega) (h_b) (by omega)) zPre_blind (z_pre hp [0, 1, 2] rfl (by decide) [.ref q2, .int (iZ (↑rd)), .int (iZ (↑((pb rd).toNat - 126))), .int (iZ (↑gr))]) (cwV 3 hts gX2_openAsStream_X2_openCopy rfl rfl rfl (by decide +kernel) ⟨Nat.le_of_ble_eq_true rfl, Nat.le_of_ble_eq_true rfl⟩) [0, 1, 2] [] [0, 1, 2] rfl rfl ⟨by decide, by decide, by decide⟩ (fun _ => rfl) 0 2 rfl rfl rfl rfl hl.1 rfl (Nat.le_of_ble_eq_true rfl) dX2_openAsStream_59 ⟨Nat.le_of_ble_eq_true rfl, Nat.le_of_ble_eq_true rfl⟩ (fun rv u H locs hq12 hp => ?_)
              have hq1 := hc.1
              have hq2 := hc.2.1
              have hq3 := hc.2.2.1
              have hq4 := hc.2.2.2
              obtain rfl : rv = iZ (↑(gr + ((pb rd).toNat - 126))) := hq12
              refine lv_istore_n (lv' := [(2, .int (iZ (↑(gr + ((pb rd).toNat - 126))))), (3, .int (iZ (↑((pb rd).toNat)))), (0, .ref q2), (1, .int (iZ (↑rd)))]) hx hb dX2_openAsStream_62 rfl hl (by decide) rfl (fun ls hl => ?_)
              refine z_iinc (k := 3) (lv' := [(1, .int (iZ (↑(rd + 2)))), (2, .int (iZ (↑(gr + ((pb rd).toNat - 126))))), (3, .int (iZ (↑((pb rd).toNat)))), (0, .ref q2)]) hx hb (↑(rd + 2)) (by omega) dX2_openAsStream_63 hl rfl (by decide) rfl (fun ls hl => ?_)
              refine lv_goto (tgt := 4) hx hb dX2_openAsStream_66 (by decide) ?_
              exact ih_lp8 f (rd + 2) (gr + ((pb rd).toNat - 126)) (cpy1 op gr (pb (rd + 1)).toNat ((pb rd).toNat - 126)) _ _ _ (by omega) (by omega) (by omega) (by rw [unp_cpy (by omega) (by omega) (by omega), if_neg (by omega), if_neg (by omega), if_neg (by omega)] at hR; exact hR) (by omega) hp (lv_sub hl [3, 0, 1] rfl)
            · skip
              refine zx_i (wr := []) (W0 := [oP q2 b2 o2 (↑n) (↑org) ent ed, aI cI b2 160 pb, aI cI o2 160 op]) (wl2 := fun (u : Unit) => [oP q2 b2 o2 (↑n) (↑org) ent ed, aI cI b2 160 pb, aI cI o2 160 (cpy1 op gr (pb (rd + 1)).toNat ((pb rd).toNat - 126))]) (As := [.int (iZ (↑rd)), .int (iZ (↑((pb rd).toNat - 126))), .int (iZ (↑gr))]) (rest := []) (wlX := fun (u : Unit) => [oP q2 b2 o2 (↑n) (↑org) ent ed, aI cI b2 160 pb, aI cI o2 160 op]) hx hb hml hown hts hp (c_X2_openCopy l G cI t hst H.size q2 b2 o2 pb op n org ent ed rd ((pb rd).toNat - 126) gr (by omega) (by omega) (by omega) (by omega) (h_b)) zPreC_blind (z_preC hC hp [0, 1, 2] rfl (by decide) [.ref q2, .int (iZ (↑rd)), .int (iZ (↑((pb rd).toNat - 126))), .int (iZ (↑gr))]) (cwV 3 hts gX2_openAsStream_X2_openCopy rfl rfl rfl (by decide +kernel) ⟨Nat.le_of_ble_eq_true rfl, Nat.le_of_ble_eq_true rfl⟩) [0, 1, 2] [] [0, 1, 2] rfl rfl ⟨by decide, by decide, by decide⟩ (fun _ => rfl) (fun _ => rfl) 0 2 rfl rfl rfl rfl hl.1 rfl (Nat.le_of_ble_eq_true rfl) dX2_openAsStream_59 ⟨Nat.le_of_ble_eq_true rfl, Nat.le_of_ble_eq_true rfl⟩ (fun X ce q9 u H1 locs1 hpx hp9 hce hcv hcl => hout _ _ _ _ _ _ _ X ce q9 op (hpx.elim (fun ⟨e1, e2⟩ => by rw [unp_cpy (by omega) (by omega) (by omega), if_pos e2] at hR; rw [← hR]; exact ⟨show (1 : Int) ≠ 0 by decide, e1⟩) (fun hpx => hpx.elim (fun ⟨e1, e2, e3⟩ => by rw [unp_cpy (by omega) (by omega) (by omega), if_neg (by omega), if_pos e3] at hR; rw [← hR]; exact ⟨show (3 : Int) ≠ 0 by decide, e1⟩) (fun ⟨e1, e2, e3, e4, e5⟩ => by rw [unp_cpy (by omega) (by omega) (by omega), if_neg (by omega), if_neg (by omega), if_pos e5] at hR; rw [← hR]; exact ⟨show (4 : Int) ≠ 0 by decide, e1⟩))) hp9 hce hcv hcl (Nat.le_of_ble_eq_true rfl) (Nat.le_of_ble_eq_true rfl)) (fun rv u H locs hq13 hp => ?_)
              have hq1 := hq13.2.1
              have hq2 := hq13.2.2.1
              have hq3 := hq13.2.2.2.1
              have hq4 := hq13.2.2.2.2
              exfalso; exact hc ⟨hq13.2.1, hq13.2.2.1, hq13.2.2.2.1, hq13.2.2.2.2⟩
          · skip
            refine lv_aload_n hx hb dX2_openAsStream_35 rfl (lv_at hl 1 rfl) ?_
            refine lv_iload_n hx hb dX2_openAsStream_36 rfl (lv_at hl 2 rfl) ?_
            refine lv_iload_n hx hb dX2_openAsStream_37 rfl (lv_at hl 0 rfl) ?_
            refine lv_iload_n hx hb dX2_openAsStream_38 rfl (lv_at hl 3 rfl) ?_
            by_cases hc : (pb rd).toNat ≤ n - rd - 1 ∧ (pb rd).toNat ≤ 160 - gr
            · skip
              refine zc_i (wr := []) (W0 := [oP q2 b2 o2 (↑n) (↑org) ent ed, aI cI b2 160 pb, aI cI o2 160 op]) (wl2 := fun (u : Unit) => [oP q2 b2 o2 (↑n) (↑org) ent ed, aI cI b2 160 pb, aI cI o2 160 (cpZ pb op (rd + 1) gr ((pb rd).toNat))]) (As := [.int (iZ (↑rd)), .int (iZ (↑((pb rd).toNat))), .int (iZ (↑gr))]) (rest := []) hx hb hml hown hts hp (c_X2_openRun_ok l G cI H.size q2 b2 o2 pb op n org ent ed rd ((pb rd).toNat) gr (by omega) (by omega) (by omega) (by omega) (by omega)) zPre_blind (z_pre hp [0, 1, 2] rfl (by decide) [.ref q2, .int (iZ (↑rd)), .int (iZ (↑((pb rd).toNat))), .int (iZ (↑gr))]) (cwV 3 hts gX2_openAsStream_X2_openRun rfl rfl rfl (by decide +kernel) ⟨Nat.le_of_ble_eq_true rfl, Nat.le_of_ble_eq_true rfl⟩) [0, 1, 2] [] [0, 1, 2] rfl rfl ⟨by decide, by decide, by decide⟩ (fun _ => rfl) 0 2 rfl rfl rfl rfl hl.1 rfl (Nat.le_of_ble_eq_true rfl) dX2_openAsStream_39 ⟨Nat.le_of_ble_eq_true rfl, Nat.le_of_ble_eq_true rfl⟩ (fun rv u H locs hq14 hp => ?_)
              have hq1 := hc.1
              have hq2 := hc.2
              obtain rfl : rv = iZ (↑(gr + ((pb rd).toNat))) := hq14
              refine lv_istore_n (lv' := [(2, .int (iZ (↑(gr + ((pb rd).toNat))))), (3, .int (iZ (↑((pb rd).toNat)))), (0, .ref q2), (1, .int (iZ (↑rd)))]) hx hb dX2_openAsStream_42 rfl hl (by decide) rfl (fun ls hl => ?_)
              refine lv_iload_n hx hb dX2_openAsStream_43 rfl (lv_at hl 3 rfl) ?_
              refine z_iconst hx hb dX2_openAsStream_44 ?_
              refine lv_iload_n hx hb dX2_openAsStream_45 rfl (lv_at hl 1 rfl) ?_
              refine z_iadd hx hb (1 + (↑((pb rd).toNat))) (rfl) dX2_openAsStream_46 ?_
              refine z_iadd hx hb (↑(rd + 1 + (pb rd).toNat)) (by omega) dX2_openAsStream_47 ?_
              refine lv_istore_n (lv' := [(1, .int (iZ (↑(rd + 1 + (pb rd).toNat)))), (2, .int (iZ (↑(gr + ((pb rd).toNat))))), (3, .int (iZ (↑((pb rd).toNat)))), (0, .ref q2)]) hx hb dX2_openAsStream_48 rfl hl (by decide) rfl (fun ls hl => ?_)
              refine lv_goto (tgt := 66) hx hb dX2_openAsStream_49 (by decide) ?_
              refine lv_goto (tgt := 4) hx hb dX2_openAsStream_66 (by decide) ?_
              exact ih_lp8 f (rd + 1 + (pb rd).toNat) (gr + (pb rd).toNat) (cpZ pb op (rd + 1) gr (pb rd).toNat) _ _ _ (by omega) (by omega) (by omega) (by rw [unp_run (by omega) (by omega) (by omega), if_neg (by omega), if_neg (by omega)] at hR; exact hR) (by omega) hp (lv_sub hl [3, 0, 1] rfl)
            · skip
              refine zx_i (wr := []) (W0 := [oP q2 b2 o2 (↑n) (↑org) ent ed, aI cI b2 160 pb, aI cI o2 160 op]) (wl2 := fun (u : Unit) => [oP q2 b2 o2 (↑n) (↑org) ent ed, aI cI b2 160 pb, aI cI o2 160 (cpZ pb op (rd + 1) gr ((pb rd).toNat))]) (As := [.int (iZ (↑rd)), .int (iZ (↑((pb rd).toNat))), .int (iZ (↑gr))]) (rest := []) (wlX := fun (u : Unit) => [oP q2 b2 o2 (↑n) (↑org) ent ed, aI cI b2 160 pb, aI cI o2 160 op]) hx hb hml hown hts hp (c_X2_openRun l G cI t hst H.size q2 b2 o2 pb op n org ent ed rd ((pb rd).toNat) gr (by omega) (by omega) (by omega) (by omega)) zPreC_blind (z_preC hC hp [0, 1, 2] rfl (by decide) [.ref q2, .int (iZ (↑rd)), .int (iZ (↑((pb rd).toNat))), .int (iZ (↑gr))]) (cwV 3 hts gX2_openAsStream_X2_openRun rfl rfl rfl (by decide +kernel) ⟨Nat.le_of_ble_eq_true rfl, Nat.le_of_ble_eq_true rfl⟩) [0, 1, 2] [] [0, 1, 2] rfl rfl ⟨by decide, by decide, by decide⟩ (fun _ => rfl) (fun _ => rfl) 0 2 rfl rfl rfl rfl hl.1 rfl (Nat.le_of_ble_eq_true rfl) dX2_openAsStream_39 ⟨Nat.le_of_ble_eq_true rfl, Nat.le_of_ble_eq_true rfl⟩ (fun X ce q9 u H1 locs1 hpx hp9 hce hcv hcl => hout _ _ _ _ _ _ _ X ce q9 op (hpx.elim (fun ⟨e1, e2⟩ => by rw [unp_run (by omega) (by omega) (by omega), if_pos e2] at hR; rw [← hR]; exact ⟨show (1 : Int) ≠ 0 by decide, e1⟩) (fun ⟨e1, e2, e3⟩ => by rw [unp_run (by omega) (by omega) (by omega), if_neg (by omega), if_pos e3] at hR; rw [← hR]; exact ⟨show (4 : Int) ≠ 0 by decide, e1⟩)) hp9 hce hcv hcl (Nat.le_of_ble_eq_true rfl) (Nat.le_of_ble_eq_true rfl)) (fun rv u H locs hq15 hp => ?_)
              have hq1 := hq15.2.1
              have hq2 := hq15.2.2
              exfalso; exact hc ⟨hq15.2.1, hq15.2.2⟩
  exact lp8 _ (n + 1) 0 0 ob _ _ _ (by omega) (by omega) (by omega) (hR0.symm) (Nat.lt_succ_self _) hp (lv_sub hl [2, 1, 0] rfl)
