abbrev rmX4_putOut : Room := { frames := 0, cells := 0, slots := 0, locals := 0 }
set_option maxRecDepth 100000 in
set_option maxHeartbeats 4000000 in
theorem c_X4_putOut (l : Launch) (G : va_G) (cI : ClassId) (sz : Nat) (mq mp m1 m2 m3 m4 m5 m6 m7 m8 m9 : Nat) (n org : Nat) (th ent kn gp ln pl st sp po : Int) (kept : Nat → Int) (v : Int) (h_p : 0 ≤ po ∧ po < 2147483647) : Met l yX4_putOut wsX4_putOut rmX4_putOut (zPre G cI [oR mq th (↑n) mp (↑org) ent kn gp ln m1 m2 m3 m4 m5 m6 m7 m8 pl st sp po m9, aI cI m9 32 kept] sz [.ref mq, .int (iZ (v))]) (va_Qv (fun (u : Unit) => True) (fun (u : Unit) t => zB G cI (va_A [oR mq th (↑n) mp (↑org) ent kn gp ln m1 m2 m3 m4 m5 m6 m7 m8 pl st sp po m9, aI cI m9 32 kept] sz) [oR mq th (↑n) mp (↑org) ent kn gp ln m1 m2 m3 m4 m5 m6 m7 m8 pl st sp (po + 1) m9, aI cI m9 32 (upZ kept (po % 32).toNat v)] t) (va_A [oR mq th (↑n) mp (↑org) ent kn gp ln m1 m2 m3 m4 m5 m6 m7 m8 pl st sp po m9, aI cI m9 32 kept] sz)) 0 0 (va_A [oR mq th (↑n) mp (↑org) ent kn gp ln m1 m2 m3 m4 m5 m6 m7 m8 pl st sp po m9, aI cI m9 32 kept] sz) := by
  refine zm_v (W1 := fun (u : Unit) => [oR mq th (↑n) mp (↑org) ent kn gp ln m1 m2 m3 m4 m5 m6 m7 m8 pl st sp (po + 1) m9, aI cI m9 32 (upZ kept (po % 32).toNat v)]) (cc := cX4_putOut) (maxL := 2) (by decide) rfl (Nat.le_of_ble_eq_true rfl) ?_
  intro p e s m args below meth c A Q ls hsz hx hb hml hown hts hnm hret hp hl
  have hl : lv_has ls 2 [(0, .ref mq), (1, .int (iZ (v)))] := hl
  have hi4 : ∀ w ∈ wsX40, w ∈ wsX4_putOut := fun w h => List.mem_cons_of_mem _ (List.mem_append_right _ (h))
  have f41 := hts (.fieldLink RX4 41 "SelfOpenerModel" "out" "[I") (List.mem_of_getElem? (i := 1) rfl)
  have f94 := hts (.fieldLink RX4 94 "SelfOpenerModel" "outs" "I") (List.mem_of_getElem? (i := 2) rfl)
  suffices hw : ∀ (H : Heap) (locs : List Loc), Hp G cI A s H locs [oR mq th (↑n) mp (↑org) ent kn gp ln m1 m2 m3 m4 m5 m6 m7 m8 pl st sp po m9, aI cI m9 32 kept] → W p l e rmX4_putOut s m args below meth c H locs 0 0 Q (F0 m 0 ls []) from hw _ _ hp
  clear hp; intro H locs hp
  refine lv_aload_n hx hb dX4_putOut_0 rfl (lv_at hl 0 rfl) ?_
  refine z_get hx hb hts hi4 hown hp 0 rfl rfl 20 (by decide) f41 rfl dX4_putOut_1 ?_
  refine lv_aload_n hx hb dX4_putOut_4 rfl (lv_at hl 0 rfl) ?_
  refine z_get hx hb hts hi4 hown hp 0 rfl rfl 19 (by decide) f94 rfl dX4_putOut_5 ?_
  refine z_bipush hx hb dX4_putOut_8 (by decide +kernel) ?_
  refine z_irem hx hb (po % 32) (by omega) dX4_putOut_10 ?_
  refine lv_iload_n hx hb dX4_putOut_11 rfl (lv_at hl 1 rfl) ?_
  refine z_iast hx hb hp 1 rfl ((po % 32).toNat) (by omega) dX4_putOut_12 (ws' := [oR mq th (↑n) mp (↑org) ent kn gp ln m1 m2 m3 m4 m5 m6 m7 m8 pl st sp po m9, aI cI m9 32 (upZ kept ((po % 32).toNat) v)]) rfl (fun H locs hp => ?_)
  refine lv_aload_n hx hb dX4_putOut_13 rfl (lv_at hl 0 rfl) ?_
  refine lv_dup hx hb dX4_putOut_14 rfl ?_
  refine z_get hx hb hts hi4 hown hp 0 rfl rfl 19 (by decide) f94 rfl dX4_putOut_15 ?_
  refine z_iconst hx hb dX4_putOut_18 ?_
  refine z_iadd hx hb (po + 1) (rfl) dX4_putOut_19 ?_
  refine z_put hx hb hts hi4 tyX4 tyX4_ok nmX4 hown hp 0 rfl rfl 19 (by decide) f94 rfl (rfl) (rfl) (Nat.le_of_ble_eq_true rfl) dX4_putOut_20 (ws' := [oR mq th (↑n) mp (↑org) ent kn gp ln m1 m2 m3 m4 m5 m6 m7 m8 pl st sp (po + 1) m9, aI cI m9 32 (upZ kept ((po % 32).toNat) v)]) rfl (fun H locs hp => ?_)
  exact hret _ _ _ _ _ _ () (trivial) hp dX4_putOut_23 (Nat.le_of_ble_eq_true rfl) (Nat.le_of_ble_eq_true rfl)
abbrev rmX4_step : Room := { frames := 1, cells := 0, slots := 0, locals := 40 }
set_option maxRecDepth 100000 in
set_option maxHeartbeats 4000000 in
theorem c_X4_step (l : Launch) (G : va_G) (cI : ClassId) (sz : Nat) (mq mp m1 m2 m3 m4 m5 m6 m7 m8 m9 : Nat) (n org : Nat) (th ent kn gp ln : Int) (w : MS) (b : Int) (h_0 : MB w b) (h_1 : b < 2147483646) : Met l yX4_step wsX4_step rmX4_step (zPre G cI [oR mq th (↑n) mp (↑org) ent kn gp ln m1 m2 m3 m4 m5 m6 m7 m8 w.2.2.2.1 w.2.2.2.2.1 w.2.2.2.2.2.1 w.2.2.2.2.2.2 m9, aI cI m7 256 w.1, aI cI m8 8 w.2.1, aI cI m9 32 w.2.2.1] sz [.ref mq]) (va_Qv (fun (u : Unit) => True) (fun (u : Unit) t => zB G cI (va_A [oR mq th (↑n) mp (↑org) ent kn gp ln m1 m2 m3 m4 m5 m6 m7 m8 w.2.2.2.1 w.2.2.2.2.1 w.2.2.2.2.2.1 w.2.2.2.2.2.2 m9, aI cI m7 256 w.1, aI cI m8 8 w.2.1, aI cI m9 32 w.2.2.1] sz) [oR mq th (↑n) mp (↑org) ent kn gp ln m1 m2 m3 m4 m5 m6 m7 m8 ((mstep w).2.2.2.1) ((mstep w).2.2.2.2.1) ((mstep w).2.2.2.2.2.1) ((mstep w).2.2.2.2.2.2) m9, aI cI m7 256 ((mstep w).1), aI cI m8 8 ((mstep w).2.1), aI cI m9 32 ((mstep w).2.2.1)] t) (va_A [oR mq th (↑n) mp (↑org) ent kn gp ln m1 m2 m3 m4 m5 m6 m7 m8 w.2.2.2.1 w.2.2.2.2.1 w.2.2.2.2.2.1 w.2.2.2.2.2.2 m9, aI cI m7 256 w.1, aI cI m8 8 w.2.1, aI cI m9 32 w.2.2.1] sz)) 0 0 (va_A [oR mq th (↑n) mp (↑org) ent kn gp ln m1 m2 m3 m4 m5 m6 m7 m8 w.2.2.2.1 w.2.2.2.2.1 w.2.2.2.2.2.1 w.2.2.2.2.2.2 m9, aI cI m7 256 w.1, aI cI m8 8 w.2.1, aI cI m9 32 w.2.2.1] sz) := by
  refine zm_v (W1 := fun (u : Unit) => [oR mq th (↑n) mp (↑org) ent kn gp ln m1 m2 m3 m4 m5 m6 m7 m8 ((mstep w).2.2.2.1) ((mstep w).2.2.2.2.1) ((mstep w).2.2.2.2.2.1) ((mstep w).2.2.2.2.2.2) m9, aI cI m7 256 ((mstep w).1), aI cI m8 8 ((mstep w).2.1), aI cI m9 32 ((mstep w).2.2.1)]) (cc := cX4_step) (maxL := 6) (by decide) rfl (Nat.le_of_ble_eq_true rfl) ?_
  intro p e s m args below meth c A Q ls hsz hx hb hml hown hts hnm hret hp hl
  have hl : lv_has ls 6 [(0, .ref mq)] := hl
  have hi4 : ∀ w ∈ wsX40, w ∈ wsX4_step := fun w h => List.mem_cons_of_mem _ (List.mem_append_right _ (h))
  have f31 := hts (.fieldLink RX4 31 "SelfOpenerModel" "memory" "[I") (List.mem_of_getElem? (i := 1) rfl)
  have f88 := hts (.fieldLink RX4 88 "SelfOpenerModel" "place" "I") (List.mem_of_getElem? (i := 2) rfl)
  have f34 := hts (.fieldLink RX4 34 "SelfOpenerModel" "registers" "[I") (List.mem_of_getElem? (i := 3) rfl)
  have f91 := hts (.fieldLink RX4 91 "SelfOpenerModel" "steps" "I") (List.mem_of_getElem? (i := 4) rfl)
  have f37 := hts (.fieldLink RX4 37 "SelfOpenerModel" "state" "I") (List.mem_of_getElem? (i := 5) rfl)
  obtain ⟨h1, h2, h3, h4, h5, h6, h7⟩ := h_0
  have hxb : 0 ≤ w.1 w.2.2.2.1.toNat ∧ w.1 w.2.2.2.1.toNat < 256 := h1 _ (by omega)
  have hyb : 0 ≤ w.1 ((w.2.2.2.1 + 1) % 256).toNat ∧ w.1 ((w.2.2.2.1 + 1) % 256).toNat < 256 := h1 _ (by omega)
  have hqb := h2 (w.1 ((w.2.2.2.1 + 1) % 256).toNat % 8).toNat (by omega)
  have hvb := h2 (w.1 w.2.2.2.1.toNat % 8).toNat (by omega)
  obtain ⟨K, hK⟩ : ∃ K : Int, K = w.1 w.2.2.2.1.toNat / 16 := ⟨_, rfl⟩
  have hms : mstep w = (aMem w.1 w.2.1 K (w.1 w.2.2.2.1.toNat % 8).toNat (w.1 ((w.2.2.2.1 + 1) % 256).toNat), aRegs w.1 w.2.1 K (w.1 w.2.2.2.1.toNat % 8).toNat (w.1 ((w.2.2.2.1 + 1) % 256).toNat), aKept w.2.1 w.2.2.1 K (w.1 w.2.2.2.1.toNat % 8).toNat w.2.2.2.2.2.2, aPl w.2.1 K (w.1 w.2.2.2.1.toNat % 8).toNat (w.1 ((w.2.2.2.1 + 1) % 256).toNat) ((w.2.2.2.1 + 2) % 256), aSt K w.2.2.2.2.1, w.2.2.2.2.2.1 + 1, aPo K w.2.2.2.2.2.2) := by rw [hK]; rfl
  rw [hms] at hret
  suffices hw : ∀ (H : Heap) (locs : List Loc), Hp G cI A s H locs [oR mq th (↑n) mp (↑org) ent kn gp ln m1 m2 m3 m4 m5 m6 m7 m8 w.2.2.2.1 w.2.2.2.2.1 w.2.2.2.2.2.1 w.2.2.2.2.2.2 m9, aI cI m7 256 w.1, aI cI m8 8 w.2.1, aI cI m9 32 w.2.2.1] → W p l e rmX4_step s m args below meth c H locs 0 0 Q (F0 m 0 ls []) from hw _ _ hp
  clear hp; intro H locs hp
  refine lv_aload_n hx hb dX4_step_0 rfl (lv_at hl 0 rfl) ?_
  refine z_get hx hb hts hi4 hown hp 0 rfl rfl 14 (by decide) f31 rfl dX4_step_1 ?_
  refine lv_aload_n hx hb dX4_step_4 rfl (lv_at hl 0 rfl) ?_
  refine z_get hx hb hts hi4 hown hp 0 rfl rfl 16 (by decide) f88 rfl dX4_step_5 ?_
  refine z_iald hx hb hp 1 rfl (w.2.2.2.1.toNat) (by omega) dX4_step_8 (w.1 w.2.2.2.1.toNat) (rfl) ?_
  refine lv_istore_n (lv' := [(1, .int (iZ (w.1 w.2.2.2.1.toNat))), (0, .ref mq)]) hx hb dX4_step_9 rfl hl (by decide) rfl (fun ls hl => ?_)
  refine lv_aload_n hx hb dX4_step_10 rfl (lv_at hl 1 rfl) ?_
  refine z_get hx hb hts hi4 hown hp 0 rfl rfl 14 (by decide) f31 rfl dX4_step_11 ?_
  refine lv_aload_n hx hb dX4_step_14 rfl (lv_at hl 1 rfl) ?_
  refine z_get hx hb hts hi4 hown hp 0 rfl rfl 16 (by decide) f88 rfl dX4_step_15 ?_
  refine z_iconst hx hb dX4_step_18 ?_
  refine z_iadd hx hb (w.2.2.2.1 + 1) (rfl) dX4_step_19 ?_
  refine z_sipush hx hb dX4_step_20 (by decide +kernel) ?_
  refine z_iand hx hb ((w.2.2.2.1 + 1) % 256) (iZ_and255 _) dX4_step_23 ?_
  refine z_iald hx hb hp 1 rfl (((w.2.2.2.1 + 1) % 256).toNat) (by omega) dX4_step_24 (w.1 (((w.2.2.2.1 + 1) % 256).toNat)) (rfl) ?_
  refine lv_istore_n (lv' := [(2, .int (iZ (w.1 (((w.2.2.2.1 + 1) % 256).toNat)))), (1, .int (iZ (w.1 w.2.2.2.1.toNat))), (0, .ref mq)]) hx hb dX4_step_25 rfl hl (by decide) rfl (fun ls hl => ?_)
  refine lv_iload_n hx hb dX4_step_26 rfl (lv_at hl 1 rfl) ?_
  refine z_bipush hx hb dX4_step_27 (by decide +kernel) ?_
  refine z_iand hx hb ((w.1 w.2.2.2.1.toNat) % 8) (iZ_and7 _) dX4_step_29 ?_
  refine lv_istore_n (lv' := [(3, .int (iZ ((w.1 w.2.2.2.1.toNat) % 8))), (2, .int (iZ (w.1 (((w.2.2.2.1 + 1) % 256).toNat)))), (1, .int (iZ (w.1 w.2.2.2.1.toNat))), (0, .ref mq)]) hx hb dX4_step_30 rfl hl (by decide) rfl (fun ls hl => ?_)
  refine lv_aload_n hx hb dX4_step_31 rfl (lv_at hl 3 rfl) ?_
  refine z_get hx hb hts hi4 hown hp 0 rfl rfl 15 (by decide) f34 rfl dX4_step_32 ?_
  refine lv_iload_n hx hb dX4_step_35 rfl (lv_at hl 1 rfl) ?_
  refine z_bipush hx hb dX4_step_36 (by decide +kernel) ?_
  refine z_iand hx hb ((w.1 (((w.2.2.2.1 + 1) % 256).toNat)) % 8) (iZ_and7 _) dX4_step_38 ?_
  refine z_iald hx hb hp 2 rfl ((w.1 ((w.2.2.2.1 + 1) % 256).toNat % 8).toNat) (by omega) dX4_step_39 (w.2.1 ((w.1 ((w.2.2.2.1 + 1) % 256).toNat % 8).toNat)) (rfl) ?_
  refine lv_istore (lv' := [(4, .int (iZ (w.2.1 ((w.1 ((w.2.2.2.1 + 1) % 256).toNat % 8).toNat)))), (3, .int (iZ ((w.1 w.2.2.2.1.toNat) % 8))), (2, .int (iZ (w.1 (((w.2.2.2.1 + 1) % 256).toNat)))), (1, .int (iZ (w.1 w.2.2.2.1.toNat))), (0, .ref mq)]) hx hb dX4_step_40 hl (by decide) rfl (fun ls hl => ?_)
  refine lv_aload_n hx hb dX4_step_42 rfl (lv_at hl 4 rfl) ?_
  refine z_get hx hb hts hi4 hown hp 0 rfl rfl 15 (by decide) f34 rfl dX4_step_43 ?_
  refine lv_iload_n hx hb dX4_step_46 rfl (lv_at hl 1 rfl) ?_
  refine z_iald hx hb hp 2 rfl ((w.1 w.2.2.2.1.toNat % 8).toNat) (by omega) dX4_step_47 (w.2.1 ((w.1 w.2.2.2.1.toNat % 8).toNat)) (rfl) ?_
  refine lv_istore (lv' := [(5, .int (iZ (w.2.1 ((w.1 w.2.2.2.1.toNat % 8).toNat)))), (4, .int (iZ (w.2.1 ((w.1 ((w.2.2.2.1 + 1) % 256).toNat % 8).toNat)))), (3, .int (iZ ((w.1 w.2.2.2.1.toNat) % 8))), (2, .int (iZ (w.1 (((w.2.2.2.1 + 1) % 256).toNat)))), (1, .int (iZ (w.1 w.2.2.2.1.toNat))), (0, .ref mq)]) hx hb dX4_step_48 hl (by decide) rfl (fun ls hl => ?_)
  refine lv_aload_n hx hb dX4_step_50 rfl (lv_at hl 5 rfl) ?_
  refine lv_aload_n hx hb dX4_step_51 rfl (lv_at hl 5 rfl) ?_
  refine z_get hx hb hts hi4 hown hp 0 rfl rfl 16 (by decide) f88 rfl dX4_step_52 ?_
  refine z_iconst hx hb dX4_step_55 ?_
  refine z_iadd hx hb (w.2.2.2.1 + 2) (rfl) dX4_step_56 ?_
  refine z_sipush hx hb dX4_step_57 (by decide +kernel) ?_
  refine z_iand hx hb ((w.2.2.2.1 + 2) % 256) (iZ_and255 _) dX4_step_60 ?_
  refine z_put hx hb hts hi4 tyX4 tyX4_ok nmX4 hown hp 0 rfl rfl 16 (by decide) f88 rfl (rfl) (rfl) (Nat.le_of_ble_eq_true rfl) dX4_step_61 (ws' := [oR mq th (↑n) mp (↑org) ent kn gp ln m1 m2 m3 m4 m5 m6 m7 m8 ((w.2.2.2.1 + 2) % 256) w.2.2.2.2.1 w.2.2.2.2.2.1 w.2.2.2.2.2.2 m9, aI cI m7 256 w.1, aI cI m8 8 w.2.1, aI cI m9 32 w.2.2.1]) rfl (fun H locs hp => ?_)
  refine lv_aload_n hx hb dX4_step_64 rfl (lv_at hl 5 rfl) ?_
  refine lv_dup hx hb dX4_step_65 rfl ?_
  refine z_get hx hb hts hi4 hown hp 0 rfl rfl 18 (by decide) f91 rfl dX4_step_66 ?_
  refine z_iconst hx hb dX4_step_69 ?_
  refine z_iadd hx hb (w.2.2.2.2.2.1 + 1) (rfl) dX4_step_70 ?_
  refine z_put hx hb hts hi4 tyX4 tyX4_ok nmX4 hown hp 0 rfl rfl 18 (by decide) f91 rfl (rfl) (rfl) (Nat.le_of_ble_eq_true rfl) dX4_step_71 (ws' := [oR mq th (↑n) mp (↑org) ent kn gp ln m1 m2 m3 m4 m5 m6 m7 m8 ((w.2.2.2.1 + 2) % 256) w.2.2.2.2.1 (w.2.2.2.2.2.1 + 1) w.2.2.2.2.2.2 m9, aI cI m7 256 w.1, aI cI m8 8 w.2.1, aI cI m9 32 w.2.2.1]) rfl (fun H locs hp => ?_)
  refine lv_iload_n hx hb dX4_step_74 rfl (lv_at hl 4 rfl) ?_
  refine z_iconst hx hb dX4_step_75 ?_
  refine z_ishr hx hb ((w.1 w.2.2.2.1.toNat) / 16) (zshr_4 ⟨by omega, by omega⟩) dX4_step_76 ?_
  refine z_top (K) (hK.symm) ?_
  by_cases hk1 : K = 0
  · skip
    refine z_top (0) hk1 ?_
    refine z_tsI (off := 75) (tgt := 152) hx hb dX4_step_77 (by decide) (by decide) (by decide) (by decide +kernel) (by decide) ?_
    subst hk1
    refine lv_aload_n hx hb dX4_step_152 rfl (lv_at hl 5 rfl) ?_
    refine z_iconst hx hb dX4_step_153 ?_
    refine z_put hx hb hts hi4 tyX4 tyX4_ok nmX4 hown hp 0 rfl rfl 17 (by decide) f37 rfl (rfl) (rfl) (Nat.le_of_ble_eq_true rfl) dX4_step_154 (ws' := [oR mq th (↑n) mp (↑org) ent kn gp ln m1 m2 m3 m4 m5 m6 m7 m8 ((w.2.2.2.1 + 2) % 256) 1 (w.2.2.2.2.2.1 + 1) w.2.2.2.2.2.2 m9, aI cI m7 256 w.1, aI cI m8 8 w.2.1, aI cI m9 32 w.2.2.1]) rfl (fun H locs hp => ?_)
    refine lv_goto (tgt := 365) hx hb dX4_step_157 (by decide) ?_
    exact hret _ _ _ _ _ _ () (trivial) hp dX4_step_365 (Nat.le_of_ble_eq_true rfl) (Nat.le_of_ble_eq_true rfl)
  by_cases hk2 : K = 1
  · skip
    refine z_top (1) hk2 ?_
    refine z_tsI (off := 83) (tgt := 160) hx hb dX4_step_77 (by decide) (by decide) (by decide) (by decide +kernel) (by decide) ?_
    subst hk2
    refine lv_aload_n hx hb dX4_step_160 rfl (lv_at hl 5 rfl) ?_
    refine z_get hx hb hts hi4 hown hp 0 rfl rfl 15 (by decide) f34 rfl dX4_step_161 ?_
    refine lv_iload_n hx hb dX4_step_164 rfl (lv_at hl 2 rfl) ?_
    refine lv_iload_n hx hb dX4_step_165 rfl (lv_at hl 3 rfl) ?_
    refine z_iast hx hb hp 2 rfl ((w.1 w.2.2.2.1.toNat % 8).toNat) (by omega) dX4_step_166 (ws' := [oR mq th (↑n) mp (↑org) ent kn gp ln m1 m2 m3 m4 m5 m6 m7 m8 ((w.2.2.2.1 + 2) % 256) w.2.2.2.2.1 (w.2.2.2.2.2.1 + 1) w.2.2.2.2.2.2 m9, aI cI m7 256 w.1, aI cI m8 8 (upZ w.2.1 ((w.1 w.2.2.2.1.toNat % 8).toNat) (w.1 (((w.2.2.2.1 + 1) % 256).toNat))), aI cI m9 32 w.2.2.1]) rfl (fun H locs hp => ?_)
    refine lv_goto (tgt := 365) hx hb dX4_step_167 (by decide) ?_
    exact hret _ _ _ _ _ _ () (trivial) hp dX4_step_365 (Nat.le_of_ble_eq_true rfl) (Nat.le_of_ble_eq_true rfl)
  by_cases hk3 : K = 2
  · skip
    refine z_top (2) hk3 ?_
    refine z_tsI (off := 93) (tgt := 170) hx hb dX4_step_77 (by decide) (by decide) (by decide) (by decide +kernel) (by decide) ?_
    subst hk3
    refine lv_aload_n hx hb dX4_step_170 rfl (lv_at hl 5 rfl) ?_
    refine z_get hx hb hts hi4 hown hp 0 rfl rfl 15 (by decide) f34 rfl dX4_step_171 ?_
    refine lv_iload_n hx hb dX4_step_174 rfl (lv_at hl 2 rfl) ?_
    refine lv_iload hx hb dX4_step_175 (lv_at hl 1 rfl) ?_
    refine z_iast hx hb hp 2 rfl ((w.1 w.2.2.2.1.toNat % 8).toNat) (by omega) dX4_step_177 (ws' := [oR mq th (↑n) mp (↑org) ent kn gp ln m1 m2 m3 m4 m5 m6 m7 m8 ((w.2.2.2.1 + 2) % 256) w.2.2.2.2.1 (w.2.2.2.2.2.1 + 1) w.2.2.2.2.2.2 m9, aI cI m7 256 w.1, aI cI m8 8 (upZ w.2.1 ((w.1 w.2.2.2.1.toNat % 8).toNat) (w.2.1 ((w.1 ((w.2.2.2.1 + 1) % 256).toNat % 8).toNat))), aI cI m9 32 w.2.2.1]) rfl (fun H locs hp => ?_)
    refine lv_goto (tgt := 365) hx hb dX4_step_178 (by decide) ?_
    exact hret _ _ _ _ _ _ () (trivial) hp dX4_step_365 (Nat.le_of_ble_eq_true rfl) (Nat.le_of_ble_eq_true rfl)
  by_cases hk4 : K = 3
  · skip
    refine z_top (3) hk4 ?_
    refine z_tsI (off := 104) (tgt := 181) hx hb dX4_step_77 (by decide) (by decide) (by decide) (by decide +kernel) (by decide) ?_
    subst hk4
    refine lv_aload_n hx hb dX4_step_181 rfl (lv_at hl 5 rfl) ?_
    refine z_get hx hb hts hi4 hown hp 0 rfl rfl 15 (by decide) f34 rfl dX4_step_182 ?_
    refine lv_iload_n hx hb dX4_step_185 rfl (lv_at hl 2 rfl) ?_
    refine lv_iload hx hb dX4_step_186 (lv_at hl 0 rfl) ?_
    refine lv_iload hx hb dX4_step_188 (lv_at hl 1 rfl) ?_
    refine z_iadd hx hb ((w.2.1 ((w.1 w.2.2.2.1.toNat % 8).toNat)) + (w.2.1 ((w.1 ((w.2.2.2.1 + 1) % 256).toNat % 8).toNat))) (rfl) dX4_step_190 ?_
    refine z_sipush hx hb dX4_step_191 (by decide +kernel) ?_
    refine z_iand hx hb (((w.2.1 ((w.1 w.2.2.2.1.toNat % 8).toNat)) + (w.2.1 ((w.1 ((w.2.2.2.1 + 1) % 256).toNat % 8).toNat))) % 256) (iZ_and255 _) dX4_step_194 ?_
    refine z_iast hx hb hp 2 rfl ((w.1 w.2.2.2.1.toNat % 8).toNat) (by omega) dX4_step_195 (ws' := [oR mq th (↑n) mp (↑org) ent kn gp ln m1 m2 m3 m4 m5 m6 m7 m8 ((w.2.2.2.1 + 2) % 256) w.2.2.2.2.1 (w.2.2.2.2.2.1 + 1) w.2.2.2.2.2.2 m9, aI cI m7 256 w.1, aI cI m8 8 (upZ w.2.1 ((w.1 w.2.2.2.1.toNat % 8).toNat) (((w.2.1 ((w.1 w.2.2.2.1.toNat % 8).toNat)) + (w.2.1 ((w.1 ((w.2.2.2.1 + 1) % 256).toNat % 8).toNat))) % 256)), aI cI m9 32 w.2.2.1]) rfl (fun H locs hp => ?_)
    refine lv_goto (tgt := 365) hx hb dX4_step_196 (by decide) ?_
    exact hret _ _ _ _ _ _ () (trivial) hp dX4_step_365 (Nat.le_of_ble_eq_true rfl) (Nat.le_of_ble_eq_true rfl)
  by_cases hk5 : K = 4
  · skip
    refine z_top (4) hk5 ?_
    refine z_tsI (off := 122) (tgt := 199) hx hb dX4_step_77 (by decide) (by decide) (by decide) (by decide +kernel) (by decide) ?_
    subst hk5
    refine lv_aload_n hx hb dX4_step_199 rfl (lv_at hl 5 rfl) ?_
    refine z_get hx hb hts hi4 hown hp 0 rfl rfl 15 (by decide) f34 rfl dX4_step_200 ?_
    refine lv_iload_n hx hb dX4_step_203 rfl (lv_at hl 2 rfl) ?_
    refine lv_iload hx hb dX4_step_204 (lv_at hl 0 rfl) ?_
    refine lv_iload_n hx hb dX4_step_206 rfl (lv_at hl 3 rfl) ?_
    refine z_iadd hx hb ((w.2.1 ((w.1 w.2.2.2.1.toNat % 8).toNat)) + (w.1 (((w.2.2.2.1 + 1) % 256).toNat))) (rfl) dX4_step_207 ?_
    refine z_sipush hx hb dX4_step_208 (by decide +kernel) ?_
    refine z_iand hx hb (((w.2.1 ((w.1 w.2.2.2.1.toNat % 8).toNat)) + (w.1 (((w.2.2.2.1 + 1) % 256).toNat))) % 256) (iZ_and255 _) dX4_step_211 ?_
    refine z_iast hx hb hp 2 rfl ((w.1 w.2.2.2.1.toNat % 8).toNat) (by omega) dX4_step_212 (ws' := [oR mq th (↑n) mp (↑org) ent kn gp ln m1 m2 m3 m4 m5 m6 m7 m8 ((w.2.2.2.1 + 2) % 256) w.2.2.2.2.1 (w.2.2.2.2.2.1 + 1) w.2.2.2.2.2.2 m9, aI cI m7 256 w.1, aI cI m8 8 (upZ w.2.1 ((w.1 w.2.2.2.1.toNat % 8).toNat) (((w.2.1 ((w.1 w.2.2.2.1.toNat % 8).toNat)) + (w.1 (((w.2.2.2.1 + 1) % 256).toNat))) % 256)), aI cI m9 32 w.2.2.1]) rfl (fun H locs hp => ?_)
    refine lv_goto (tgt := 365) hx hb dX4_step_213 (by decide) ?_
    exact hret _ _ _ _ _ _ () (trivial) hp dX4_step_365 (Nat.le_of_ble_eq_true rfl) (Nat.le_of_ble_eq_true rfl)
  by_cases hk6 : K = 5
  · skip
    refine z_top (5) hk6 ?_
    refine z_tsI (off := 139) (tgt := 216) hx hb dX4_step_77 (by decide) (by decide) (by decide) (by decide +kernel) (by decide) ?_
    subst hk6
    refine lv_aload_n hx hb dX4_step_216 rfl (lv_at hl 5 rfl) ?_
    refine z_get hx hb hts hi4 hown hp 0 rfl rfl 15 (by decide) f34 rfl dX4_step_217 ?_
    refine lv_iload_n hx hb dX4_step_220 rfl (lv_at hl 2 rfl) ?_
    refine lv_aload_n hx hb dX4_step_221 rfl (lv_at hl 5 rfl) ?_
    refine z_get hx hb hts hi4 hown hp 0 rfl rfl 14 (by decide) f31 rfl dX4_step_222 ?_
    refine lv_iload hx hb dX4_step_225 (lv_at hl 1 rfl) ?_
    refine z_iald hx hb hp 1 rfl ((w.2.1 (w.1 ((w.2.2.2.1 + 1) % 256).toNat % 8).toNat).toNat) (by omega) dX4_step_227 (w.1 ((w.2.1 (w.1 ((w.2.2.2.1 + 1) % 256).toNat % 8).toNat).toNat)) (rfl) ?_
    refine z_iast hx hb hp 2 rfl ((w.1 w.2.2.2.1.toNat % 8).toNat) (by omega) dX4_step_228 (ws' := [oR mq th (↑n) mp (↑org) ent kn gp ln m1 m2 m3 m4 m5 m6 m7 m8 ((w.2.2.2.1 + 2) % 256) w.2.2.2.2.1 (w.2.2.2.2.2.1 + 1) w.2.2.2.2.2.2 m9, aI cI m7 256 w.1, aI cI m8 8 (upZ w.2.1 ((w.1 w.2.2.2.1.toNat % 8).toNat) (w.1 ((w.2.1 (w.1 ((w.2.2.2.1 + 1) % 256).toNat % 8).toNat).toNat))), aI cI m9 32 w.2.2.1]) rfl (fun H locs hp => ?_)
    refine lv_goto (tgt := 365) hx hb dX4_step_229 (by decide) ?_
    exact hret _ _ _ _ _ _ () (trivial) hp dX4_step_365 (Nat.le_of_ble_eq_true rfl) (Nat.le_of_ble_eq_true rfl)
  by_cases hk7 : K = 6
  · skip
    refine z_top (6) hk7 ?_
    refine z_tsI (off := 155) (tgt := 232) hx hb dX4_step_77 (by decide) (by decide) (by decide) (by decide +kernel) (by decide) ?_
    subst hk7
    refine lv_aload_n hx hb dX4_step_232 rfl (lv_at hl 5 rfl) ?_
    refine z_get hx hb hts hi4 hown hp 0 rfl rfl 14 (by decide) f31 rfl dX4_step_233 ?_
    refine lv_iload hx hb dX4_step_236 (lv_at hl 1 rfl) ?_
    refine lv_iload hx hb dX4_step_238 (lv_at hl 0 rfl) ?_
    refine z_iast hx hb hp 1 rfl ((w.2.1 (w.1 ((w.2.2.2.1 + 1) % 256).toNat % 8).toNat).toNat) (by omega) dX4_step_240 (ws' := [oR mq th (↑n) mp (↑org) ent kn gp ln m1 m2 m3 m4 m5 m6 m7 m8 ((w.2.2.2.1 + 2) % 256) w.2.2.2.2.1 (w.2.2.2.2.2.1 + 1) w.2.2.2.2.2.2 m9, aI cI m7 256 (upZ w.1 ((w.2.1 (w.1 ((w.2.2.2.1 + 1) % 256).toNat % 8).toNat).toNat) (w.2.1 ((w.1 w.2.2.2.1.toNat % 8).toNat))), aI cI m8 8 w.2.1, aI cI m9 32 w.2.2.1]) rfl (fun H locs hp => ?_)
    refine lv_goto (tgt := 365) hx hb dX4_step_241 (by decide) ?_
    exact hret _ _ _ _ _ _ () (trivial) hp dX4_step_365 (Nat.le_of_ble_eq_true rfl) (Nat.le_of_ble_eq_true rfl)
  by_cases hk8 : K = 7
  · skip
    refine z_top (7) hk8 ?_
    refine z_tsI (off := 167) (tgt := 244) hx hb dX4_step_77 (by decide) (by decide) (by decide) (by decide +kernel) (by decide) ?_
    subst hk8
    refine lv_aload_n hx hb dX4_step_244 rfl (lv_at hl 5 rfl) ?_
    refine z_get hx hb hts hi4 hown hp 0 rfl rfl 15 (by decide) f34 rfl dX4_step_245 ?_
    refine lv_iload_n hx hb dX4_step_248 rfl (lv_at hl 2 rfl) ?_
    refine lv_iload hx hb dX4_step_249 (lv_at hl 0 rfl) ?_
    refine lv_iload hx hb dX4_step_251 (lv_at hl 1 rfl) ?_
    refine z_isub hx hb ((w.2.1 ((w.1 w.2.2.2.1.toNat % 8).toNat)) - (w.2.1 ((w.1 ((w.2.2.2.1 + 1) % 256).toNat % 8).toNat))) (rfl) dX4_step_253 ?_
    refine z_sipush hx hb dX4_step_254 (by decide +kernel) ?_
    refine z_iand hx hb (((w.2.1 ((w.1 w.2.2.2.1.toNat % 8).toNat)) - (w.2.1 ((w.1 ((w.2.2.2.1 + 1) % 256).toNat % 8).toNat))) % 256) (iZ_and255 _) dX4_step_257 ?_
    refine z_iast hx hb hp 2 rfl ((w.1 w.2.2.2.1.toNat % 8).toNat) (by omega) dX4_step_258 (ws' := [oR mq th (↑n) mp (↑org) ent kn gp ln m1 m2 m3 m4 m5 m6 m7 m8 ((w.2.2.2.1 + 2) % 256) w.2.2.2.2.1 (w.2.2.2.2.2.1 + 1) w.2.2.2.2.2.2 m9, aI cI m7 256 w.1, aI cI m8 8 (upZ w.2.1 ((w.1 w.2.2.2.1.toNat % 8).toNat) (((w.2.1 ((w.1 w.2.2.2.1.toNat % 8).toNat)) - (w.2.1 ((w.1 ((w.2.2.2.1 + 1) % 256).toNat % 8).toNat))) % 256)), aI cI m9 32 w.2.2.1]) rfl (fun H locs hp => ?_)
    refine lv_goto (tgt := 365) hx hb dX4_step_259 (by decide) ?_
    exact hret _ _ _ _ _ _ () (trivial) hp dX4_step_365 (Nat.le_of_ble_eq_true rfl) (Nat.le_of_ble_eq_true rfl)
  by_cases hk9 : K = 8
  · skip
    refine z_top (8) hk9 ?_
    refine z_tsI (off := 185) (tgt := 262) hx hb dX4_step_77 (by decide) (by decide) (by decide) (by decide +kernel) (by decide) ?_
    subst hk9
    refine lv_aload_n hx hb dX4_step_262 rfl (lv_at hl 5 rfl) ?_
    refine lv_iload_n hx hb dX4_step_263 rfl (lv_at hl 3 rfl) ?_
    refine z_put hx hb hts hi4 tyX4 tyX4_ok nmX4 hown hp 0 rfl rfl 16 (by decide) f88 rfl (rfl) (rfl) (Nat.le_of_ble_eq_true rfl) dX4_step_264 (ws' := [oR mq th (↑n) mp (↑org) ent kn gp ln m1 m2 m3 m4 m5 m6 m7 m8 (w.1 (((w.2.2.2.1 + 1) % 256).toNat)) w.2.2.2.2.1 (w.2.2.2.2.2.1 + 1) w.2.2.2.2.2.2 m9, aI cI m7 256 w.1, aI cI m8 8 w.2.1, aI cI m9 32 w.2.2.1]) rfl (fun H locs hp => ?_)
    refine lv_goto (tgt := 365) hx hb dX4_step_267 (by decide) ?_
    exact hret _ _ _ _ _ _ () (trivial) hp dX4_step_365 (Nat.le_of_ble_eq_true rfl) (Nat.le_of_ble_eq_true rfl)
  by_cases hk10 : K = 9
  · skip
    refine z_top (9) hk10 ?_
    refine z_tsI (off := 193) (tgt := 270) hx hb dX4_step_77 (by decide) (by decide) (by decide) (by decide +kernel) (by decide) ?_
    subst hk10
    refine lv_aload_n hx hb dX4_step_270 rfl (lv_at hl 5 rfl) ?_
    refine lv_iload hx hb dX4_step_271 (lv_at hl 0 rfl) ?_
    refine z_if_ne (tgt := 280) hx hb dX4_step_273 (by decide) (by omega) (fun h11 => ?_) (fun h11 => ?_)
    · skip
      refine lv_aload_n hx hb dX4_step_280 rfl (lv_at hl 5 rfl) ?_
      refine z_get hx hb hts hi4 hown hp 0 rfl rfl 16 (by decide) f88 rfl dX4_step_281 ?_
      refine z_top (aPl w.2.1 9 (w.1 w.2.2.2.1.toNat % 8).toNat (w.1 ((w.2.2.2.1 + 1) % 256).toNat) ((w.2.2.2.1 + 2) % 256)) (by unfold aPl; (repeat' split) <;> omega) ?_
      refine z_put hx hb hts hi4 tyX4 tyX4_ok nmX4 hown hp 0 rfl rfl 16 (by decide) f88 rfl (rfl) (rfl) (Nat.le_of_ble_eq_true rfl) dX4_step_284 (ws' := [oR mq th (↑n) mp (↑org) ent kn gp ln m1 m2 m3 m4 m5 m6 m7 m8 (aPl w.2.1 9 (w.1 w.2.2.2.1.toNat % 8).toNat (w.1 ((w.2.2.2.1 + 1) % 256).toNat) ((w.2.2.2.1 + 2) % 256)) w.2.2.2.2.1 (w.2.2.2.2.2.1 + 1) w.2.2.2.2.2.2 m9, aI cI m7 256 w.1, aI cI m8 8 w.2.1, aI cI m9 32 w.2.2.1]) rfl (fun H locs hp => ?_)
      refine lv_goto (tgt := 365) hx hb dX4_step_287 (by decide) ?_
      exact hret _ _ _ _ _ _ () (trivial) hp dX4_step_365 (Nat.le_of_ble_eq_true rfl) (Nat.le_of_ble_eq_true rfl)
    · skip
      refine lv_iload_n hx hb dX4_step_276 rfl (lv_at hl 3 rfl) ?_
      refine lv_goto (tgt := 284) hx hb dX4_step_277 (by decide) ?_
      refine z_top (aPl w.2.1 9 (w.1 w.2.2.2.1.toNat % 8).toNat (w.1 ((w.2.2.2.1 + 1) % 256).toNat) ((w.2.2.2.1 + 2) % 256)) (by unfold aPl; (repeat' split) <;> omega) ?_
      refine z_put hx hb hts hi4 tyX4 tyX4_ok nmX4 hown hp 0 rfl rfl 16 (by decide) f88 rfl (rfl) (rfl) (Nat.le_of_ble_eq_true rfl) dX4_step_284 (ws' := [oR mq th (↑n) mp (↑org) ent kn gp ln m1 m2 m3 m4 m5 m6 m7 m8 (aPl w.2.1 9 (w.1 w.2.2.2.1.toNat % 8).toNat (w.1 ((w.2.2.2.1 + 1) % 256).toNat) ((w.2.2.2.1 + 2) % 256)) w.2.2.2.2.1 (w.2.2.2.2.2.1 + 1) w.2.2.2.2.2.2 m9, aI cI m7 256 w.1, aI cI m8 8 w.2.1, aI cI m9 32 w.2.2.1]) rfl (fun H locs hp => ?_)
      refine lv_goto (tgt := 365) hx hb dX4_step_287 (by decide) ?_
      exact hret _ _ _ _ _ _ () (trivial) hp dX4_step_365 (Nat.le_of_ble_eq_true rfl) (Nat.le_of_ble_eq_true rfl)
  by_cases hk12 : K = 10
  · skip
    refine z_top (10) hk12 ?_
    refine z_tsI (off := 213) (tgt := 290) hx hb dX4_step_77 (by decide) (by decide) (by decide) (by decide +kernel) (by decide) ?_
    subst hk12
    refine lv_aload_n hx hb dX4_step_290 rfl (lv_at hl 5 rfl) ?_
    refine lv_iload hx hb dX4_step_291 (lv_at hl 0 rfl) ?_
    refine z_bipush hx hb dX4_step_293 (by decide +kernel) ?_
    refine z_icmp_le (tgt := 302) hx hb dX4_step_295 (by decide) (by omega) (fun h13 => ?_) (fun h13 => ?_)
    · skip
      refine lv_aload_n hx hb dX4_step_302 rfl (lv_at hl 5 rfl) ?_
      refine z_get hx hb hts hi4 hown hp 0 rfl rfl 16 (by decide) f88 rfl dX4_step_303 ?_
      refine z_top (aPl w.2.1 10 (w.1 w.2.2.2.1.toNat % 8).toNat (w.1 ((w.2.2.2.1 + 1) % 256).toNat) ((w.2.2.2.1 + 2) % 256)) (by unfold aPl; (repeat' split) <;> omega) ?_
      refine z_put hx hb hts hi4 tyX4 tyX4_ok nmX4 hown hp 0 rfl rfl 16 (by decide) f88 rfl (rfl) (rfl) (Nat.le_of_ble_eq_true rfl) dX4_step_306 (ws' := [oR mq th (↑n) mp (↑org) ent kn gp ln m1 m2 m3 m4 m5 m6 m7 m8 (aPl w.2.1 10 (w.1 w.2.2.2.1.toNat % 8).toNat (w.1 ((w.2.2.2.1 + 1) % 256).toNat) ((w.2.2.2.1 + 2) % 256)) w.2.2.2.2.1 (w.2.2.2.2.2.1 + 1) w.2.2.2.2.2.2 m9, aI cI m7 256 w.1, aI cI m8 8 w.2.1, aI cI m9 32 w.2.2.1]) rfl (fun H locs hp => ?_)
      refine lv_goto (tgt := 365) hx hb dX4_step_309 (by decide) ?_
      exact hret _ _ _ _ _ _ () (trivial) hp dX4_step_365 (Nat.le_of_ble_eq_true rfl) (Nat.le_of_ble_eq_true rfl)
    · skip
      refine lv_iload_n hx hb dX4_step_298 rfl (lv_at hl 3 rfl) ?_
      refine lv_goto (tgt := 306) hx hb dX4_step_299 (by decide) ?_
      refine z_top (aPl w.2.1 10 (w.1 w.2.2.2.1.toNat % 8).toNat (w.1 ((w.2.2.2.1 + 1) % 256).toNat) ((w.2.2.2.1 + 2) % 256)) (by unfold aPl; (repeat' split) <;> omega) ?_
      refine z_put hx hb hts hi4 tyX4 tyX4_ok nmX4 hown hp 0 rfl rfl 16 (by decide) f88 rfl (rfl) (rfl) (Nat.le_of_ble_eq_true rfl) dX4_step_306 (ws' := [oR mq th (↑n) mp (↑org) ent kn gp ln m1 m2 m3 m4 m5 m6 m7 m8 (aPl w.2.1 10 (w.1 w.2.2.2.1.toNat % 8).toNat (w.1 ((w.2.2.2.1 + 1) % 256).toNat) ((w.2.2.2.1 + 2) % 256)) w.2.2.2.2.1 (w.2.2.2.2.2.1 + 1) w.2.2.2.2.2.2 m9, aI cI m7 256 w.1, aI cI m8 8 w.2.1, aI cI m9 32 w.2.2.1]) rfl (fun H locs hp => ?_)
      refine lv_goto (tgt := 365) hx hb dX4_step_309 (by decide) ?_
      exact hret _ _ _ _ _ _ () (trivial) hp dX4_step_365 (Nat.le_of_ble_eq_true rfl) (Nat.le_of_ble_eq_true rfl)
  by_cases hk14 : K = 11
  · skip
    refine z_top (11) hk14 ?_
    refine z_tsI (off := 235) (tgt := 312) hx hb dX4_step_77 (by decide) (by decide) (by decide) (by decide +kernel) (by decide) ?_
    subst hk14
    refine lv_aload_n hx hb dX4_step_312 rfl (lv_at hl 5 rfl) ?_
    refine lv_iload hx hb dX4_step_313 (lv_at hl 0 rfl) ?_
    refine z_put hx hb hts hi4 tyX4 tyX4_ok nmX4 hown hp 0 rfl rfl 16 (by decide) f88 rfl (rfl) (rfl) (Nat.le_of_ble_eq_true rfl) dX4_step_315 (ws' := [oR mq th (↑n) mp (↑org) ent kn gp ln m1 m2 m3 m4 m5 m6 m7 m8 (w.2.1 ((w.1 w.2.2.2.1.toNat % 8).toNat)) w.2.2.2.2.1 (w.2.2.2.2.2.1 + 1) w.2.2.2.2.2.2 m9, aI cI m7 256 w.1, aI cI m8 8 w.2.1, aI cI m9 32 w.2.2.1]) rfl (fun H locs hp => ?_)
    refine lv_goto (tgt := 365) hx hb dX4_step_318 (by decide) ?_
    exact hret _ _ _ _ _ _ () (trivial) hp dX4_step_365 (Nat.le_of_ble_eq_true rfl) (Nat.le_of_ble_eq_true rfl)
  by_cases hk15 : K = 12
  · skip
    refine z_top (12) hk15 ?_
    refine z_tsI (off := 244) (tgt := 321) hx hb dX4_step_77 (by decide) (by decide) (by decide) (by decide +kernel) (by decide) ?_
    subst hk15
    refine lv_aload_n hx hb dX4_step_321 rfl (lv_at hl 5 rfl) ?_
    refine z_get hx hb hts hi4 hown hp 0 rfl rfl 15 (by decide) f34 rfl dX4_step_322 ?_
    refine lv_iload_n hx hb dX4_step_325 rfl (lv_at hl 2 rfl) ?_
    refine lv_iload hx hb dX4_step_326 (lv_at hl 0 rfl) ?_
    refine lv_iload hx hb dX4_step_328 (lv_at hl 1 rfl) ?_
    refine z_iand hx hb (zand (w.2.1 ((w.1 w.2.2.2.1.toNat % 8).toNat)) (w.2.1 ((w.1 ((w.2.2.2.1 + 1) % 256).toNat % 8).toNat))) (zand_e _ _) dX4_step_330 ?_
    refine z_iast hx hb hp 2 rfl ((w.1 w.2.2.2.1.toNat % 8).toNat) (by omega) dX4_step_331 (ws' := [oR mq th (↑n) mp (↑org) ent kn gp ln m1 m2 m3 m4 m5 m6 m7 m8 ((w.2.2.2.1 + 2) % 256) w.2.2.2.2.1 (w.2.2.2.2.2.1 + 1) w.2.2.2.2.2.2 m9, aI cI m7 256 w.1, aI cI m8 8 (upZ w.2.1 ((w.1 w.2.2.2.1.toNat % 8).toNat) (zand (w.2.1 ((w.1 w.2.2.2.1.toNat % 8).toNat)) (w.2.1 ((w.1 ((w.2.2.2.1 + 1) % 256).toNat % 8).toNat)))), aI cI m9 32 w.2.2.1]) rfl (fun H locs hp => ?_)
    refine lv_goto (tgt := 365) hx hb dX4_step_332 (by decide) ?_
    exact hret _ _ _ _ _ _ () (trivial) hp dX4_step_365 (Nat.le_of_ble_eq_true rfl) (Nat.le_of_ble_eq_true rfl)
  by_cases hk16 : K = 13
  · skip
    refine z_top (13) hk16 ?_
    refine z_tsI (off := 258) (tgt := 335) hx hb dX4_step_77 (by decide) (by decide) (by decide) (by decide +kernel) (by decide) ?_
    subst hk16
    refine lv_aload_n hx hb dX4_step_335 rfl (lv_at hl 5 rfl) ?_
    refine z_get hx hb hts hi4 hown hp 0 rfl rfl 15 (by decide) f34 rfl dX4_step_336 ?_
    refine lv_iload_n hx hb dX4_step_339 rfl (lv_at hl 2 rfl) ?_
    refine lv_iload hx hb dX4_step_340 (lv_at hl 0 rfl) ?_
    refine lv_iload_n hx hb dX4_step_342 rfl (lv_at hl 3 rfl) ?_
    refine z_bipush hx hb dX4_step_343 (by decide +kernel) ?_
    refine z_iand hx hb ((w.1 (((w.2.2.2.1 + 1) % 256).toNat)) % 8) (iZ_and7 _) dX4_step_345 ?_
    refine z_ishr hx hb (zshr (w.2.1 ((w.1 w.2.2.2.1.toNat % 8).toNat)) ((w.1 (((w.2.2.2.1 + 1) % 256).toNat)) % 8)) (zshr_e _ _) dX4_step_346 ?_
    refine z_iast hx hb hp 2 rfl ((w.1 w.2.2.2.1.toNat % 8).toNat) (by omega) dX4_step_347 (ws' := [oR mq th (↑n) mp (↑org) ent kn gp ln m1 m2 m3 m4 m5 m6 m7 m8 ((w.2.2.2.1 + 2) % 256) w.2.2.2.2.1 (w.2.2.2.2.2.1 + 1) w.2.2.2.2.2.2 m9, aI cI m7 256 w.1, aI cI m8 8 (upZ w.2.1 ((w.1 w.2.2.2.1.toNat % 8).toNat) (zshr (w.2.1 ((w.1 w.2.2.2.1.toNat % 8).toNat)) ((w.1 (((w.2.2.2.1 + 1) % 256).toNat)) % 8))), aI cI m9 32 w.2.2.1]) rfl (fun H locs hp => ?_)
    refine lv_goto (tgt := 365) hx hb dX4_step_348 (by decide) ?_
    exact hret _ _ _ _ _ _ () (trivial) hp dX4_step_365 (Nat.le_of_ble_eq_true rfl) (Nat.le_of_ble_eq_true rfl)
  by_cases hk17 : K = 14
  · skip
    refine z_top (14) hk17 ?_
    refine z_tsI (off := 274) (tgt := 351) hx hb dX4_step_77 (by decide) (by decide) (by decide) (by decide +kernel) (by decide) ?_
    subst hk17
    refine lv_aload_n hx hb dX4_step_351 rfl (lv_at hl 5 rfl) ?_
    refine lv_iload hx hb dX4_step_352 (lv_at hl 0 rfl) ?_
    refine zc_v (wr := [aI cI m7 256 w.1, aI cI m8 8 w.2.1]) (W0 := [oR mq th (↑n) mp (↑org) ent kn gp ln m1 m2 m3 m4 m5 m6 m7 m8 (((w.2.2.2.1 + 2) % 256)) w.2.2.2.2.1 (w.2.2.2.2.2.1 + 1) w.2.2.2.2.2.2 m9, aI cI m9 32 w.2.2.1]) (wl2 := fun (u : Unit) => [oR mq th (↑n) mp (↑org) ent kn gp ln m1 m2 m3 m4 m5 m6 m7 m8 (((w.2.2.2.1 + 2) % 256)) w.2.2.2.2.1 (w.2.2.2.2.2.1 + 1) (w.2.2.2.2.2.2 + 1) m9, aI cI m7 256 w.1, aI cI m8 8 w.2.1, aI cI m9 32 (upZ w.2.2.1 (w.2.2.2.2.2.2 % 32).toNat (w.2.1 (w.1 w.2.2.2.1.toNat % 8).toNat))]) (As := [.int (iZ (w.2.1 ((w.1 w.2.2.2.1.toNat % 8).toNat)))]) (rest := []) hx hb hml hown hts hp (c_X4_putOut l G cI H.size mq mp m1 m2 m3 m4 m5 m6 m7 m8 m9 n org th ent kn gp ln (((w.2.2.2.1 + 2) % 256)) w.2.2.2.2.1 (w.2.2.2.2.2.1 + 1) w.2.2.2.2.2.2 w.2.2.1 (w.2.1 (w.1 w.2.2.2.1.toNat % 8).toNat) (by omega)) zPre_blind (z_pre hp [0, 3] rfl (by decide) [.ref mq, .int (iZ (w.2.1 ((w.1 w.2.2.2.1.toNat % 8).toNat)))]) (cwV 1 hts gX4_step_X4_putOut rfl rfl rfl (by decide +kernel) ⟨Nat.le_of_ble_eq_true rfl, Nat.le_of_ble_eq_true rfl⟩) [0, 3] [1, 2] [2, 0, 1, 3] rfl rfl ⟨by decide, by decide, by decide⟩ (fun _ => rfl) 0 4 rfl rfl rfl rfl hl.1 rfl (Nat.le_of_ble_eq_true rfl) dX4_step_354 ⟨Nat.le_of_ble_eq_true rfl, Nat.le_of_ble_eq_true rfl⟩ (fun u H locs hq18 hp => ?_)
    refine lv_goto (tgt := 365) hx hb dX4_step_357 (by decide) ?_
    exact hret _ _ _ _ _ _ () (trivial) hp dX4_step_365 (Nat.le_of_ble_eq_true rfl) (Nat.le_of_ble_eq_true rfl)
  by_cases hk19 : K = 15
  · skip
    refine z_top (15) hk19 ?_
    refine z_tsO (tgt := 360) hx hb dX4_step_77 (by decide) (by decide) (by decide) ?_
    subst hk19
    refine lv_aload_n hx hb dX4_step_360 rfl (lv_at hl 5 rfl) ?_
    refine z_iconst hx hb dX4_step_361 ?_
    refine z_put hx hb hts hi4 tyX4 tyX4_ok nmX4 hown hp 0 rfl rfl 17 (by decide) f37 rfl (rfl) (rfl) (Nat.le_of_ble_eq_true rfl) dX4_step_362 (ws' := [oR mq th (↑n) mp (↑org) ent kn gp ln m1 m2 m3 m4 m5 m6 m7 m8 ((w.2.2.2.1 + 2) % 256) 2 (w.2.2.2.2.2.1 + 1) w.2.2.2.2.2.2 m9, aI cI m7 256 w.1, aI cI m8 8 w.2.1, aI cI m9 32 w.2.2.1]) rfl (fun H locs hp => ?_)
    exact hret _ _ _ _ _ _ () (trivial) hp dX4_step_365 (Nat.le_of_ble_eq_true rfl) (Nat.le_of_ble_eq_true rfl)
  exfalso; omega
abbrev rmX4_run : Room := { frames := 2, cells := 0, slots := 0, locals := 80 }
set_option maxRecDepth 100000 in
set_option maxHeartbeats 4000000 in
theorem c_X4_run (l : Launch) (G : va_G) (cI : ClassId) (sz : Nat) (mq mp m1 m2 m3 m4 m5 m6 m7 m8 m9 : Nat) (n org : Nat) (th ent kn gp ln : Int) (w : MS) (b k til : Int) (h_w : MB w b) (h_bb : b < 2147400000) (h_k : rg k) (h_t : rg til) : Met l yX4_run wsX4_run rmX4_run (zPre G cI [oR mq th (↑n) mp (↑org) ent kn gp ln m1 m2 m3 m4 m5 m6 m7 m8 w.2.2.2.1 w.2.2.2.2.1 w.2.2.2.2.2.1 w.2.2.2.2.2.2 m9, aI cI m7 256 w.1, aI cI m8 8 w.2.1, aI cI m9 32 w.2.2.1] sz [.ref mq, .int (iZ (k)), .int (iZ (til))]) (va_Qi (fun (r : Int32) (u : Int × MS) => u.1 = (if (0 ≤ k ∧ k ≤ 4000) ∧ -1 ≤ til ∧ til ≤ 255 then 0 else 1) ∧ (u.1 = 0 → u.2 = (mrun til k.toNat w).2 ∧ r = iZ (↑(mrun til k.toNat w).1)) ∧ (u.1 ≠ 0 → u.2 = w)) (fun (u : Int × MS) t => zB G cI (va_A [oR mq th (↑n) mp (↑org) ent kn gp ln m1 m2 m3 m4 m5 m6 m7 m8 w.2.2.2.1 w.2.2.2.2.1 w.2.2.2.2.2.1 w.2.2.2.2.2.2 m9, aI cI m7 256 w.1, aI cI m8 8 w.2.1, aI cI m9 32 w.2.2.1] sz) [oR mq u.1 (↑n) mp (↑org) ent kn gp ln m1 m2 m3 m4 m5 m6 m7 m8 u.2.2.2.2.1 u.2.2.2.2.2.1 u.2.2.2.2.2.2.1 u.2.2.2.2.2.2.2 m9, aI cI m7 256 u.2.1, aI cI m8 8 u.2.2.1, aI cI m9 32 u.2.2.2.1] t) (va_A [oR mq th (↑n) mp (↑org) ent kn gp ln m1 m2 m3 m4 m5 m6 m7 m8 w.2.2.2.1 w.2.2.2.2.1 w.2.2.2.2.2.1 w.2.2.2.2.2.2 m9, aI cI m7 256 w.1, aI cI m8 8 w.2.1, aI cI m9 32 w.2.2.1] sz)) 0 0 (va_A [oR mq th (↑n) mp (↑org) ent kn gp ln m1 m2 m3 m4 m5 m6 m7 m8 w.2.2.2.1 w.2.2.2.2.1 w.2.2.2.2.2.1 w.2.2.2.2.2.2 m9, aI cI m7 256 w.1, aI cI m8 8 w.2.1, aI cI m9 32 w.2.2.1] sz) := by
  refine zm_i (W1 := fun (u : Int × MS) => [oR mq u.1 (↑n) mp (↑org) ent kn gp ln m1 m2 m3 m4 m5 m6 m7 m8 u.2.2.2.2.1 u.2.2.2.2.2.1 u.2.2.2.2.2.2.1 u.2.2.2.2.2.2.2 m9, aI cI m7 256 u.2.1, aI cI m8 8 u.2.2.1, aI cI m9 32 u.2.2.2.1]) (cc := cX4_run) (maxL := 4) (ty := .int) (by decide) rfl (Nat.le_of_ble_eq_true rfl) ?_
  intro p e s m args below meth c A Q ls hsz hx hb hml hown hts hret hp hl
  have hl : lv_has ls 4 [(0, .ref mq), (1, .int (iZ (k))), (2, .int (iZ (til)))] := hl
  have hi4 : ∀ w ∈ wsX40, w ∈ wsX4_run := fun w h => List.mem_cons_of_mem _ (List.mem_append_right _ (h))
  have f44 := hts (.fieldLink RX4 44 "SelfOpenerModel" "thrown" "I") (List.mem_of_getElem? (i := 1) rfl)
  have f37 := hts (.fieldLink RX4 37 "SelfOpenerModel" "state" "I") (List.mem_of_getElem? (i := 2) rfl)
  have f88 := hts (.fieldLink RX4 88 "SelfOpenerModel" "place" "I") (List.mem_of_getElem? (i := 3) rfl)
  suffices hw : ∀ (H : Heap) (locs : List Loc), Hp G cI A s H locs [oR mq th (↑n) mp (↑org) ent kn gp ln m1 m2 m3 m4 m5 m6 m7 m8 w.2.2.2.1 w.2.2.2.2.1 w.2.2.2.2.2.1 w.2.2.2.2.2.2 m9, aI cI m7 256 w.1, aI cI m8 8 w.2.1, aI cI m9 32 w.2.2.1] → W p l e rmX4_run s m args below meth c H locs 0 0 Q (F0 m 0 ls []) from hw _ _ hp
  clear hp; intro H locs hp
  refine lv_aload_n hx hb dX4_run_0 rfl (lv_at hl 0 rfl) ?_
  have jn1 : ∀ (t : Int) (H : Heap) (locs : List Loc) (ls : Array Slot), (t = if (0 ≤ k ∧ k ≤ 4000) ∧ -1 ≤ til ∧ til ≤ 255 then 0 else 1) → Hp G cI A s H locs [oR mq th (↑n) mp (↑org) ent kn gp ln m1 m2 m3 m4 m5 m6 m7 m8 w.2.2.2.1 w.2.2.2.2.1 w.2.2.2.2.2.1 w.2.2.2.2.2.2 m9, aI cI m7 256 w.1, aI cI m8 8 w.2.1, aI cI m9 32 w.2.2.1] → lv_has ls 4 [(0, .ref mq), (1, .int (iZ (k))), (2, .int (iZ (til)))] → W p l e rmX4_run s m args below meth c H locs 0 0 Q (F0 m 29 ls [.int (iZ (t)), .ref mq]) := by
    intro t H locs ls ht hp hl
    have htb : 0 ≤ t ∧ t ≤ 4 := by rw [ht]; (repeat' split) <;> omega
    refine z_put hx hb hts hi4 tyX4 tyX4_ok nmX4 hown hp 0 rfl rfl 0 (by decide) f44 rfl (rfl) (rfl) (Nat.le_of_ble_eq_true rfl) dX4_run_29 (ws' := [oR mq t (↑n) mp (↑org) ent kn gp ln m1 m2 m3 m4 m5 m6 m7 m8 w.2.2.2.1 w.2.2.2.2.1 w.2.2.2.2.2.1 w.2.2.2.2.2.2 m9, aI cI m7 256 w.1, aI cI m8 8 w.2.1, aI cI m9 32 w.2.2.1]) rfl (fun H locs hp => ?_)
    refine lv_aload_n hx hb dX4_run_32 rfl (lv_at hl 0 rfl) ?_
    refine z_get hx hb hts hi4 hown hp 0 rfl rfl 0 (by decide) f44 rfl dX4_run_33 ?_
    refine z_if_le (tgt := 41) hx hb dX4_run_36 (by decide) (by omega) (fun h3 => ?_) (fun h3 => ?_)
    · skip
      have hti : (0 ≤ k ∧ k ≤ 4000) ∧ -1 ≤ til ∧ til ≤ 255 := by revert ht; split <;> omega
      obtain rfl : t = 0 := by omega
      obtain ⟨R, hR0⟩ : ∃ z, z = mrun til k.toNat w := ⟨_, rfl⟩
      rw [← hR0] at hret
      skip
      refine z_iconst hx hb dX4_run_41 ?_
      refine lv_istore_n (lv' := [(3, .int (iZ (0))), (0, .ref mq), (1, .int (iZ (k))), (2, .int (iZ (til)))]) hx hb dX4_run_42 rfl hl (by decide) rfl (fun ls hl => ?_)
      have jn4 : ∀ (i : Nat) (v : MS) (H : Heap) (locs : List Loc) (ls : Array Slot), ((i, v) = R) → Hp G cI A s H locs [oR mq 0 (↑n) mp (↑org) ent kn gp ln m1 m2 m3 m4 m5 m6 m7 m8 v.2.2.2.1 v.2.2.2.2.1 v.2.2.2.2.2.1 v.2.2.2.2.2.2 m9, aI cI m7 256 v.1, aI cI m8 8 v.2.1, aI cI m9 32 v.2.2.1] → lv_has ls 4 [(0, .ref mq), (3, .int (iZ (↑i)))] → W p l e rmX4_run s m args below meth c H locs 0 0 Q (F0 m 73 ls []) := by
        intro i v H locs ls hR hp hl
        cases hR
        refine lv_iload_n hx hb dX4_run_73 rfl (lv_at hl 1 rfl) ?_
        exact hret _ _ _ _ _ _ _ (0, v) (⟨ht, fun _ => ⟨rfl, rfl⟩, fun q => absurd rfl q⟩) hp dX4_run_74 (rfl) (Nat.le_of_ble_eq_true rfl) (Nat.le_of_ble_eq_true rfl)
      have lp6 : ∀ (N_lp6 : Nat) (f i : Nat) (v : MS) (H : Heap) (locs : List Loc) (ls : Array Slot), (i + f = k.toNat) → ((i + (mrun til f v).1, (mrun til f v).2) = R) → (MB v (b + ↑i)) → f < N_lp6 → Hp G cI A s H locs [oR mq 0 (↑n) mp (↑org) ent kn gp ln m1 m2 m3 m4 m5 m6 m7 m8 v.2.2.2.1 v.2.2.2.2.1 v.2.2.2.2.2.1 v.2.2.2.2.2.2 m9, aI cI m7 256 v.1, aI cI m8 8 v.2.1, aI cI m9 32 v.2.2.1] → lv_has ls 4 [(3, .int (iZ (↑i))), (0, .ref mq), (1, .int (iZ (k))), (2, .int (iZ (til)))] → W p l e rmX4_run s m args below meth c H locs 0 0 Q (F0 m 43 ls []) := by
        intro N_lp6
        induction N_lp6 with
        | zero => intros; exfalso; omega
        | succ N_lp6 ih_lp6 =>
          intro f i v H locs ls hi hR hv hN hp hl
          have hv4 := hv.2.2.2.1
          have hv5 := hv.2.2.2.2.1
          refine lv_iload_n hx hb dX4_run_43 rfl (lv_at hl 0 rfl) ?_
          refine lv_iload_n hx hb dX4_run_44 rfl (lv_at hl 2 rfl) ?_
          refine z_icmp_ge (tgt := 73) hx hb dX4_run_45 (by decide) (by omega) (fun h7 => ?_) (fun h7 => ?_)
          · skip
            exact jn4 i v _ _ _ (by rw [mrun_stop (by omega)] at hR; exact hR) hp (lv_sub hl [1, 0] rfl)
          · skip
            refine lv_aload_n hx hb dX4_run_48 rfl (lv_at hl 1 rfl) ?_
            refine z_get hx hb hts hi4 hown hp 0 rfl rfl 17 (by decide) f37 rfl dX4_run_49 ?_
            refine z_if_ne (tgt := 73) hx hb dX4_run_52 (by decide) (by omega) (fun h8 => ?_) (fun h8 => ?_)
            · skip
              exact jn4 i v _ _ _ (by rw [mrun_stop (by omega)] at hR; exact hR) hp (lv_sub hl [1, 0] rfl)
            · skip
              refine lv_aload_n hx hb dX4_run_55 rfl (lv_at hl 1 rfl) ?_
              refine z_get hx hb hts hi4 hown hp 0 rfl rfl 16 (by decide) f88 rfl dX4_run_56 ?_
              refine lv_iload_n hx hb dX4_run_59 rfl (lv_at hl 3 rfl) ?_
              refine z_icmp_eq (tgt := 73) hx hb dX4_run_60 (by decide) (by omega) (fun h9 => ?_) (fun h9 => ?_)
              · skip
                exact jn4 i v _ _ _ (by rw [mrun_stop (by omega)] at hR; exact hR) hp (lv_sub hl [1, 0] rfl)
              · skip
                obtain ⟨f, rfl⟩ : ∃ f9, f = f9 + 1 := ⟨f - 1, by omega⟩
                refine lv_aload_n hx hb dX4_run_63 rfl (lv_at hl 1 rfl) ?_
                refine zc_v (wr := []) (W0 := [oR mq 0 (↑n) mp (↑org) ent kn gp ln m1 m2 m3 m4 m5 m6 m7 m8 v.2.2.2.1 v.2.2.2.2.1 v.2.2.2.2.2.1 v.2.2.2.2.2.2 m9, aI cI m7 256 v.1, aI cI m8 8 v.2.1, aI cI m9 32 v.2.2.1]) (wl2 := fun (u : Unit) => [oR mq 0 (↑n) mp (↑org) ent kn gp ln m1 m2 m3 m4 m5 m6 m7 m8 ((mstep v).2.2.2.1) ((mstep v).2.2.2.2.1) ((mstep v).2.2.2.2.2.1) ((mstep v).2.2.2.2.2.2) m9, aI cI m7 256 ((mstep v).1), aI cI m8 8 ((mstep v).2.1), aI cI m9 32 ((mstep v).2.2.1)]) (As := []) (rest := []) hx hb hml hown hts hp (c_X4_step l G cI H.size mq mp m1 m2 m3 m4 m5 m6 m7 m8 m9 n org 0 ent kn gp ln v (b + ↑i) (hv) (by omega)) zPre_blind (z_pre hp [0, 1, 2, 3] rfl (by decide) [.ref mq]) (cwV 0 hts gX4_run_X4_step rfl rfl rfl (by decide +kernel) ⟨Nat.le_of_ble_eq_true rfl, Nat.le_of_ble_eq_true rfl⟩) [0, 1, 2, 3] [] [0, 1, 2, 3] rfl rfl ⟨by decide, by decide, by decide⟩ (fun _ => rfl) 0 4 rfl rfl rfl rfl hl.1 rfl (Nat.le_of_ble_eq_true rfl) dX4_run_64 ⟨Nat.le_of_ble_eq_true rfl, Nat.le_of_ble_eq_true rfl⟩ (fun u H locs hq10 hp => ?_)
                refine z_iinc (k := 0) (lv' := [(3, .int (iZ (↑(i + 1)))), (0, .ref mq), (1, .int (iZ (k))), (2, .int (iZ (til)))]) hx hb (↑(i + 1)) (by omega) dX4_run_67 hl rfl (by decide) rfl (fun ls hl => ?_)
                refine lv_goto (tgt := 43) hx hb dX4_run_70 (by decide) ?_
                exact ih_lp6 f (i + 1) (mstep v) _ _ _ (by omega) (by rw [mrun_go (by omega)] at hR; rw [← hR]; congr 1; omega) (by rw [show b + ((i + 1 : Nat) : Int) = b + ↑i + 1 by omega]; exact mstep_b hv) (by omega) hp (lv_sub hl [0, 1, 2, 3] rfl)
      exact lp6 _ k.toNat 0 w _ _ _ (by omega) (by rw [Nat.zero_add, hR0]) (by rw [show b + ((0 : Nat) : Int) = b by omega]; exact h_w) (Nat.lt_succ_self _) hp (lv_sub hl [0, 1, 2, 3] rfl)
    · skip
      refine z_iconst hx hb dX4_run_39 ?_
      exact hret _ _ _ _ _ _ _ (t, w) (⟨ht, fun q => by dsimp only at q; omega, fun _ => rfl⟩) hp dX4_run_40 (rfl) (Nat.le_of_ble_eq_true rfl) (Nat.le_of_ble_eq_true rfl)
  refine lv_iload_n hx hb dX4_run_1 rfl (lv_at hl 1 rfl) ?_
  refine z_if_lt (tgt := 24) hx hb dX4_run_2 (by decide) (by omega) (fun h11 => ?_) (fun h11 => ?_)
  · skip
    refine z_iconst hx hb dX4_run_24 ?_
    refine lv_goto (tgt := 29) hx hb dX4_run_25 (by decide) ?_
    exact jn1 1 _ _ _ (by (repeat' split) <;> omega) hp (lv_sub hl [0, 1, 2] rfl)
  · skip
    refine lv_iload_n hx hb dX4_run_5 rfl (lv_at hl 1 rfl) ?_
    refine z_sipush hx hb dX4_run_6 (by decide +kernel) ?_
    refine z_icmp_gt (tgt := 24) hx hb dX4_run_9 (by decide) (by omega) (fun h12 => ?_) (fun h12 => ?_)
    · skip
      refine z_iconst hx hb dX4_run_24 ?_
      refine lv_goto (tgt := 29) hx hb dX4_run_25 (by decide) ?_
      exact jn1 1 _ _ _ (by (repeat' split) <;> omega) hp (lv_sub hl [0, 1, 2] rfl)
    · skip
      refine lv_iload_n hx hb dX4_run_12 rfl (lv_at hl 2 rfl) ?_
      refine z_iconst hx hb dX4_run_13 ?_
      refine z_icmp_lt (tgt := 24) hx hb dX4_run_14 (by decide) (by omega) (fun h13 => ?_) (fun h13 => ?_)
      · skip
        refine z_iconst hx hb dX4_run_24 ?_
        refine lv_goto (tgt := 29) hx hb dX4_run_25 (by decide) ?_
        exact jn1 1 _ _ _ (by (repeat' split) <;> omega) hp (lv_sub hl [0, 1, 2] rfl)
      · skip
        refine lv_iload_n hx hb dX4_run_17 rfl (lv_at hl 2 rfl) ?_
        refine z_sipush hx hb dX4_run_18 (by decide +kernel) ?_
        refine z_icmp_le (tgt := 28) hx hb dX4_run_21 (by decide) (by omega) (fun h14 => ?_) (fun h14 => ?_)
        · skip
          refine z_iconst hx hb dX4_run_28 ?_
          exact jn1 0 _ _ _ (by (repeat' split) <;> omega) hp (lv_sub hl [0, 1, 2] rfl)
        · skip
          refine z_iconst hx hb dX4_run_24 ?_
          refine lv_goto (tgt := 29) hx hb dX4_run_25 (by decide) ?_
          exact jn1 1 _ _ _ (by (repeat' split) <;> omega) hp (lv_sub hl [0, 1, 2] rfl)
abbrev rmX4_look : Room := { frames := 0, cells := 0, slots := 0, locals := 0 }
set_option maxRecDepth 100000 in
set_option maxHeartbeats 4000000 in
theorem c_X4_look (l : Launch) (G : va_G) (cI : ClassId) (sz : Nat) (mq mp m1 m2 m3 m4 m5 m6 m7 m8 m9 : Nat) (n org : Nat) (th ent kn gp ln pl st sp po : Int) (regs : Nat → Int) (k : Int) (h_k : rg k) : Met l yX4_look wsX4_look rmX4_look (zPre G cI [oR mq th (↑n) mp (↑org) ent kn gp ln m1 m2 m3 m4 m5 m6 m7 m8 pl st sp po m9, aI cI m8 8 regs] sz [.ref mq, .int (iZ (k))]) (va_Qi (fun (r : Int32) (u : Int) => u = (if 0 ≤ k ∧ k < 12 then 0 else 1) ∧ (u = 0 → r = iZ (lookZ regs pl st sp po k))) (fun (u : Int) t => zB G cI (va_A [oR mq th (↑n) mp (↑org) ent kn gp ln m1 m2 m3 m4 m5 m6 m7 m8 pl st sp po m9, aI cI m8 8 regs] sz) [oR mq u (↑n) mp (↑org) ent kn gp ln m1 m2 m3 m4 m5 m6 m7 m8 pl st sp po m9, aI cI m8 8 regs] t) (va_A [oR mq th (↑n) mp (↑org) ent kn gp ln m1 m2 m3 m4 m5 m6 m7 m8 pl st sp po m9, aI cI m8 8 regs] sz)) 0 0 (va_A [oR mq th (↑n) mp (↑org) ent kn gp ln m1 m2 m3 m4 m5 m6 m7 m8 pl st sp po m9, aI cI m8 8 regs] sz) := by
  refine zm_i (W1 := fun (u : Int) => [oR mq u (↑n) mp (↑org) ent kn gp ln m1 m2 m3 m4 m5 m6 m7 m8 pl st sp po m9, aI cI m8 8 regs]) (cc := cX4_look) (maxL := 2) (ty := .int) (by decide) rfl (Nat.le_of_ble_eq_true rfl) ?_
  intro p e s m args below meth c A Q ls hsz hx hb hml hown hts hret hp hl
  have hl : lv_has ls 2 [(0, .ref mq), (1, .int (iZ (k)))] := hl
  have hi4 : ∀ w ∈ wsX40, w ∈ wsX4_look := fun w h => List.mem_cons_of_mem _ (List.mem_append_right _ (h))
  have f44 := hts (.fieldLink RX4 44 "SelfOpenerModel" "thrown" "I") (List.mem_of_getElem? (i := 1) rfl)
  have f94 := hts (.fieldLink RX4 94 "SelfOpenerModel" "outs" "I") (List.mem_of_getElem? (i := 6) rfl)
  have f91 := hts (.fieldLink RX4 91 "SelfOpenerModel" "steps" "I") (List.mem_of_getElem? (i := 5) rfl)
  have f37 := hts (.fieldLink RX4 37 "SelfOpenerModel" "state" "I") (List.mem_of_getElem? (i := 4) rfl)
  have f88 := hts (.fieldLink RX4 88 "SelfOpenerModel" "place" "I") (List.mem_of_getElem? (i := 3) rfl)
  have f34 := hts (.fieldLink RX4 34 "SelfOpenerModel" "registers" "[I") (List.mem_of_getElem? (i := 2) rfl)
  suffices hw : ∀ (H : Heap) (locs : List Loc), Hp G cI A s H locs [oR mq th (↑n) mp (↑org) ent kn gp ln m1 m2 m3 m4 m5 m6 m7 m8 pl st sp po m9, aI cI m8 8 regs] → W p l e rmX4_look s m args below meth c H locs 0 0 Q (F0 m 0 ls []) from hw _ _ hp
  clear hp; intro H locs hp
  refine lv_aload_n hx hb dX4_look_0 rfl (lv_at hl 0 rfl) ?_
  have jn1 : ∀ (t : Int) (H : Heap) (locs : List Loc) (ls : Array Slot), (t = if 0 ≤ k ∧ k < 12 then 0 else 1) → Hp G cI A s H locs [oR mq th (↑n) mp (↑org) ent kn gp ln m1 m2 m3 m4 m5 m6 m7 m8 pl st sp po m9, aI cI m8 8 regs] → lv_has ls 2 [(0, .ref mq), (1, .int (iZ (k)))] → W p l e rmX4_look s m args below meth c H locs 0 0 Q (F0 m 16 ls [.int (iZ (t)), .ref mq]) := by
    intro t H locs ls ht hp hl
    have htb : 0 ≤ t ∧ t ≤ 4 := by rw [ht]; (repeat' split) <;> omega
    refine z_put hx hb hts hi4 tyX4 tyX4_ok nmX4 hown hp 0 rfl rfl 0 (by decide) f44 rfl (rfl) (rfl) (Nat.le_of_ble_eq_true rfl) dX4_look_16 (ws' := [oR mq t (↑n) mp (↑org) ent kn gp ln m1 m2 m3 m4 m5 m6 m7 m8 pl st sp po m9, aI cI m8 8 regs]) rfl (fun H locs hp => ?_)
    refine lv_aload_n hx hb dX4_look_19 rfl (lv_at hl 0 rfl) ?_
    refine z_get hx hb hts hi4 hown hp 0 rfl rfl 0 (by decide) f44 rfl dX4_look_20 ?_
    refine z_if_le (tgt := 28) hx hb dX4_look_23 (by decide) (by omega) (fun h3 => ?_) (fun h3 => ?_)
    · skip
      have hti : 0 ≤ k ∧ k < 12 := by revert ht; split <;> omega
      refine lv_iload_n hx hb dX4_look_28 rfl (lv_at hl 1 rfl) ?_
      refine z_bipush hx hb dX4_look_29 (by decide +kernel) ?_
      refine z_icmp_ge (tgt := 43) hx hb dX4_look_31 (by decide) (by omega) (fun h4 => ?_) (fun h4 => ?_)
      · skip
        refine lv_iload_n hx hb dX4_look_43 rfl (lv_at hl 1 rfl) ?_
        refine z_bipush hx hb dX4_look_44 (by decide +kernel) ?_
        refine z_icmp_ne (tgt := 56) hx hb dX4_look_46 (by decide) (by omega) (fun h5 => ?_) (fun h5 => ?_)
        · skip
          refine lv_iload_n hx hb dX4_look_56 rfl (lv_at hl 1 rfl) ?_
          refine z_bipush hx hb dX4_look_57 (by decide +kernel) ?_
          refine z_icmp_ne (tgt := 69) hx hb dX4_look_59 (by decide) (by omega) (fun h6 => ?_) (fun h6 => ?_)
          · skip
            refine lv_iload_n hx hb dX4_look_69 rfl (lv_at hl 1 rfl) ?_
            refine z_bipush hx hb dX4_look_70 (by decide +kernel) ?_
            refine z_icmp_ne (tgt := 82) hx hb dX4_look_72 (by decide) (by omega) (fun h7 => ?_) (fun h7 => ?_)
            · skip
              refine lv_aload_n hx hb dX4_look_82 rfl (lv_at hl 0 rfl) ?_
              refine z_get hx hb hts hi4 hown hp 0 rfl rfl 19 (by decide) f94 rfl dX4_look_83 ?_
              exact hret _ _ _ _ _ _ _ t (⟨ht, fun _ => congrArg iZ (by unfold lookZ; (repeat' split) <;> first | rfl | omega)⟩) hp dX4_look_86 (rfl) (Nat.le_of_ble_eq_true rfl) (Nat.le_of_ble_eq_true rfl)
            · skip
              refine lv_aload_n hx hb dX4_look_75 rfl (lv_at hl 0 rfl) ?_
              refine z_get hx hb hts hi4 hown hp 0 rfl rfl 18 (by decide) f91 rfl dX4_look_76 ?_
              refine lv_goto (tgt := 86) hx hb dX4_look_79 (by decide) ?_
              exact hret _ _ _ _ _ _ _ t (⟨ht, fun _ => congrArg iZ (by unfold lookZ; (repeat' split) <;> first | rfl | omega)⟩) hp dX4_look_86 (rfl) (Nat.le_of_ble_eq_true rfl) (Nat.le_of_ble_eq_true rfl)
          · skip
            refine lv_aload_n hx hb dX4_look_62 rfl (lv_at hl 0 rfl) ?_
            refine z_get hx hb hts hi4 hown hp 0 rfl rfl 17 (by decide) f37 rfl dX4_look_63 ?_
            refine lv_goto (tgt := 86) hx hb dX4_look_66 (by decide) ?_
            exact hret _ _ _ _ _ _ _ t (⟨ht, fun _ => congrArg iZ (by unfold lookZ; (repeat' split) <;> first | rfl | omega)⟩) hp dX4_look_86 (rfl) (Nat.le_of_ble_eq_true rfl) (Nat.le_of_ble_eq_true rfl)
        · skip
          refine lv_aload_n hx hb dX4_look_49 rfl (lv_at hl 0 rfl) ?_
          refine z_get hx hb hts hi4 hown hp 0 rfl rfl 16 (by decide) f88 rfl dX4_look_50 ?_
          refine lv_goto (tgt := 86) hx hb dX4_look_53 (by decide) ?_
          exact hret _ _ _ _ _ _ _ t (⟨ht, fun _ => congrArg iZ (by unfold lookZ; (repeat' split) <;> first | rfl | omega)⟩) hp dX4_look_86 (rfl) (Nat.le_of_ble_eq_true rfl) (Nat.le_of_ble_eq_true rfl)
      · skip
        refine lv_aload_n hx hb dX4_look_34 rfl (lv_at hl 0 rfl) ?_
        refine z_get hx hb hts hi4 hown hp 0 rfl rfl 15 (by decide) f34 rfl dX4_look_35 ?_
        refine lv_iload_n hx hb dX4_look_38 rfl (lv_at hl 1 rfl) ?_
        refine z_iald hx hb hp 1 rfl (k.toNat) (by omega) dX4_look_39 (regs k.toNat) (rfl) ?_
        refine lv_goto (tgt := 86) hx hb dX4_look_40 (by decide) ?_
        exact hret _ _ _ _ _ _ _ t (⟨ht, fun _ => congrArg iZ (by unfold lookZ; (repeat' split) <;> first | rfl | omega)⟩) hp dX4_look_86 (rfl) (Nat.le_of_ble_eq_true rfl) (Nat.le_of_ble_eq_true rfl)
    · skip
      refine z_iconst hx hb dX4_look_26 ?_
      exact hret _ _ _ _ _ _ _ t (⟨ht, fun q => by omega⟩) hp dX4_look_27 (rfl) (Nat.le_of_ble_eq_true rfl) (Nat.le_of_ble_eq_true rfl)
  refine lv_iload_n hx hb dX4_look_1 rfl (lv_at hl 1 rfl) ?_
  refine z_if_lt (tgt := 11) hx hb dX4_look_2 (by decide) (by omega) (fun h8 => ?_) (fun h8 => ?_)
  · skip
    refine z_iconst hx hb dX4_look_11 ?_
    refine lv_goto (tgt := 16) hx hb dX4_look_12 (by decide) ?_
    exact jn1 1 _ _ _ (by (repeat' split) <;> omega) hp (lv_sub hl [0, 1] rfl)
  · skip
    refine lv_iload_n hx hb dX4_look_5 rfl (lv_at hl 1 rfl) ?_
    refine z_bipush hx hb dX4_look_6 (by decide +kernel) ?_
    refine z_icmp_le (tgt := 15) hx hb dX4_look_8 (by decide) (by omega) (fun h9 => ?_) (fun h9 => ?_)
    · skip
      refine z_iconst hx hb dX4_look_15 ?_
      exact jn1 0 _ _ _ (by (repeat' split) <;> omega) hp (lv_sub hl [0, 1] rfl)
    · skip
      refine z_iconst hx hb dX4_look_11 ?_
      refine lv_goto (tgt := 16) hx hb dX4_look_12 (by decide) ?_
      exact jn1 1 _ _ _ (by (repeat' split) <;> omega) hp (lv_sub hl [0, 1] rfl)
abbrev rmX4_memory : Room := { frames := 1, cells := 0, slots := 0, locals := 40 }
set_option maxRecDepth 100000 in
set_option maxHeartbeats 4000000 in
theorem c_X4_memory (l : Launch) (G : va_G) (cI : ClassId) (sz : Nat) (mq mp m1 m2 m3 m4 m5 m6 m7 m8 m9 : Nat) (n org : Nat) (th ent kn gp ln pl st sp po : Int) (mem : Nat → Int) (i : Int) (h_i : rg i) : Met l yX4_memory wsX4_memory rmX4_memory (zPre G cI [oR mq th (↑n) mp (↑org) ent kn gp ln m1 m2 m3 m4 m5 m6 m7 m8 pl st sp po m9, aI cI m7 256 mem] sz [.ref mq, .int (iZ (i))]) (va_Qi (fun (r : Int32) (u : Int) => u = (if 0 ≤ i ∧ i < 256 then 0 else 1) ∧ (u = 0 → r = iZ (mem i.toNat))) (fun (u : Int) t => zB G cI (va_A [oR mq th (↑n) mp (↑org) ent kn gp ln m1 m2 m3 m4 m5 m6 m7 m8 pl st sp po m9, aI cI m7 256 mem] sz) [oR mq u (↑n) mp (↑org) ent kn gp ln m1 m2 m3 m4 m5 m6 m7 m8 pl st sp po m9, aI cI m7 256 mem] t) (va_A [oR mq th (↑n) mp (↑org) ent kn gp ln m1 m2 m3 m4 m5 m6 m7 m8 pl st sp po m9, aI cI m7 256 mem] sz)) 0 0 (va_A [oR mq th (↑n) mp (↑org) ent kn gp ln m1 m2 m3 m4 m5 m6 m7 m8 pl st sp po m9, aI cI m7 256 mem] sz) := by
  refine zm_i (W1 := fun (u : Int) => [oR mq u (↑n) mp (↑org) ent kn gp ln m1 m2 m3 m4 m5 m6 m7 m8 pl st sp po m9, aI cI m7 256 mem]) (cc := cX4_memory) (maxL := 2) (ty := .int) (by decide) rfl (Nat.le_of_ble_eq_true rfl) ?_
  intro p e s m args below meth c A Q ls hsz hx hb hml hown hts hret hp hl
  have hl : lv_has ls 2 [(0, .ref mq), (1, .int (iZ (i)))] := hl
  have hi4 : ∀ w ∈ wsX40, w ∈ wsX4_memory := fun w h => List.mem_cons_of_mem _ (List.mem_append_right _ (h))
  have f44 := hts (.fieldLink RX4 44 "SelfOpenerModel" "thrown" "I") (List.mem_of_getElem? (i := 1) rfl)
  have f31 := hts (.fieldLink RX4 31 "SelfOpenerModel" "memory" "[I") (List.mem_of_getElem? (i := 2) rfl)
  suffices hw : ∀ (H : Heap) (locs : List Loc), Hp G cI A s H locs [oR mq th (↑n) mp (↑org) ent kn gp ln m1 m2 m3 m4 m5 m6 m7 m8 pl st sp po m9, aI cI m7 256 mem] → W p l e rmX4_memory s m args below meth c H locs 0 0 Q (F0 m 0 ls []) from hw _ _ hp
  clear hp; intro H locs hp
  refine lv_aload_n hx hb dX4_memory_0 rfl (lv_at hl 0 rfl) ?_
  have jn1 : ∀ (t : Int) (H : Heap) (locs : List Loc) (ls : Array Slot), (t = if 0 ≤ i ∧ i < 256 then 0 else 1) → Hp G cI A s H locs [oR mq th (↑n) mp (↑org) ent kn gp ln m1 m2 m3 m4 m5 m6 m7 m8 pl st sp po m9, aI cI m7 256 mem] → lv_has ls 2 [(0, .ref mq), (1, .int (iZ (i)))] → W p l e rmX4_memory s m args below meth c H locs 0 0 Q (F0 m 13 ls [.int (iZ (t)), .ref mq]) := by
    intro t H locs ls ht hp hl
    have htb : 0 ≤ t ∧ t ≤ 4 := by rw [ht]; (repeat' split) <;> omega
    refine z_put hx hb hts hi4 tyX4 tyX4_ok nmX4 hown hp 0 rfl rfl 0 (by decide) f44 rfl (rfl) (rfl) (Nat.le_of_ble_eq_true rfl) dX4_memory_13 (ws' := [oR mq t (↑n) mp (↑org) ent kn gp ln m1 m2 m3 m4 m5 m6 m7 m8 pl st sp po m9, aI cI m7 256 mem]) rfl (fun H locs hp => ?_)
    refine lv_aload_n hx hb dX4_memory_16 rfl (lv_at hl 0 rfl) ?_
    refine z_get hx hb hts hi4 hown hp 0 rfl rfl 0 (by decide) f44 rfl dX4_memory_17 ?_
    refine z_if_le (tgt := 27) hx hb dX4_memory_20 (by decide) (by omega) (fun h3 => ?_) (fun h3 => ?_)
    · skip
      have hti : 0 ≤ i ∧ i < 256 := by revert ht; split <;> omega
      refine lv_aload_n hx hb dX4_memory_27 rfl (lv_at hl 0 rfl) ?_
      refine z_get hx hb hts hi4 hown hp 0 rfl rfl 14 (by decide) f31 rfl dX4_memory_28 ?_
      refine lv_iload_n hx hb dX4_memory_31 rfl (lv_at hl 1 rfl) ?_
      refine z_iald hx hb hp 1 rfl (i.toNat) (by omega) dX4_memory_32 (mem i.toNat) (rfl) ?_
      exact hret _ _ _ _ _ _ _ t (⟨ht, fun _ => rfl⟩) hp dX4_memory_33 (rfl) (Nat.le_of_ble_eq_true rfl) (Nat.le_of_ble_eq_true rfl)
    · skip
      refine z_iconst hx hb dX4_memory_23 ?_
      refine lv_goto (tgt := 33) hx hb dX4_memory_24 (by decide) ?_
      exact hret _ _ _ _ _ _ _ t (⟨ht, fun q => by omega⟩) hp dX4_memory_33 (rfl) (Nat.le_of_ble_eq_true rfl) (Nat.le_of_ble_eq_true rfl)
  refine lv_iload_n hx hb dX4_memory_1 rfl (lv_at hl 1 rfl) ?_
  refine zs_i (wr := [oR mq th (↑n) mp (↑org) ent kn gp ln m1 m2 m3 m4 m5 m6 m7 m8 pl st sp po m9, aI cI m7 256 mem]) (W0 := []) (wl2 := fun (u : Unit) => [oR mq th (↑n) mp (↑org) ent kn gp ln m1 m2 m3 m4 m5 m6 m7 m8 pl st sp po m9, aI cI m7 256 mem]) (As := [.int (iZ (i))]) (rest := [.ref mq]) hx hb hml hown hts hp (c_X4_isByte l G cI H.size i (by omega)) zPre_blind (z_pre hp [] rfl (by decide) [.int (iZ (i))]) (va_cwS 1 hts gX4_memory_X4_isByte rfl rfl rfl (by decide +kernel) ⟨Nat.le_of_ble_eq_true rfl, Nat.le_of_ble_eq_true rfl⟩) [] [0, 1] [0, 1] rfl rfl ⟨by decide, by decide, by decide⟩ (fun _ => rfl) rfl hl.1 rfl (Nat.le_of_ble_eq_true rfl) dX4_memory_2 ⟨Nat.le_of_ble_eq_true rfl, Nat.le_of_ble_eq_true rfl⟩ (fun rv u H locs hq4 hp => ?_)
  obtain rfl : rv = iZ (if 0 ≤ i ∧ i < 256 then 1 else 0) := hq4
  refine z_if_eq (tgt := 12) hx hb dX4_memory_5 (by decide) (by omega) (fun h5 => ?_) (fun h5 => ?_)
  · skip
    refine z_iconst hx hb dX4_memory_12 ?_
    exact jn1 1 _ _ _ (by (repeat' split) <;> omega) hp (lv_sub hl [0, 1] rfl)
  · skip
    refine z_iconst hx hb dX4_memory_8 ?_
    refine lv_goto (tgt := 13) hx hb dX4_memory_9 (by decide) ?_
    exact jn1 0 _ _ _ (by (repeat' split) <;> omega) hp (lv_sub hl [0, 1] rfl)
abbrev rmX4_out : Room := { frames := 0, cells := 0, slots := 0, locals := 0 }
set_option maxRecDepth 100000 in
set_option maxHeartbeats 4000000 in
theorem c_X4_out (l : Launch) (G : va_G) (cI : ClassId) (sz : Nat) (mq mp m1 m2 m3 m4 m5 m6 m7 m8 m9 : Nat) (n org : Nat) (th ent kn gp ln pl st sp po : Int) (kept : Nat → Int) (i : Int) (h_i : rg i) (h_p : 0 ≤ po ∧ po < 2147483648) : Met l yX4_out wsX4_out rmX4_out (zPre G cI [oR mq th (↑n) mp (↑org) ent kn gp ln m1 m2 m3 m4 m5 m6 m7 m8 pl st sp po m9, aI cI m9 32 kept] sz [.ref mq, .int (iZ (i))]) (va_Qi (fun (r : Int32) (u : Int) => u = (if 0 ≤ i ∧ i < po ∧ po - 32 ≤ i then 0 else 1) ∧ (u = 0 → r = iZ (kept (i % 32).toNat))) (fun (u : Int) t => zB G cI (va_A [oR mq th (↑n) mp (↑org) ent kn gp ln m1 m2 m3 m4 m5 m6 m7 m8 pl st sp po m9, aI cI m9 32 kept] sz) [oR mq u (↑n) mp (↑org) ent kn gp ln m1 m2 m3 m4 m5 m6 m7 m8 pl st sp po m9, aI cI m9 32 kept] t) (va_A [oR mq th (↑n) mp (↑org) ent kn gp ln m1 m2 m3 m4 m5 m6 m7 m8 pl st sp po m9, aI cI m9 32 kept] sz)) 0 0 (va_A [oR mq th (↑n) mp (↑org) ent kn gp ln m1 m2 m3 m4 m5 m6 m7 m8 pl st sp po m9, aI cI m9 32 kept] sz) := by
  refine zm_i (W1 := fun (u : Int) => [oR mq u (↑n) mp (↑org) ent kn gp ln m1 m2 m3 m4 m5 m6 m7 m8 pl st sp po m9, aI cI m9 32 kept]) (cc := cX4_out) (maxL := 2) (ty := .int) (by decide) rfl (Nat.le_of_ble_eq_true rfl) ?_
  intro p e s m args below meth c A Q ls hsz hx hb hml hown hts hret hp hl
  have hl : lv_has ls 2 [(0, .ref mq), (1, .int (iZ (i)))] := hl
  have hi4 : ∀ w ∈ wsX40, w ∈ wsX4_out := fun w h => List.mem_cons_of_mem _ (List.mem_append_right _ (h))
  have f44 := hts (.fieldLink RX4 44 "SelfOpenerModel" "thrown" "I") (List.mem_of_getElem? (i := 2) rfl)
  have f41 := hts (.fieldLink RX4 41 "SelfOpenerModel" "out" "[I") (List.mem_of_getElem? (i := 3) rfl)
  have f94 := hts (.fieldLink RX4 94 "SelfOpenerModel" "outs" "I") (List.mem_of_getElem? (i := 1) rfl)
  suffices hw : ∀ (H : Heap) (locs : List Loc), Hp G cI A s H locs [oR mq th (↑n) mp (↑org) ent kn gp ln m1 m2 m3 m4 m5 m6 m7 m8 pl st sp po m9, aI cI m9 32 kept] → W p l e rmX4_out s m args below meth c H locs 0 0 Q (F0 m 0 ls []) from hw _ _ hp
  clear hp; intro H locs hp
  refine lv_aload_n hx hb dX4_out_0 rfl (lv_at hl 0 rfl) ?_
  have jn1 : ∀ (t : Int) (H : Heap) (locs : List Loc) (ls : Array Slot), (t = if 0 ≤ i ∧ i < po ∧ po - 32 ≤ i then 0 else 1) → Hp G cI A s H locs [oR mq th (↑n) mp (↑org) ent kn gp ln m1 m2 m3 m4 m5 m6 m7 m8 pl st sp po m9, aI cI m9 32 kept] → lv_has ls 2 [(0, .ref mq), (1, .int (iZ (i)))] → W p l e rmX4_out s m args below meth c H locs 0 0 Q (F0 m 29 ls [.int (iZ (t)), .ref mq]) := by
    intro t H locs ls ht hp hl
    have htb : 0 ≤ t ∧ t ≤ 4 := by rw [ht]; (repeat' split) <;> omega
    refine z_put hx hb hts hi4 tyX4 tyX4_ok nmX4 hown hp 0 rfl rfl 0 (by decide) f44 rfl (rfl) (rfl) (Nat.le_of_ble_eq_true rfl) dX4_out_29 (ws' := [oR mq t (↑n) mp (↑org) ent kn gp ln m1 m2 m3 m4 m5 m6 m7 m8 pl st sp po m9, aI cI m9 32 kept]) rfl (fun H locs hp => ?_)
    refine lv_aload_n hx hb dX4_out_32 rfl (lv_at hl 0 rfl) ?_
    refine z_get hx hb hts hi4 hown hp 0 rfl rfl 0 (by decide) f44 rfl dX4_out_33 ?_
    refine z_if_le (tgt := 43) hx hb dX4_out_36 (by decide) (by omega) (fun h3 => ?_) (fun h3 => ?_)
    · skip
      have hti : 0 ≤ i ∧ i < po ∧ po - 32 ≤ i := by revert ht; split <;> omega
      refine lv_aload_n hx hb dX4_out_43 rfl (lv_at hl 0 rfl) ?_
      refine z_get hx hb hts hi4 hown hp 0 rfl rfl 20 (by decide) f41 rfl dX4_out_44 ?_
      refine lv_iload_n hx hb dX4_out_47 rfl (lv_at hl 1 rfl) ?_
      refine z_bipush hx hb dX4_out_48 (by decide +kernel) ?_
      refine z_irem hx hb (i % 32) (by omega) dX4_out_50 ?_
      refine z_iald hx hb hp 1 rfl ((i % 32).toNat) (by omega) dX4_out_51 (kept ((i % 32).toNat)) (rfl) ?_
      exact hret _ _ _ _ _ _ _ t (⟨ht, fun _ => rfl⟩) hp dX4_out_52 (rfl) (Nat.le_of_ble_eq_true rfl) (Nat.le_of_ble_eq_true rfl)
    · skip
      refine z_iconst hx hb dX4_out_39 ?_
      refine lv_goto (tgt := 52) hx hb dX4_out_40 (by decide) ?_
      exact hret _ _ _ _ _ _ _ t (⟨ht, fun q => by omega⟩) hp dX4_out_52 (rfl) (Nat.le_of_ble_eq_true rfl) (Nat.le_of_ble_eq_true rfl)
  refine lv_iload_n hx hb dX4_out_1 rfl (lv_at hl 1 rfl) ?_
  refine z_if_lt (tgt := 24) hx hb dX4_out_2 (by decide) (by omega) (fun h4 => ?_) (fun h4 => ?_)
  · skip
    refine z_iconst hx hb dX4_out_24 ?_
    refine lv_goto (tgt := 29) hx hb dX4_out_25 (by decide) ?_
    exact jn1 1 _ _ _ (by (repeat' split) <;> omega) hp (lv_sub hl [0, 1] rfl)
  · skip
    refine lv_iload_n hx hb dX4_out_5 rfl (lv_at hl 1 rfl) ?_
    refine lv_aload_n hx hb dX4_out_6 rfl (lv_at hl 0 rfl) ?_
    refine z_get hx hb hts hi4 hown hp 0 rfl rfl 19 (by decide) f94 rfl dX4_out_7 ?_
    refine z_icmp_ge (tgt := 24) hx hb dX4_out_10 (by decide) (by omega) (fun h5 => ?_) (fun h5 => ?_)
    · skip
      refine z_iconst hx hb dX4_out_24 ?_
      refine lv_goto (tgt := 29) hx hb dX4_out_25 (by decide) ?_
      exact jn1 1 _ _ _ (by (repeat' split) <;> omega) hp (lv_sub hl [0, 1] rfl)
    · skip
      refine lv_iload_n hx hb dX4_out_13 rfl (lv_at hl 1 rfl) ?_
      refine lv_aload_n hx hb dX4_out_14 rfl (lv_at hl 0 rfl) ?_
      refine z_get hx hb hts hi4 hown hp 0 rfl rfl 19 (by decide) f94 rfl dX4_out_15 ?_
      refine z_bipush hx hb dX4_out_18 (by decide +kernel) ?_
      refine z_isub hx hb (po - 32) (rfl) dX4_out_20 ?_
      refine z_icmp_ge (tgt := 28) hx hb dX4_out_21 (by decide) (by omega) (fun h6 => ?_) (fun h6 => ?_)
      · skip
        refine z_iconst hx hb dX4_out_28 ?_
        exact jn1 0 _ _ _ (by (repeat' split) <;> omega) hp (lv_sub hl [0, 1] rfl)
      · skip
        refine z_iconst hx hb dX4_out_24 ?_
        refine lv_goto (tgt := 29) hx hb dX4_out_25 (by decide) ?_
        exact jn1 1 _ _ _ (by (repeat' split) <;> omega) hp (lv_sub hl [0, 1] rfl)
abbrev rmX4_apart : Room := { frames := 3, cells := 0, slots := 0, locals := 120 }
set_option maxRecDepth 100000 in
set_option maxHeartbeats 4000000 in
theorem c_X4_apart (l : Launch) (G : va_G) (cI : ClassId) (sz : Nat) (mq mp m1 m2 m3 m4 m5 m6 m7 m8 m9 : Nat) (n org : Nat) (th ent kn gp ln pl st sp po : Int) (pb strm cst tok dst rgt : Nat → Int) (mem : Nat → Int) (h_n : n ≤ 160) (h_b : BB pb 160) (h_kn : rg kn) (h_f : kn ≠ 0 → Fresh pb n ln gp strm) (h_o : org < 256) : Met l yX4_apart wsX4_apart rmX4_apart (zPre G cI [oR mq th (↑n) mp (↑org) ent kn gp ln m1 m2 m3 m4 m5 m6 m7 m8 pl st sp po m9, aI cI mp 160 pb, aI cI m1 400 strm, aI cI m2 161 cst, aI cI m3 161 tok, aI cI m4 161 dst, aI cI m5 161 rgt, aI cI m7 256 mem] sz [.ref mq]) (va_Qi (fun (r : Int32) (u : Int × Int × Int × Int × (Nat → Int) × (Nat → Int) × (Nat → Int) × (Nat → Int) × (Nat → Int)) => u.1 = (if ¬ (org + n ≤ 256) then 1 else if ¬ (↑org + ↑n + u.2.2.2.1 + 60 ≤ 256) then 2 else 0) ∧ rg u.2.1 ∧ (u.2.1 ≠ 0 → Fresh pb n u.2.2.1 u.2.2.2.1 u.2.2.2.2.1) ∧ (org + n ≤ 256 → u.2.1 ≠ 0) ∧ (u.1 = 0 → r = iZ (apN mem (ldZ pb n org) (↑org + ↑n) (↑org + ↑n + u.2.2.2.1 + 60) 256))) (fun (u : Int × Int × Int × Int × (Nat → Int) × (Nat → Int) × (Nat → Int) × (Nat → Int) × (Nat → Int)) t => zB G cI (va_A [oR mq th (↑n) mp (↑org) ent kn gp ln m1 m2 m3 m4 m5 m6 m7 m8 pl st sp po m9, aI cI mp 160 pb, aI cI m1 400 strm, aI cI m2 161 cst, aI cI m3 161 tok, aI cI m4 161 dst, aI cI m5 161 rgt, aI cI m7 256 mem] sz) [oR mq u.1 (↑n) mp (↑org) ent u.2.1 u.2.2.2.1 u.2.2.1 m1 m2 m3 m4 m5 m6 m7 m8 pl st sp po m9, aI cI mp 160 pb, aI cI m1 400 u.2.2.2.2.1, aI cI m2 161 u.2.2.2.2.2.1, aI cI m3 161 u.2.2.2.2.2.2.1, aI cI m4 161 u.2.2.2.2.2.2.2.1, aI cI m5 161 u.2.2.2.2.2.2.2.2, aI cI m7 256 mem] t) (va_A [oR mq th (↑n) mp (↑org) ent kn gp ln m1 m2 m3 m4 m5 m6 m7 m8 pl st sp po m9, aI cI mp 160 pb, aI cI m1 400 strm, aI cI m2 161 cst, aI cI m3 161 tok, aI cI m4 161 dst, aI cI m5 161 rgt, aI cI m7 256 mem] sz)) 0 0 (va_A [oR mq th (↑n) mp (↑org) ent kn gp ln m1 m2 m3 m4 m5 m6 m7 m8 pl st sp po m9, aI cI mp 160 pb, aI cI m1 400 strm, aI cI m2 161 cst, aI cI m3 161 tok, aI cI m4 161 dst, aI cI m5 161 rgt, aI cI m7 256 mem] sz) := by
  refine zm_i (W1 := fun (u : Int × Int × Int × Int × (Nat → Int) × (Nat → Int) × (Nat → Int) × (Nat → Int) × (Nat → Int)) => [oR mq u.1 (↑n) mp (↑org) ent u.2.1 u.2.2.2.1 u.2.2.1 m1 m2 m3 m4 m5 m6 m7 m8 pl st sp po m9, aI cI mp 160 pb, aI cI m1 400 u.2.2.2.2.1, aI cI m2 161 u.2.2.2.2.2.1, aI cI m3 161 u.2.2.2.2.2.2.1, aI cI m4 161 u.2.2.2.2.2.2.2.1, aI cI m5 161 u.2.2.2.2.2.2.2.2, aI cI m7 256 mem]) (cc := cX4_apart) (maxL := 6) (ty := .int) (by decide) rfl (Nat.le_of_ble_eq_true rfl) ?_
  intro p e s m args below meth c A Q ls hsz hx hb hml hown hts hret hp hl
  have hl : lv_has ls 6 [(0, .ref mq)] := hl
  have hi4 : ∀ w ∈ wsX40, w ∈ wsX4_apart := fun w h => List.mem_cons_of_mem _ (List.mem_append_right _ (h))
  have f44 := hts (.fieldLink RX4 44 "SelfOpenerModel" "thrown" "I") (List.mem_of_getElem? (i := 3) rfl)
  have f60 := hts (.fieldLink RX4 60 "SelfOpenerModel" "origin" "I") (List.mem_of_getElem? (i := 1) rfl)
  have f47 := hts (.fieldLink RX4 47 "SelfOpenerModel" "size" "I") (List.mem_of_getElem? (i := 2) rfl)
  have f31 := hts (.fieldLink RX4 31 "SelfOpenerModel" "memory" "[I") (List.mem_of_getElem? (i := 6) rfl)
  have f71 := hts (.fieldLink RX4 71 "SelfOpenerModel" "gap" "I") (List.mem_of_getElem? (i := 5) rfl)
  have f7 := hts (.fieldLink RX4 7 "SelfOpenerModel" "program" "[I") (List.mem_of_getElem? (i := 4) rfl)
  suffices hw : ∀ (H : Heap) (locs : List Loc), Hp G cI A s H locs [oR mq th (↑n) mp (↑org) ent kn gp ln m1 m2 m3 m4 m5 m6 m7 m8 pl st sp po m9, aI cI mp 160 pb, aI cI m1 400 strm, aI cI m2 161 cst, aI cI m3 161 tok, aI cI m4 161 dst, aI cI m5 161 rgt, aI cI m7 256 mem] → W p l e rmX4_apart s m args below meth c H locs 0 0 Q (F0 m 0 ls []) from hw _ _ hp
  clear hp; intro H locs hp
  refine lv_aload_n hx hb dX4_apart_0 rfl (lv_at hl 0 rfl) ?_
  have jn1 : ∀ (t : Int) (u4 : Int × Int × Int × (Nat → Int) × (Nat → Int) × (Nat → Int) × (Nat → Int) × (Nat → Int)) (H : Heap) (locs : List Loc) (ls : Array Slot), (t = (if ¬ (org + n ≤ 256) then 1 else if ¬ (↑org + ↑n + u4.2.2.1 + 60 ≤ 256) then 2 else 0)) → (rg u4.1) → (u4.1 ≠ 0 → Fresh pb n u4.2.1 u4.2.2.1 u4.2.2.2.1) → (org + n ≤ 256 → u4.1 ≠ 0) → Hp G cI A s H locs [oR mq th (↑n) mp (↑org) ent u4.1 u4.2.2.1 u4.2.1 m1 m2 m3 m4 m5 m6 m7 m8 pl st sp po m9, aI cI mp 160 pb, aI cI m1 400 u4.2.2.2.1, aI cI m2 161 u4.2.2.2.2.1, aI cI m3 161 u4.2.2.2.2.2.1, aI cI m4 161 u4.2.2.2.2.2.2.1, aI cI m5 161 u4.2.2.2.2.2.2.2, aI cI m7 256 mem] → lv_has ls 6 [(0, .ref mq)] → W p l e rmX4_apart s m args below meth c H locs 0 0 Q (F0 m 32 ls [.int (iZ (t)), .ref mq]) := by
    intro t u4 H locs ls ht hrg hfr hkn hp hl
    have htb : 0 ≤ t ∧ t ≤ 2 := by rw [ht]; (repeat' split) <;> omega
    refine z_put hx hb hts hi4 tyX4 tyX4_ok nmX4 hown hp 0 rfl rfl 0 (by decide) f44 rfl (rfl) (rfl) (Nat.le_of_ble_eq_true rfl) dX4_apart_32 (ws' := [oR mq t (↑n) mp (↑org) ent u4.1 u4.2.2.1 u4.2.1 m1 m2 m3 m4 m5 m6 m7 m8 pl st sp po m9, aI cI mp 160 pb, aI cI m1 400 u4.2.2.2.1, aI cI m2 161 u4.2.2.2.2.1, aI cI m3 161 u4.2.2.2.2.2.1, aI cI m4 161 u4.2.2.2.2.2.2.1, aI cI m5 161 u4.2.2.2.2.2.2.2, aI cI m7 256 mem]) rfl (fun H locs hp => ?_)
    refine lv_aload_n hx hb dX4_apart_35 rfl (lv_at hl 0 rfl) ?_
    refine z_get hx hb hts hi4 hown hp 0 rfl rfl 0 (by decide) f44 rfl dX4_apart_36 ?_
    refine z_if_le (tgt := 44) hx hb dX4_apart_39 (by decide) (by omega) (fun h6 => ?_) (fun h6 => ?_)
    · skip
      have hti : org + n ≤ 256 ∧ ↑org + ↑n + u4.2.2.1 + 60 ≤ 256 := by revert ht; (repeat' split) <;> omega
      have hpk2 := hfr (hkn hti.1)
      have hfb := Fresh_b h_n h_b hpk2
      have hfb1 := hfb.1
      have hfb2 := hfb.2.1
      refine z_iconst hx hb dX4_apart_44 ?_
      refine lv_istore_n (lv' := [(1, .int (iZ (0))), (0, .ref mq)]) hx hb dX4_apart_45 rfl hl (by decide) rfl (fun ls hl => ?_)
      refine lv_aload_n hx hb dX4_apart_46 rfl (lv_at hl 1 rfl) ?_
      refine z_get hx hb hts hi4 hown hp 0 rfl rfl 3 (by decide) f60 rfl dX4_apart_47 ?_
      refine lv_aload_n hx hb dX4_apart_50 rfl (lv_at hl 1 rfl) ?_
      refine z_get hx hb hts hi4 hown hp 0 rfl rfl 1 (by decide) f47 rfl dX4_apart_51 ?_
      refine z_iadd hx hb ((↑org) + (↑n)) (rfl) dX4_apart_54 ?_
      refine lv_istore_n (lv' := [(2, .int (iZ ((↑org) + (↑n)))), (1, .int (iZ (0))), (0, .ref mq)]) hx hb dX4_apart_55 rfl hl (by decide) rfl (fun ls hl => ?_)
      refine z_iconst hx hb dX4_apart_56 ?_
      refine lv_istore_n (lv' := [(3, .int (iZ (0))), (2, .int (iZ ((↑org) + (↑n)))), (1, .int (iZ (0))), (0, .ref mq)]) hx hb dX4_apart_57 rfl hl (by decide) rfl (fun ls hl => ?_)
      have lp7 : ∀ (N_lp7 : Nat) (i : Nat) (H : Heap) (locs : List Loc) (ls : Array Slot), (i ≤ 256) → (256 - i) < N_lp7 → Hp G cI A s H locs [oR mq t (↑n) mp (↑org) ent u4.1 u4.2.2.1 u4.2.1 m1 m2 m3 m4 m5 m6 m7 m8 pl st sp po m9, aI cI mp 160 pb, aI cI m1 400 u4.2.2.2.1, aI cI m2 161 u4.2.2.2.2.1, aI cI m3 161 u4.2.2.2.2.2.1, aI cI m4 161 u4.2.2.2.2.2.2.1, aI cI m5 161 u4.2.2.2.2.2.2.2, aI cI m7 256 mem] → lv_has ls 6 [(3, .int (iZ (↑i))), (1, .int (iZ (apN mem (ldZ pb n org) (↑org + ↑n) (↑org + ↑n + u4.2.2.1 + 60) i))), (2, .int (iZ ((↑org) + (↑n)))), (0, .ref mq)] → W p l e rmX4_apart s m args below meth c H locs 0 0 Q (F0 m 58 ls []) := by
        intro N_lp7
        induction N_lp7 with
        | zero => intros; exfalso; omega
        | succ N_lp7 ih_lp7 =>
          intro i H locs ls hi hN hp hl
          have hap := apN_b mem (ldZ pb n org) (↑org + ↑n) (↑org + ↑n + u4.2.2.1 + 60) i
          have hc1 := apN_s mem (ldZ pb n org) (↑org + ↑n) (↑org + ↑n + u4.2.2.1 + 60) i
          refine lv_iload_n hx hb dX4_apart_58 rfl (lv_at hl 0 rfl) ?_
          refine z_sipush hx hb dX4_apart_59 (by decide +kernel) ?_
          refine z_icmp_ge (tgt := 150) hx hb dX4_apart_62 (by decide) (by omega) (fun h8 => ?_) (fun h8 => ?_)
          · skip
            obtain rfl : i = 256 := by omega
            refine lv_iload_n hx hb dX4_apart_150 rfl (lv_at hl 1 rfl) ?_
            exact hret _ _ _ _ _ _ _ (t, u4) (⟨ht, hrg, hfr, hkn, fun _ => rfl⟩) hp dX4_apart_151 (rfl) (Nat.le_of_ble_eq_true rfl) (Nat.le_of_ble_eq_true rfl)
          · skip
            have jn9 : ∀ (du : Int) (H : Heap) (locs : List Loc) (ls : Array Slot), (du = ldZ pb n org i) → Hp G cI A s H locs [oR mq t (↑n) mp (↑org) ent u4.1 u4.2.2.1 u4.2.1 m1 m2 m3 m4 m5 m6 m7 m8 pl st sp po m9, aI cI mp 160 pb, aI cI m1 400 u4.2.2.2.1, aI cI m2 161 u4.2.2.2.2.1, aI cI m3 161 u4.2.2.2.2.2.1, aI cI m4 161 u4.2.2.2.2.2.2.1, aI cI m5 161 u4.2.2.2.2.2.2.2, aI cI m7 256 mem] → lv_has ls 6 [(3, .int (iZ (↑i))), (1, .int (iZ (apN mem (ldZ pb n org) (↑org + ↑n) (↑org + ↑n + u4.2.2.1 + 60) i))), (2, .int (iZ ((↑org) + (↑n)))), (0, .ref mq)] → W p l e rmX4_apart s m args below meth c H locs 0 0 Q (F0 m 93 ls [.int (iZ (du))]) := by
              intro du H locs ls hdu hp hl
              refine lv_istore (lv' := [(4, .int (iZ (du))), (3, .int (iZ (↑i))), (1, .int (iZ (apN mem (ldZ pb n org) (↑org + ↑n) (↑org + ↑n + u4.2.2.1 + 60) i))), (2, .int (iZ ((↑org) + (↑n)))), (0, .ref mq)]) hx hb dX4_apart_93 hl (by decide) rfl (fun ls hl => ?_)
              have jn11 : ∀ (v : Int) (H : Heap) (locs : List Loc) (ls : Array Slot), (v = if (i : Int) < ↑org + ↑n ∨ ↑org + ↑n + u4.2.2.1 + 60 ≤ i then 1 else 0) → Hp G cI A s H locs [oR mq t (↑n) mp (↑org) ent u4.1 u4.2.2.1 u4.2.1 m1 m2 m3 m4 m5 m6 m7 m8 pl st sp po m9, aI cI mp 160 pb, aI cI m1 400 u4.2.2.2.1, aI cI m2 161 u4.2.2.2.2.1, aI cI m3 161 u4.2.2.2.2.2.1, aI cI m4 161 u4.2.2.2.2.2.2.1, aI cI m5 161 u4.2.2.2.2.2.2.2, aI cI m7 256 mem] → lv_has ls 6 [(4, .int (iZ (du))), (3, .int (iZ (↑i))), (1, .int (iZ (apN mem (ldZ pb n org) (↑org + ↑n) (↑org + ↑n + u4.2.2.1 + 60) i))), (2, .int (iZ ((↑org) + (↑n)))), (0, .ref mq)] → W p l e rmX4_apart s m args below meth c H locs 0 0 Q (F0 m 118 ls [.int (iZ (v))]) := by
                intro v H locs ls hv hp hl
                refine lv_istore (lv' := [(5, .int (iZ (v))), (4, .int (iZ (du))), (3, .int (iZ (↑i))), (1, .int (iZ (apN mem (ldZ pb n org) (↑org + ↑n) (↑org + ↑n + u4.2.2.1 + 60) i))), (2, .int (iZ ((↑org) + (↑n)))), (0, .ref mq)]) hx hb dX4_apart_118 hl (by decide) rfl (fun ls hl => ?_)
                have jn13 : ∀ (v2 : Int) (H : Heap) (locs : List Loc) (ls : Array Slot), (v2 = apN mem (ldZ pb n org) (↑org + ↑n) (↑org + ↑n + u4.2.2.1 + 60) (i + 1)) → Hp G cI A s H locs [oR mq t (↑n) mp (↑org) ent u4.1 u4.2.2.1 u4.2.1 m1 m2 m3 m4 m5 m6 m7 m8 pl st sp po m9, aI cI mp 160 pb, aI cI m1 400 u4.2.2.2.1, aI cI m2 161 u4.2.2.2.2.1, aI cI m3 161 u4.2.2.2.2.2.1, aI cI m4 161 u4.2.2.2.2.2.2.1, aI cI m5 161 u4.2.2.2.2.2.2.2, aI cI m7 256 mem] → lv_has ls 6 [(0, .ref mq), (2, .int (iZ (↑org + ↑n))), (3, .int (iZ (↑i)))] → W p l e rmX4_apart s m args below meth c H locs 0 0 Q (F0 m 143 ls [.int (iZ (v2))]) := by
                  intro v2 H locs ls hv2 hp hl
                  subst hv2
                  refine z_top (apN mem (ldZ pb n org) (↑org + ↑n) (↑org + ↑n + u4.2.2.1 + 60) (i + 1)) (rfl) ?_
                  refine lv_istore_n (lv' := [(1, .int (iZ (apN mem (ldZ pb n org) (↑org + ↑n) (↑org + ↑n + u4.2.2.1 + 60) (i + 1)))), (0, .ref mq), (2, .int (iZ (↑org + ↑n))), (3, .int (iZ (↑i)))]) hx hb dX4_apart_143 rfl hl (by decide) rfl (fun ls hl => ?_)
                  refine z_iinc (k := 3) (lv' := [(3, .int (iZ (↑(i + 1)))), (1, .int (iZ (apN mem (ldZ pb n org) (↑org + ↑n) (↑org + ↑n + u4.2.2.1 + 60) (i + 1)))), (0, .ref mq), (2, .int (iZ (↑org + ↑n)))]) hx hb (↑(i + 1)) (by omega) dX4_apart_144 hl rfl (by decide) rfl (fun ls hl => ?_)
                  refine lv_goto (tgt := 58) hx hb dX4_apart_147 (by decide) ?_
                  exact ih_lp7 (i + 1) _ _ _ (by omega) (by omega) hp (lv_sub hl [0, 1, 3, 2] rfl)
                refine lv_iload hx hb dX4_apart_120 (lv_at hl 0 rfl) ?_
                refine z_if_eq (tgt := 142) hx hb dX4_apart_122 (by decide) (by omega) (fun h15 => ?_) (fun h15 => ?_)
                · skip
                  refine lv_iload_n hx hb dX4_apart_142 rfl (lv_at hl 3 rfl) ?_
                  exact jn13 (apN mem (ldZ pb n org) (↑org + ↑n) (↑org + ↑n + u4.2.2.1 + 60) i) _ _ _ (by rw [hc1]; split <;> omega) hp (lv_sub hl [5, 4, 2] rfl)
                · skip
                  refine lv_aload_n hx hb dX4_apart_125 rfl (lv_at hl 5 rfl) ?_
                  refine z_get hx hb hts hi4 hown hp 0 rfl rfl 14 (by decide) f31 rfl dX4_apart_126 ?_
                  refine lv_iload_n hx hb dX4_apart_129 rfl (lv_at hl 2 rfl) ?_
                  refine z_iald hx hb hp 7 rfl (i) (by omega) dX4_apart_130 (mem i) (rfl) ?_
                  refine lv_iload hx hb dX4_apart_131 (lv_at hl 1 rfl) ?_
                  refine z_icmp_eq (tgt := 142) hx hb dX4_apart_133 (by decide) (by omega) (fun h16 => ?_) (fun h16 => ?_)
                  · skip
                    refine lv_iload_n hx hb dX4_apart_142 rfl (lv_at hl 3 rfl) ?_
                    exact jn13 (apN mem (ldZ pb n org) (↑org + ↑n) (↑org + ↑n + u4.2.2.1 + 60) i) _ _ _ (by rw [hc1]; split <;> omega) hp (lv_sub hl [5, 4, 2] rfl)
                  · skip
                    refine lv_iload_n hx hb dX4_apart_136 rfl (lv_at hl 3 rfl) ?_
                    refine z_iconst hx hb dX4_apart_137 ?_
                    refine z_iadd hx hb ((apN mem (ldZ pb n org) (↑org + ↑n) (↑org + ↑n + u4.2.2.1 + 60) i) + 1) (rfl) dX4_apart_138 ?_
                    refine lv_goto (tgt := 143) hx hb dX4_apart_139 (by decide) ?_
                    exact jn13 ((apN mem (ldZ pb n org) (↑org + ↑n) (↑org + ↑n + u4.2.2.1 + 60) i) + 1) _ _ _ (by rw [hc1]; split <;> omega) hp (lv_sub hl [5, 4, 2] rfl)
              refine lv_iload_n hx hb dX4_apart_95 rfl (lv_at hl 1 rfl) ?_
              refine lv_iload_n hx hb dX4_apart_96 rfl (lv_at hl 3 rfl) ?_
              refine z_icmp_lt (tgt := 113) hx hb dX4_apart_97 (by decide) (by omega) (fun h17 => ?_) (fun h17 => ?_)
              · skip
                refine z_iconst hx hb dX4_apart_113 ?_
                refine lv_goto (tgt := 118) hx hb dX4_apart_114 (by decide) ?_
                exact jn11 1 _ _ _ (by omega) hp (lv_sub hl [0, 1, 2, 3, 4] rfl)
              · skip
                refine lv_iload_n hx hb dX4_apart_100 rfl (lv_at hl 1 rfl) ?_
                refine lv_iload_n hx hb dX4_apart_101 rfl (lv_at hl 3 rfl) ?_
                refine lv_aload_n hx hb dX4_apart_102 rfl (lv_at hl 4 rfl) ?_
                refine z_get hx hb hts hi4 hown hp 0 rfl rfl 6 (by decide) f71 rfl dX4_apart_103 ?_
                refine z_iadd hx hb (((↑org) + (↑n)) + u4.2.2.1) (rfl) dX4_apart_106 ?_
                refine z_bipush hx hb dX4_apart_107 (by decide +kernel) ?_
                refine z_iadd hx hb ((((↑org) + (↑n)) + u4.2.2.1) + 60) (rfl) dX4_apart_109 ?_
                refine z_icmp_lt (tgt := 117) hx hb dX4_apart_110 (by decide) (by omega) (fun h18 => ?_) (fun h18 => ?_)
                · skip
                  refine z_iconst hx hb dX4_apart_117 ?_
                  exact jn11 0 _ _ _ (by omega) hp (lv_sub hl [0, 1, 2, 3, 4] rfl)
                · skip
                  refine z_iconst hx hb dX4_apart_113 ?_
                  refine lv_goto (tgt := 118) hx hb dX4_apart_114 (by decide) ?_
                  exact jn11 1 _ _ _ (by omega) hp (lv_sub hl [0, 1, 2, 3, 4] rfl)
            refine lv_iload_n hx hb dX4_apart_65 rfl (lv_at hl 0 rfl) ?_
            refine lv_aload_n hx hb dX4_apart_66 rfl (lv_at hl 3 rfl) ?_
            refine z_get hx hb hts hi4 hown hp 0 rfl rfl 3 (by decide) f60 rfl dX4_apart_67 ?_
            refine z_icmp_lt (tgt := 92) hx hb dX4_apart_70 (by decide) (by omega) (fun h19 => ?_) (fun h19 => ?_)
            · skip
              refine z_iconst hx hb dX4_apart_92 ?_
              exact jn9 0 _ _ _ (by unfold ldZ; (repeat' split) <;> first | rfl | omega) hp (lv_sub hl [0, 1, 2, 3] rfl)
            · skip
              refine lv_iload_n hx hb dX4_apart_73 rfl (lv_at hl 0 rfl) ?_
              refine lv_iload_n hx hb dX4_apart_74 rfl (lv_at hl 2 rfl) ?_
              refine z_icmp_ge (tgt := 92) hx hb dX4_apart_75 (by decide) (by omega) (fun h20 => ?_) (fun h20 => ?_)
              · skip
                refine z_iconst hx hb dX4_apart_92 ?_
                exact jn9 0 _ _ _ (by unfold ldZ; (repeat' split) <;> first | rfl | omega) hp (lv_sub hl [0, 1, 2, 3] rfl)
              · skip
                refine lv_aload_n hx hb dX4_apart_78 rfl (lv_at hl 3 rfl) ?_
                refine z_get hx hb hts hi4 hown hp 0 rfl rfl 2 (by decide) f7 rfl dX4_apart_79 ?_
                refine lv_iload_n hx hb dX4_apart_82 rfl (lv_at hl 0 rfl) ?_
                refine lv_aload_n hx hb dX4_apart_83 rfl (lv_at hl 3 rfl) ?_
                refine z_get hx hb hts hi4 hown hp 0 rfl rfl 3 (by decide) f60 rfl dX4_apart_84 ?_
                refine z_isub hx hb ((↑i) - (↑org)) (rfl) dX4_apart_87 ?_
                refine z_iald hx hb hp 1 rfl (i - org) (by omega) dX4_apart_88 (pb (i - org)) (rfl) ?_
                refine lv_goto (tgt := 93) hx hb dX4_apart_89 (by decide) ?_
                exact jn9 (pb (i - org)) _ _ _ (by unfold ldZ; (repeat' split) <;> first | rfl | omega) hp (lv_sub hl [0, 1, 2, 3] rfl)
      exact lp7 _ 0 _ _ _ (by omega) (Nat.lt_succ_self _) hp (lv_sub hl [0, 2, 1, 3] rfl)
    · skip
      refine z_iconst hx hb dX4_apart_42 ?_
      exact hret _ _ _ _ _ _ _ (t, u4) (⟨ht, hrg, hfr, hkn, fun q => by dsimp only at q; omega⟩) hp dX4_apart_43 (rfl) (Nat.le_of_ble_eq_true rfl) (Nat.le_of_ble_eq_true rfl)
  refine lv_aload_n hx hb dX4_apart_1 rfl (lv_at hl 0 rfl) ?_
  refine z_get hx hb hts hi4 hown hp 0 rfl rfl 3 (by decide) f60 rfl dX4_apart_2 ?_
  refine lv_aload_n hx hb dX4_apart_5 rfl (lv_at hl 0 rfl) ?_
  refine z_get hx hb hts hi4 hown hp 0 rfl rfl 1 (by decide) f47 rfl dX4_apart_6 ?_
  refine z_iadd hx hb ((↑org) + (↑n)) (rfl) dX4_apart_9 ?_
  refine z_sipush hx hb dX4_apart_10 (by decide +kernel) ?_
  refine z_icmp_le (tgt := 20) hx hb dX4_apart_13 (by decide) (by omega) (fun h21 => ?_) (fun h21 => ?_)
  · skip
    refine lv_aload_n hx hb dX4_apart_20 rfl (lv_at hl 0 rfl) ?_
    refine zc_i (wr := [aI cI m7 256 mem]) (W0 := [oR mq th (↑n) mp (↑org) ent kn gp ln m1 m2 m3 m4 m5 m6 m7 m8 pl st sp po m9, aI cI mp 160 pb, aI cI m1 400 strm, aI cI m2 161 cst, aI cI m3 161 tok, aI cI m4 161 dst, aI cI m5 161 rgt]) (wl2 := fun (u : Int × Int × Int × (Nat → Int) × (Nat → Int) × (Nat → Int) × (Nat → Int) × (Nat → Int)) => [oR mq th (↑n) mp (↑org) ent u.1 u.2.2.1 u.2.1 m1 m2 m3 m4 m5 m6 m7 m8 pl st sp po m9, aI cI mp 160 pb, aI cI m1 400 u.2.2.2.1, aI cI m2 161 u.2.2.2.2.1, aI cI m3 161 u.2.2.2.2.2.1, aI cI m4 161 u.2.2.2.2.2.2.1, aI cI m5 161 u.2.2.2.2.2.2.2, aI cI m7 256 mem]) (As := []) (rest := [.ref mq]) hx hb hml hown hts hp (c_X4_isPackable l G cI H.size mq mp m1 m2 m3 m4 m5 m6 m7 m8 m9 n org th ent kn gp ln pl st sp po pb strm cst tok dst rgt (by omega) (h_b) (h_kn) (h_f) (by omega)) zPre_blind (z_pre hp [0, 1, 2, 3, 4, 5, 6] rfl (by decide) [.ref mq]) (cwV 0 hts gX4_apart_X4_isPackable rfl rfl rfl (by decide +kernel) ⟨Nat.le_of_ble_eq_true rfl, Nat.le_of_ble_eq_true rfl⟩) [0, 1, 2, 3, 4, 5, 6] [7] [1, 2, 3, 4, 5, 6, 7, 0] rfl rfl ⟨by decide, by decide, by decide⟩ (fun _ => rfl) 0 4 rfl rfl rfl rfl hl.1 rfl (Nat.le_of_ble_eq_true rfl) dX4_apart_21 ⟨Nat.le_of_ble_eq_true rfl, Nat.le_of_ble_eq_true rfl⟩ (fun rv u4 H locs hq22 hp => ?_)
    have hpk1 : u4.1 ≠ 0 ∧ rg u4.1 := hq22.1
    have hpk2 : Fresh pb n u4.2.1 u4.2.2.1 u4.2.2.2.1 := hq22.2.1
    have hfb := Fresh_b h_n h_b hpk2
    have hfb1 := hfb.1
    have hfb2 := hfb.2.1
    obtain rfl : rv = iZ (if ↑org + ↑n + u.2.2.1 + 60 ≤ 256 then 1 else 0) := hq22.2.2
    refine z_if_ne (tgt := 31) hx hb dX4_apart_24 (by decide) (by omega) (fun h23 => ?_) (fun h23 => ?_)
    · skip
      refine z_iconst hx hb dX4_apart_31 ?_
      exact jn1 0 u4 _ _ _ (by (repeat' split) <;> omega) (hpk1.2) (fun _ => hpk2) (fun _ => hpk1.1) hp (lv_sub hl [0] rfl)
    · skip
      refine z_iconst hx hb dX4_apart_27 ?_
      refine lv_goto (tgt := 32) hx hb dX4_apart_28 (by decide) ?_
      exact jn1 2 u4 _ _ _ (by (repeat' split) <;> omega) (hpk1.2) (fun _ => hpk2) (fun _ => hpk1.1) hp (lv_sub hl [0] rfl)
  · skip
    refine z_iconst hx hb dX4_apart_16 ?_
    refine lv_goto (tgt := 32) hx hb dX4_apart_17 (by decide) ?_
    exact jn1 1 (kn, ln, gp, strm, cst, tok, dst, rgt) _ _ _ (by rw [if_pos (by omega)]) (h_kn) (h_f) (fun q => by omega) hp (lv_sub hl [0] rfl)
