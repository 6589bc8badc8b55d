abbrev rmX4_putOut : Room := { frames := 0, cells := 0, slots := 0, locals := 0 }
set_option maxRecDepth 100000 in
set_option maxHeartbeats 4000000 in
theorem c_X4_putOut (l : Launch) (G : va_G) (cI : ClassId) (sz : Nat) (mq mp m1 m2 m3 m4 m5 m6 m7 m8 m9 : Nat) (n org : Nat) (th ent kn gp ln pl st sp po : Int) (kept : Nat → Int) (v : Int) (h_p : 0 ≤ po ∧ po < 2147483647) : Met l yX4_putOut wsX4_putOut rmX4_putOut (zPre G cI [oR mq th (↑n) mp (↑org) ent kn gp ln m1 m2 m3 m4 m5 m6 m7 m8 pl st sp po m9, aI cI m9 32 kept] sz [.ref mq, .int (iZ (v))]) (va_Qv (fun (u : Unit) => True) (fun (u : Unit) t => zB G cI (va_A [oR mq th (↑n) mp (↑org) ent kn gp ln m1 m2 m3 m4 m5 m6 m7 m8 pl st sp po m9, aI cI m9 32 kept] sz) [oR mq th (↑n) mp (↑org) ent kn gp ln m1 m2 m3 m4 m5 m6 m7 m8 pl st sp (po + 1) m9, aI cI m9 32 (upZ kept (po % 32).toNat v)] t) (va_A [oR mq th (↑n) mp (↑org) ent kn gp ln m1 m2 m3 m4 m5 m6 m7 m8 pl st sp po m9, aI cI m9 32 kept] sz)) 0 0 (va_A [oR mq th (↑n) mp (↑org) ent kn gp ln m1 m2 m3 m4 m5 m6 m7 m8 pl st sp po m9, aI cI m9 32 kept] sz) := by
  refine zm_v (W1 := fun (u : Unit) => [oR mq th (↑n) mp (↑org) ent kn gp ln m1 m2 m3 m4 m5 m6 m7 m8 pl st sp (po + 1) m9, aI cI m9 32 (upZ kept (po % 32).toNat v)]) (cc := cX4_putOut) (maxL := 2) (by decide) rfl (Nat.le_of_ble_eq_true rfl) ?_
  intro p e s m args below meth c A Q ls hsz hx hb hml hown hts hnm hret hp hl
  have hl : lv_has ls 2 [(0, .ref mq), (1, .int (iZ (v)))] := hl
  have hi4 : ∀ w ∈ wsX40, w ∈ wsX4_putOut := fun w h => List.mem_cons_of_mem _ (List.mem_append_right _ (h))
  have f41 := hts (.fieldLink RX4 41 "SelfOpenerModel" "out" "[I") (List.mem_of_getElem? (i := 1) rfl)
  have f94 := hts (.fieldLink RX4 94 "SelfOpenerModel" "outs" "I") (List.mem_of_getElem? (i := 2) rfl)
  suffices hw : ∀ (H : Heap) (locs : List Loc), Hp G cI A s H locs [oR mq th (↑n) mp (↑org) ent kn gp ln m1 m2 m3 m4 m5 m6 m7 m8 pl st sp po m9, aI cI m9 32 kept] → W p l e rmX4_putOut s m args below meth c H locs 0 0 Q (F0 m 0 ls []) from hw _ _ hp
  clear hp; intro H locs hp
  refine lv_aload_n hx hb dX4_putOut_0 rfl (lv_at hl 0 rfl) ?_
  refine z_get hx hb hts hi4 hown hp 0 rfl rfl 20 (by decide) f41 rfl dX4_putOut_1 ?_
  refine lv_aload_n hx hb dX4_putOut_4 rfl (lv_at hl 0 rfl) ?_
  refine z_get hx hb hts hi4 hown hp 0 rfl rfl 19 (by decide) f94 rfl dX4_putOut_5 ?_
  refine z_bipush hx hb dX4_putOut_8 (by decide +kernel) ?_
  refine z_irem hx hb (po % 32) (by omega) dX4_putOut_10 ?_
  refine lv_iload_n hx hb dX4_putOut_11 rfl (lv_at hl 1 rfl) ?_
  refine z_iast hx hb hp 1 rfl ((po % 32).toNat) (by omega) dX4_putOut_12 (ws' := [oR mq th (↑n) mp (↑org) ent kn gp ln m1 m2 m3 m4 m5 m6 m7 m8 pl st sp po m9, aI cI m9 32 (upZ kept ((po % 32).toNat) v)]) rfl (fun H locs hp => ?_)
  refine lv_aload_n hx hb dX4_putOut_13 rfl (lv_at hl 0 rfl) ?_
  refine lv_dup hx hb dX4_putOut_14 rfl ?_
  refine z_get hx hb hts hi4 hown hp 0 rfl rfl 19 (by decide) f94 rfl dX4_putOut_15 ?_
  refine z_iconst hx hb dX4_putOut_18 ?_
  refine z_iadd hx hb (po + 1) (rfl) dX4_putOut_19 ?_
  refine z_put hx hb hts hi4 tyX4 tyX4_ok nmX4 hown hp 0 rfl rfl 19 (by decide) f94 rfl (rfl) (rfl) (Nat.le_of_ble_eq_true rfl) dX4_putOut_20 (ws' := [oR mq th (↑n) mp (↑org) ent kn gp ln m1 m2 m3 m4 m5 m6 m7 m8 pl st sp (po + 1) m9, aI cI m9 32 (upZ kept ((po % 32).toNat) v)]) rfl (fun H locs hp => ?_)
  exact hret _ _ _ _ _ _ () (trivial) hp dX4_putOut_23 (Nat.le_of_ble_eq_true rfl) (Nat.le_of_ble_eq_true rfl)
abbrev rmX4_step : Room := { frames := 1, cells := 0, slots := 0, locals := 40 }
set_option maxRecDepth 100000 in
set_option maxHeartbeats 4000000 in
theorem c_X4_step (l : Launch) (G : va_G) (cI : ClassId) (sz : Nat) (mq mp m1 m2 m3 m4 m5 m6 m7 m8 m9 : Nat) (n org : Nat) (th ent kn gp ln : Int) (w : MS) (b : Int) (h_0 : MB w b) (h_1 : b < 2147483646) : Met l yX4_step wsX4_step rmX4_step (zPre G cI [oR mq th (↑n) mp (↑org) ent kn gp ln m1 m2 m3 m4 m5 m6 m7 m8 w.2.2.2.1 w.2.2.2.2.1 w.2.2.2.2.2.1 w.2.2.2.2.2.2 m9, aI cI m7 256 w.1, aI cI m8 8 w.2.1, aI cI m9 32 w.2.2.1] sz [.ref mq]) (va_Qv (fun (u : Unit) => True) (fun (u : Unit) t => zB G cI (va_A [oR mq th (↑n) mp (↑org) ent kn gp ln m1 m2 m3 m4 m5 m6 m7 m8 w.2.2.2.1 w.2.2.2.2.1 w.2.2.2.2.2.1 w.2.2.2.2.2.2 m9, aI cI m7 256 w.1, aI cI m8 8 w.2.1, aI cI m9 32 w.2.2.1] sz) [oR mq th (↑n) mp (↑org) ent kn gp ln m1 m2 m3 m4 m5 m6 m7 m8 ((mstep w).2.2.2.1) ((mstep w).2.2.2.2.1) ((mstep w).2.2.2.2.2.1) ((mstep w).2.2.2.2.2.2) m9, aI cI m7 256 ((mstep w).1), aI cI m8 8 ((mstep w).2.1), aI cI m9 32 ((mstep w).2.2.1)] t) (va_A [oR mq th (↑n) mp (↑org) ent kn gp ln m1 m2 m3 m4 m5 m6 m7 m8 w.2.2.2.1 w.2.2.2.2.1 w.2.2.2.2.2.1 w.2.2.2.2.2.2 m9, aI cI m7 256 w.1, aI cI m8 8 w.2.1, aI cI m9 32 w.2.2.1] sz)) 0 0 (va_A [oR mq th (↑n) mp (↑org) ent kn gp ln m1 m2 m3 m4 m5 m6 m7 m8 w.2.2.2.1 w.2.2.2.2.1 w.2.2.2.2.2.1 w.2.2.2.2.2.2 m9, aI cI m7 256 w.1, aI cI m8 8 w.2.1, aI cI m9 32 w.2.2.1] sz) := by
  refine zm_v (W1 := fun (u : Unit) => [oR mq th (↑n) mp (↑org) ent kn gp ln m1 m2 m3 m4 m5 m6 m7 m8 ((mstep w).2.2.2.1) ((mstep w).2.2.2.2.1) ((mstep w).2.2.2.2.2.1) ((mstep w).2.2.2.2.2.2) m9, aI cI m7 256 ((mstep w).1), aI cI m8 8 ((mstep w).2.1), aI cI m9 32 ((mstep w).2.2.1)]) (cc := cX4_step) (maxL := 6) (by decide) rfl (Nat.le_of_ble_eq_true rfl) ?_
  intro p e s m args below meth c A Q ls hsz hx hb hml hown hts hnm hret hp hl
  have hl : lv_has ls 6 [(0, .ref mq)] := hl
  have hi4 : ∀ w ∈ wsX40, w ∈ wsX4_step := fun w h => List.mem_cons_of_mem _ (List.mem_append_right _ (h))
  have f31 := hts (.fieldLink RX4 31 "SelfOpenerModel" "memory" "[I") (List.mem_of_getElem? (i := 1) rfl)
  have f88 := hts (.fieldLink RX4 88 "SelfOpenerModel" "place" "I") (List.mem_of_getElem? (i := 2) rfl)
  have f34 := hts (.fieldLink RX4 34 "SelfOpenerModel" "registers" "[I") (List.mem_of_getElem? (i := 3) rfl)
  have f91 := hts (.fieldLink RX4 91 "SelfOpenerModel" "steps" "I") (List.mem_of_getElem? (i := 4) rfl)
  have f37 := hts (.fieldLink RX4 37 "SelfOpenerModel" "state" "I") (List.mem_of_getElem? (i := 5) rfl)
  obtain ⟨h1, h2, h3, h4, h5, h6, h7⟩ := h_0
  have hxb : 0 ≤ w.1 w.2.2.2.1.toNat ∧ w.1 w.2.2.2.1.toNat < 256 := h1 _ (by omega)
  have hyb : 0 ≤ w.1 ((w.2.2.2.1 + 1) % 256).toNat ∧ w.1 ((w.2.2.2.1 + 1) % 256).toNat < 256 := h1 _ (by omega)
  have hqb := h2 (w.1 ((w.2.2.2.1 + 1) % 256).toNat % 8).toNat (by omega)
  have hvb := h2 (w.1 w.2.2.2.1.toNat % 8).toNat (by omega)
  obtain ⟨K, hK⟩ : ∃ K : Int, K = w.1 w.2.2.2.1.toNat / 16 := ⟨_, rfl⟩
  have hms : mstep w = (aMem w.1 w.2.1 K (w.1 w.2.2.2.1.toNat % 8).toNat (w.1 ((w.2.2.2.1 + 1) % 256).toNat), aRegs w.1 w.2.1 K (w.1 w.2.2.2.1.toNat % 8).toNat (w.1 ((w.2.2.2.1 + 1) % 256).toNat), aKept w.2.1 w.2.2.1 K (w.1 w.2.2.2.1.toNat % 8).toNat w.2.2.2.2.2.2, aPl w.2.1 K (w.1 w.2.2.2.1.toNat % 8).toNat (w.1 ((w.2.2.2.1 + 1) % 256).toNat) ((w.2.2.2.1 + 2) % 256), aSt K w.2.2.2.2.1, w.2.2.2.2.2.1 + 1, aPo K w.2.2.2.2.2.2) := by rw [hK]; rfl
  rw [hms] at hret
  dsimp only at hret
  suffices hw : ∀ (H : Heap) (locs : List Loc), Hp G cI A s H locs [oR mq th (↑n) mp (↑org) ent kn gp ln m1 m2 m3 m4 m5 m6 m7 m8 w.2.2.2.1 w.2.2.2.2.1 w.2.2.2.2.2.1 w.2.2.2.2.2.2 m9, aI cI m7 256 w.1, aI cI m8 8 w.2.1, aI cI m9 32 w.2.2.1] → W p l e rmX4_step s m args below meth c H locs 0 0 Q (F0 m 0 ls []) from hw _ _ hp
  clear hp; intro H locs hp
  refine lv_aload_n hx hb dX4_step_0 rfl (lv_at hl 0 rfl) ?_
  refine z_get hx hb hts hi4 hown hp 0 rfl rfl 14 (by decide) f31 rfl dX4_step_1 ?_
  refine lv_aload_n hx hb dX4_step_4 rfl (lv_at hl 0 rfl) ?_
  refine z_get hx hb hts hi4 hown hp 0 rfl rfl 16 (by decide) f88 rfl dX4_step_5 ?_
  refine z_iald hx hb hp 1 rfl (w.2.2.2.1.toNat) (by omega) dX4_step_8 (w.1 w.2.2.2.1.toNat) (rfl) ?_
  refine lv_istore_n (lv' := [(1, .int (iZ (w.1 w.2.2.2.1.toNat))), (0, .ref mq)]) hx hb dX4_step_9 rfl hl (by decide) rfl (fun ls hl => ?_)
  refine lv_aload_n hx hb dX4_step_10 rfl (lv_at hl 1 rfl) ?_
  refine z_get hx hb hts hi4 hown hp 0 rfl rfl 14 (by decide) f31 rfl dX4_step_11 ?_
  refine lv_aload_n hx hb dX4_step_14 rfl (lv_at hl 1 rfl) ?_
  refine z_get hx hb hts hi4 hown hp 0 rfl rfl 16 (by decide) f88 rfl dX4_step_15 ?_
  refine z_iconst hx hb dX4_step_18 ?_
  refine z_iadd hx hb (w.2.2.2.1 + 1) (rfl) dX4_step_19 ?_
  refine z_sipush hx hb dX4_step_20 (by decide +kernel) ?_
  refine z_iand hx hb ((w.2.2.2.1 + 1) % 256) (iZ_and255 _) dX4_step_23 ?_
  refine z_iald hx hb hp 1 rfl (((w.2.2.2.1 + 1) % 256).toNat) (by omega) dX4_step_24 (w.1 (((w.2.2.2.1 + 1) % 256).toNat)) (rfl) ?_
  refine lv_istore_n (lv' := [(2, .int (iZ (w.1 (((w.2.2.2.1 + 1) % 256).toNat)))), (1, .int (iZ (w.1 w.2.2.2.1.toNat))), (0, .ref mq)]) hx hb dX4_step_25 rfl hl (by decide) rfl (fun ls hl => ?_)
  refine lv_iload_n hx hb dX4_step_26 rfl (lv_at hl 1 rfl) ?_
  refine z_bipush hx hb dX4_step_27 (by decide +kernel) ?_
  refine z_iand hx hb ((w.1 w.2.2.2.1.toNat) % 8) (iZ_and7 _) dX4_step_29 ?_
  refine lv_istore_n (lv' := [(3, .int (iZ ((w.1 w.2.2.2.1.toNat) % 8))), (2, .int (iZ (w.1 (((w.2.2.2.1 + 1) % 256).toNat)))), (1, .int (iZ (w.1 w.2.2.2.1.toNat))), (0, .ref mq)]) hx hb dX4_step_30 rfl hl (by decide) rfl (fun ls hl => ?_)
  refine lv_aload_n hx hb dX4_step_31 rfl (lv_at hl 3 rfl) ?_
  refine z_get hx hb hts hi4 hown hp 0 rfl rfl 15 (by decide) f34 rfl dX4_step_32 ?_
  refine lv_iload_n hx hb dX4_step_35 rfl (lv_at hl 1 rfl) ?_
  refine z_bipush hx hb dX4_step_36 (by decide +kernel) ?_
  refine z_iand hx hb ((w.1 (((w.2.2.2.1 + 1) % 256).toNat)) % 8) (iZ_and7 _) dX4_step_38 ?_
  refine z_iald hx hb hp 2 rfl ((w.1 ((w.2.2.2.1 + 1) % 256).toNat % 8).toNat) (by omega) dX4_step_39 (w.2.1 ((w.1 ((w.2.2.2.1 + 1) % 256).toNat % 8).toNat)) (rfl) ?_
  refine lv_istore (lv' := [(4, .int (iZ (w.2.1 ((w.1 ((w.2.2.2.1 + 1) % 256).toNat % 8).toNat)))), (3, .int (iZ ((w.1 w.2.2.2.1.toNat) % 8))), (2, .int (iZ (w.1 (((w.2.2.2.1 + 1) % 256).toNat)))), (1, .int (iZ (w.1 w.2.2.2.1.toNat))), (0, .ref mq)]) hx hb dX4_step_40 hl (by decide) rfl (fun ls hl => ?_)
  refine lv_aload_n hx hb dX4_step_42 rfl (lv_at hl 4 rfl) ?_
  refine z_get hx hb hts hi4 hown hp 0 rfl rfl 15 (by decide) f34 rfl dX4_step_43 ?_
  refine lv_iload_n hx hb dX4_step_46 rfl (lv_at hl 1 rfl) ?_
  refine z_iald hx hb hp 2 rfl ((w.1 w.2.2.2.1.toNat % 8).toNat) (by omega) dX4_step_47 (w.2.1 ((w.1 w.2.2.2.1.toNat % 8).toNat)) (rfl) ?_
  refine lv_istore (lv' := [(5, .int (iZ (w.2.1 ((w.1 w.2.2.2.1.toNat % 8).toNat)))), (4, .int (iZ (w.2.1 ((w.1 ((w.2.2.2.1 + 1) % 256).toNat % 8).toNat)))), (3, .int (iZ ((w.1 w.2.2.2.1.toNat) % 8))), (2, .int (iZ (w.1 (((w.2.2.2.1 + 1) % 256).toNat)))), (1, .int (iZ (w.1 w.2.2.2.1.toNat))), (0, .ref mq)]) hx hb dX4_step_48 hl (by decide) rfl (fun ls hl => ?_)
  refine lv_aload_n hx hb dX4_step_50 rfl (lv_at hl 5 rfl) ?_
  refine lv_aload_n hx hb dX4_step_51 rfl (lv_at hl 5 rfl) ?_
  refine z_get hx hb hts hi4 hown hp 0 rfl rfl 16 (by decide) f88 rfl dX4_step_52 ?_
  refine z_iconst hx hb dX4_step_55 ?_
  refine z_iadd hx hb (w.2.2.2.1 + 2) (rfl) dX4_step_56 ?_
  refine z_sipush hx hb dX4_step_57 (by decide +kernel) ?_
  refine z_iand hx hb ((w.2.2.2.1 + 2) % 256) (iZ_and255 _) dX4_step_60 ?_
  refine z_put hx hb hts hi4 tyX4 tyX4_ok nmX4 hown hp 0 rfl rfl 16 (by decide) f88 rfl (rfl) (rfl) (Nat.le_of_ble_eq_true rfl) dX4_step_61 (ws' := [oR mq th (↑n) mp (↑org) ent kn gp ln m1 m2 m3 m4 m5 m6 m7 m8 ((w.2.2.2.1 + 2) % 256) w.2.2.2.2.1 w.2.2.2.2.2.1 w.2.2.2.2.2.2 m9, aI cI m7 256 w.1, aI cI m8 8 w.2.1, aI cI m9 32 w.2.2.1]) rfl (fun H locs hp => ?_)
  refine lv_aload_n hx hb dX4_step_64 rfl (lv_at hl 5 rfl) ?_
  refine lv_dup hx hb dX4_step_65 rfl ?_
  refine z_get hx hb hts hi4 hown hp 0 rfl rfl 18 (by decide) f91 rfl dX4_step_66 ?_
  refine z_iconst hx hb dX4_step_69 ?_
  refine z_iadd hx hb (w.2.2.2.2.2.1 + 1) (rfl) dX4_step_70 ?_
  refine z_put hx hb hts hi4 tyX4 tyX4_ok nmX4 hown hp 0 rfl rfl 18 (by decide) f91 rfl (rfl) (rfl) (Nat.le_of_ble_eq_true rfl) dX4_step_71 (ws' := [oR mq th (↑n) mp (↑org) ent kn gp ln m1 m2 m3 m4 m5 m6 m7 m8 ((w.2.2.2.1 + 2) % 256) w.2.2.2.2.1 (w.2.2.2.2.2.1 + 1) w.2.2.2.2.2.2 m9, aI cI m7 256 w.1, aI cI m8 8 w.2.1, aI cI m9 32 w.2.2.1]) rfl (fun H locs hp => ?_)
  refine lv_iload_n hx hb dX4_step_74 rfl (lv_at hl 4 rfl) ?_
  refine z_iconst hx hb dX4_step_75 ?_
  refine z_ishr hx hb ((w.1 w.2.2.2.1.toNat) / 16) (zshr_4 ⟨by omega, by omega⟩) dX4_step_76 ?_
  refine z_top (K) (hK.symm) ?_
  by_cases hk1 : K = 0
  · skip
    refine z_top (0) hk1 ?_
    refine z_tsI (off := 75) (tgt := 152) hx hb dX4_step_77 (by decide) (by decide) (by decide) (by decide +kernel) (by decide) ?_
    subst hk1
    refine lv_aload_n hx hb dX4_step_152 rfl (lv_at hl 5 rfl) ?_
    refine z_iconst hx hb dX4_step_153 ?_
    refine z_put hx hb hts hi4 tyX4 tyX4_ok nmX4 hown hp 0 rfl rfl 17 (by decide) f37 rfl (rfl) (rfl) (Nat.le_of_ble_eq_true rfl) dX4_step_154 (ws' := [oR mq th (↑n) mp (↑org) ent kn gp ln m1 m2 m3 m4 m5 m6 m7 m8 ((w.2.2.2.1 + 2) % 256) 1 (w.2.2.2.2.2.1 + 1) w.2.2.2.2.2.2 m9, aI cI m7 256 w.1, aI cI m8 8 w.2.1, aI cI m9 32 w.2.2.1]) rfl (fun H locs hp => ?_)
    refine lv_goto (tgt := 365) hx hb dX4_step_157 (by decide) ?_
    exact hret _ _ _ _ _ _ () (trivial) hp dX4_step_365 (Nat.le_of_ble_eq_true rfl) (Nat.le_of_ble_eq_true rfl)
  by_cases hk2 : K = 1
  · skip
    refine z_top (1) hk2 ?_
    refine z_tsI (off := 83) (tgt := 160) hx hb dX4_step_77 (by decide) (by decide) (by decide) (by decide +kernel) (by decide) ?_
    subst hk2
    refine lv_aload_n hx hb dX4_step_160 rfl (lv_at hl 5 rfl) ?_
    refine z_get hx hb hts hi4 hown hp 0 rfl rfl 15 (by decide) f34 rfl dX4_step_161 ?_
    refine lv_iload_n hx hb dX4_step_164 rfl (lv_at hl 2 rfl) ?_
    refine lv_iload_n hx hb dX4_step_165 rfl (lv_at hl 3 rfl) ?_
    refine z_top (aVal w.1 w.2.1 1 (w.1 w.2.2.2.1.toNat % 8).toNat (w.1 ((w.2.2.2.1 + 1) % 256).toNat)) (rfl) ?_
    refine z_iast hx hb hp 2 rfl ((w.1 w.2.2.2.1.toNat % 8).toNat) (by omega) dX4_step_166 (ws' := [oR mq th (↑n) mp (↑org) ent kn gp ln m1 m2 m3 m4 m5 m6 m7 m8 ((w.2.2.2.1 + 2) % 256) w.2.2.2.2.1 (w.2.2.2.2.2.1 + 1) w.2.2.2.2.2.2 m9, aI cI m7 256 w.1, aI cI m8 8 (upZ w.2.1 ((w.1 w.2.2.2.1.toNat % 8).toNat) (aVal w.1 w.2.1 1 (w.1 w.2.2.2.1.toNat % 8).toNat (w.1 ((w.2.2.2.1 + 1) % 256).toNat))), aI cI m9 32 w.2.2.1]) rfl (fun H locs hp => ?_)
    refine lv_goto (tgt := 365) hx hb dX4_step_167 (by decide) ?_
    exact hret _ _ _ _ _ _ () (trivial) hp dX4_step_365 (Nat.le_of_ble_eq_true rfl) (Nat.le_of_ble_eq_true rfl)
  by_cases hk3 : K = 2
  · skip
    refine z_top (2) hk3 ?_
    refine z_tsI (off := 93) (tgt := 170) hx hb dX4_step_77 (by decide) (by decide) (by decide) (by decide +kernel) (by decide) ?_
    subst hk3
    refine lv_aload_n hx hb dX4_step_170 rfl (lv_at hl 5 rfl) ?_
    refine z_get hx hb hts hi4 hown hp 0 rfl rfl 15 (by decide) f34 rfl dX4_step_171 ?_
    refine lv_iload_n hx hb dX4_step_174 rfl (lv_at hl 2 rfl) ?_
    refine lv_iload hx hb dX4_step_175 (lv_at hl 1 rfl) ?_
    refine z_top (aVal w.1 w.2.1 2 (w.1 w.2.2.2.1.toNat % 8).toNat (w.1 ((w.2.2.2.1 + 1) % 256).toNat)) (rfl) ?_
    refine z_iast hx hb hp 2 rfl ((w.1 w.2.2.2.1.toNat % 8).toNat) (by omega) dX4_step_177 (ws' := [oR mq th (↑n) mp (↑org) ent kn gp ln m1 m2 m3 m4 m5 m6 m7 m8 ((w.2.2.2.1 + 2) % 256) w.2.2.2.2.1 (w.2.2.2.2.2.1 + 1) w.2.2.2.2.2.2 m9, aI cI m7 256 w.1, aI cI m8 8 (upZ w.2.1 ((w.1 w.2.2.2.1.toNat % 8).toNat) (aVal w.1 w.2.1 2 (w.1 w.2.2.2.1.toNat % 8).toNat (w.1 ((w.2.2.2.1 + 1) % 256).toNat))), aI cI m9 32 w.2.2.1]) rfl (fun H locs hp => ?_)
    refine lv_goto (tgt := 365) hx hb dX4_step_178 (by decide) ?_
    exact hret _ _ _ _ _ _ () (trivial) hp dX4_step_365 (Nat.le_of_ble_eq_true rfl) (Nat.le_of_ble_eq_true rfl)
  by_cases hk4 : K = 3
  · skip
    refine z_top (3) hk4 ?_
    refine z_tsI (off := 104) (tgt := 181) hx hb dX4_step_77 (by decide) (by decide) (by decide) (by decide +kernel) (by decide) ?_
    subst hk4
    refine lv_aload_n hx hb dX4_step_181 rfl (lv_at hl 5 rfl) ?_
    refine z_get hx hb hts hi4 hown hp 0 rfl rfl 15 (by decide) f34 rfl dX4_step_182 ?_
    refine lv_iload_n hx hb dX4_step_185 rfl (lv_at hl 2 rfl) ?_
    refine lv_iload hx hb dX4_step_186 (lv_at hl 0 rfl) ?_
    refine lv_iload hx hb dX4_step_188 (lv_at hl 1 rfl) ?_
    refine z_iadd hx hb ((w.2.1 ((w.1 w.2.2.2.1.toNat % 8).toNat)) + (w.2.1 ((w.1 ((w.2.2.2.1 + 1) % 256).toNat % 8).toNat))) (rfl) dX4_step_190 ?_
    refine z_sipush hx hb dX4_step_191 (by decide +kernel) ?_
    refine z_iand hx hb (((w.2.1 ((w.1 w.2.2.2.1.toNat % 8).toNat)) + (w.2.1 ((w.1 ((w.2.2.2.1 + 1) % 256).toNat % 8).toNat))) % 256) (iZ_and255 _) dX4_step_194 ?_
    refine z_top (aVal w.1 w.2.1 3 (w.1 w.2.2.2.1.toNat % 8).toNat (w.1 ((w.2.2.2.1 + 1) % 256).toNat)) (rfl) ?_
    refine z_iast hx hb hp 2 rfl ((w.1 w.2.2.2.1.toNat % 8).toNat) (by omega) dX4_step_195 (ws' := [oR mq th (↑n) mp (↑org) ent kn gp ln m1 m2 m3 m4 m5 m6 m7 m8 ((w.2.2.2.1 + 2) % 256) w.2.2.2.2.1 (w.2.2.2.2.2.1 + 1) w.2.2.2.2.2.2 m9, aI cI m7 256 w.1, aI cI m8 8 (upZ w.2.1 ((w.1 w.2.2.2.1.toNat % 8).toNat) (aVal w.1 w.2.1 3 (w.1 w.2.2.2.1.toNat % 8).toNat (w.1 ((w.2.2.2.1 + 1) % 256).toNat))), aI cI m9 32 w.2.2.1]) rfl (fun H locs hp => ?_)
    refine lv_goto (tgt := 365) hx hb dX4_step_196 (by decide) ?_
    exact hret _ _ _ _ _ _ () (trivial) hp dX4_step_365 (Nat.le_of_ble_eq_true rfl) (Nat.le_of_ble_eq_true rfl)
  by_cases hk5 : K = 4
  · skip
    refine z_top (4) hk5 ?_
    refine z_tsI (off := 122) (tgt := 199) hx hb dX4_step_77 (by decide) (by decide) (by decide) (by decide +kernel) (by decide) ?_
    subst hk5
    refine lv_aload_n hx hb dX4_step_199 rfl (lv_at hl 5 rfl) ?_
    refine z_get hx hb hts hi4 hown hp 0 rfl rfl 15 (by decide) f34 rfl dX4_step_200 ?_
    refine lv_iload_n hx hb dX4_step_203 rfl (lv_at hl 2 rfl) ?_
    refine lv_iload hx hb dX4_step_204 (lv_at hl 0 rfl) ?_
    refine lv_iload_n hx hb dX4_step_206 rfl (lv_at hl 3 rfl) ?_
    refine z_iadd hx hb ((w.2.1 ((w.1 w.2.2.2.1.toNat % 8).toNat)) + (w.1 (((w.2.2.2.1 + 1) % 256).toNat))) (rfl) dX4_step_207 ?_
    refine z_sipush hx hb dX4_step_208 (by decide +kernel) ?_
    refine z_iand hx hb (((w.2.1 ((w.1 w.2.2.2.1.toNat % 8).toNat)) + (w.1 (((w.2.2.2.1 + 1) % 256).toNat))) % 256) (iZ_and255 _) dX4_step_211 ?_
    refine z_top (aVal w.1 w.2.1 4 (w.1 w.2.2.2.1.toNat % 8).toNat (w.1 ((w.2.2.2.1 + 1) % 256).toNat)) (rfl) ?_
    refine z_iast hx hb hp 2 rfl ((w.1 w.2.2.2.1.toNat % 8).toNat) (by omega) dX4_step_212 (ws' := [oR mq th (↑n) mp (↑org) ent kn gp ln m1 m2 m3 m4 m5 m6 m7 m8 ((w.2.2.2.1 + 2) % 256) w.2.2.2.2.1 (w.2.2.2.2.2.1 + 1) w.2.2.2.2.2.2 m9, aI cI m7 256 w.1, aI cI m8 8 (upZ w.2.1 ((w.1 w.2.2.2.1.toNat % 8).toNat) (aVal w.1 w.2.1 4 (w.1 w.2.2.2.1.toNat % 8).toNat (w.1 ((w.2.2.2.1 + 1) % 256).toNat))), aI cI m9 32 w.2.2.1]) rfl (fun H locs hp => ?_)
    refine lv_goto (tgt := 365) hx hb dX4_step_213 (by decide) ?_
    exact hret _ _ _ _ _ _ () (trivial) hp dX4_step_365 (Nat.le_of_ble_eq_true rfl) (Nat.le_of_ble_eq_true rfl)
  by_cases hk6 : K = 5
  · skip
    refine z_top (5) hk6 ?_
    refine z_tsI (off := 139) (tgt := 216) hx hb dX4_step_77 (by decide) (by decide) (by decide) (by decide +kernel) (by decide) ?_
    subst hk6
    refine lv_aload_n hx hb dX4_step_216 rfl (lv_at hl 5 rfl) ?_
    refine z_get hx hb hts hi4 hown hp 0 rfl rfl 15 (by decide) f34 rfl dX4_step_217 ?_
    refine lv_iload_n hx hb dX4_step_220 rfl (lv_at hl 2 rfl) ?_
    refine lv_aload_n hx hb dX4_step_221 rfl (lv_at hl 5 rfl) ?_
    refine z_get hx hb hts hi4 hown hp 0 rfl rfl 14 (by decide) f31 rfl dX4_step_222 ?_
    refine lv_iload hx hb dX4_step_225 (lv_at hl 1 rfl) ?_
    refine z_iald hx hb hp 1 rfl ((w.2.1 (w.1 ((w.2.2.2.1 + 1) % 256).toNat % 8).toNat).toNat) (by omega) dX4_step_227 (w.1 ((w.2.1 (w.1 ((w.2.2.2.1 + 1) % 256).toNat % 8).toNat).toNat)) (rfl) ?_
    refine z_top (aVal w.1 w.2.1 5 (w.1 w.2.2.2.1.toNat % 8).toNat (w.1 ((w.2.2.2.1 + 1) % 256).toNat)) (rfl) ?_
    refine z_iast hx hb hp 2 rfl ((w.1 w.2.2.2.1.toNat % 8).toNat) (by omega) dX4_step_228 (ws' := [oR mq th (↑n) mp (↑org) ent kn gp ln m1 m2 m3 m4 m5 m6 m7 m8 ((w.2.2.2.1 + 2) % 256) w.2.2.2.2.1 (w.2.2.2.2.2.1 + 1) w.2.2.2.2.2.2 m9, aI cI m7 256 w.1, aI cI m8 8 (upZ w.2.1 ((w.1 w.2.2.2.1.toNat % 8).toNat) (aVal w.1 w.2.1 5 (w.1 w.2.2.2.1.toNat % 8).toNat (w.1 ((w.2.2.2.1 + 1) % 256).toNat))), aI cI m9 32 w.2.2.1]) rfl (fun H locs hp => ?_)
    refine lv_goto (tgt := 365) hx hb dX4_step_229 (by decide) ?_
    exact hret _ _ _ _ _ _ () (trivial) hp dX4_step_365 (Nat.le_of_ble_eq_true rfl) (Nat.le_of_ble_eq_true rfl)
  by_cases hk7 : K = 6
  · skip
    refine z_top (6) hk7 ?_
    refine z_tsI (off := 155) (tgt := 232) hx hb dX4_step_77 (by decide) (by decide) (by decide) (by decide +kernel) (by decide) ?_
    subst hk7
    refine lv_aload_n hx hb dX4_step_232 rfl (lv_at hl 5 rfl) ?_
    refine z_get hx hb hts hi4 hown hp 0 rfl rfl 14 (by decide) f31 rfl dX4_step_233 ?_
    refine lv_iload hx hb dX4_step_236 (lv_at hl 1 rfl) ?_
    refine lv_iload hx hb dX4_step_238 (lv_at hl 0 rfl) ?_
    refine z_iast hx hb hp 1 rfl ((w.2.1 (w.1 ((w.2.2.2.1 + 1) % 256).toNat % 8).toNat).toNat) (by omega) dX4_step_240 (ws' := [oR mq th (↑n) mp (↑org) ent kn gp ln m1 m2 m3 m4 m5 m6 m7 m8 ((w.2.2.2.1 + 2) % 256) w.2.2.2.2.1 (w.2.2.2.2.2.1 + 1) w.2.2.2.2.2.2 m9, aI cI m7 256 (upZ w.1 ((w.2.1 (w.1 ((w.2.2.2.1 + 1) % 256).toNat % 8).toNat).toNat) (w.2.1 ((w.1 w.2.2.2.1.toNat % 8).toNat))), aI cI m8 8 w.2.1, aI cI m9 32 w.2.2.1]) rfl (fun H locs hp => ?_)
    refine lv_goto (tgt := 365) hx hb dX4_step_241 (by decide) ?_
    exact hret _ _ _ _ _ _ () (trivial) hp dX4_step_365 (Nat.le_of_ble_eq_true rfl) (Nat.le_of_ble_eq_true rfl)
  by_cases hk8 : K = 7
  · skip
    refine z_top (7) hk8 ?_
    refine z_tsI (off := 167) (tgt := 244) hx hb dX4_step_77 (by decide) (by decide) (by decide) (by decide +kernel) (by decide) ?_
    subst hk8
    refine lv_aload_n hx hb dX4_step_244 rfl (lv_at hl 5 rfl) ?_
    refine z_get hx hb hts hi4 hown hp 0 rfl rfl 15 (by decide) f34 rfl dX4_step_245 ?_
    refine lv_iload_n hx hb dX4_step_248 rfl (lv_at hl 2 rfl) ?_
    refine lv_iload hx hb dX4_step_249 (lv_at hl 0 rfl) ?_
    refine lv_iload hx hb dX4_step_251 (lv_at hl 1 rfl) ?_
    refine z_isub hx hb ((w.2.1 ((w.1 w.2.2.2.1.toNat % 8).toNat)) - (w.2.1 ((w.1 ((w.2.2.2.1 + 1) % 256).toNat % 8).toNat))) (rfl) dX4_step_253 ?_
    refine z_sipush hx hb dX4_step_254 (by decide +kernel) ?_
    refine z_iand hx hb (((w.2.1 ((w.1 w.2.2.2.1.toNat % 8).toNat)) - (w.2.1 ((w.1 ((w.2.2.2.1 + 1) % 256).toNat % 8).toNat))) % 256) (iZ_and255 _) dX4_step_257 ?_
    refine z_top (aVal w.1 w.2.1 7 (w.1 w.2.2.2.1.toNat % 8).toNat (w.1 ((w.2.2.2.1 + 1) % 256).toNat)) (rfl) ?_
    refine z_iast hx hb hp 2 rfl ((w.1 w.2.2.2.1.toNat % 8).toNat) (by omega) dX4_step_258 (ws' := [oR mq th (↑n) mp (↑org) ent kn gp ln m1 m2 m3 m4 m5 m6 m7 m8 ((w.2.2.2.1 + 2) % 256) w.2.2.2.2.1 (w.2.2.2.2.2.1 + 1) w.2.2.2.2.2.2 m9, aI cI m7 256 w.1, aI cI m8 8 (upZ w.2.1 ((w.1 w.2.2.2.1.toNat % 8).toNat) (aVal w.1 w.2.1 7 (w.1 w.2.2.2.1.toNat % 8).toNat (w.1 ((w.2.2.2.1 + 1) % 256).toNat))), aI cI m9 32 w.2.2.1]) rfl (fun H locs hp => ?_)
    refine lv_goto (tgt := 365) hx hb dX4_step_259 (by decide) ?_
    exact hret _ _ _ _ _ _ () (trivial) hp dX4_step_365 (Nat.le_of_ble_eq_true rfl) (Nat.le_of_ble_eq_true rfl)
  by_cases hk9 : K = 8
  · skip
    refine z_top (8) hk9 ?_
    refine z_tsI (off := 185) (tgt := 262) hx hb dX4_step_77 (by decide) (by decide) (by decide) (by decide +kernel) (by decide) ?_
    subst hk9
    refine lv_aload_n hx hb dX4_step_262 rfl (lv_at hl 5 rfl) ?_
    refine lv_iload_n hx hb dX4_step_263 rfl (lv_at hl 3 rfl) ?_
    refine z_put hx hb hts hi4 tyX4 tyX4_ok nmX4 hown hp 0 rfl rfl 16 (by decide) f88 rfl (rfl) (rfl) (Nat.le_of_ble_eq_true rfl) dX4_step_264 (ws' := [oR mq th (↑n) mp (↑org) ent kn gp ln m1 m2 m3 m4 m5 m6 m7 m8 (w.1 (((w.2.2.2.1 + 1) % 256).toNat)) w.2.2.2.2.1 (w.2.2.2.2.2.1 + 1) w.2.2.2.2.2.2 m9, aI cI m7 256 w.1, aI cI m8 8 w.2.1, aI cI m9 32 w.2.2.1]) rfl (fun H locs hp => ?_)
    refine lv_goto (tgt := 365) hx hb dX4_step_267 (by decide) ?_
    exact hret _ _ _ _ _ _ () (trivial) hp dX4_step_365 (Nat.le_of_ble_eq_true rfl) (Nat.le_of_ble_eq_true rfl)
  by_cases hk10 : K = 9
  · skip
    refine z_top (9) hk10 ?_
    refine z_tsI (off := 193) (tgt := 270) hx hb dX4_step_77 (by decide) (by decide) (by decide) (by decide +kernel) (by decide) ?_
    subst hk10
    refine lv_aload_n hx hb dX4_step_270 rfl (lv_at hl 5 rfl) ?_
    refine lv_iload hx hb dX4_step_271 (lv_at hl 0 rfl) ?_
    refine z_if_ne (tgt := 280) hx hb dX4_step_273 (by decide) (by omega) (fun h11 => ?_) (fun h11 => ?_)
    · skip
      refine lv_aload_n hx hb dX4_step_280 rfl (lv_at hl 5 rfl) ?_
      refine z_get hx hb hts hi4 hown hp 0 rfl rfl 16 (by decide) f88 rfl dX4_step_281 ?_
      refine z_top (aPl w.2.1 9 (w.1 w.2.2.2.1.toNat % 8).toNat (w.1 ((w.2.2.2.1 + 1) % 256).toNat) ((w.2.2.2.1 + 2) % 256)) (by unfold aPl; (repeat' split) <;> omega) ?_
      refine z_put hx hb hts hi4 tyX4 tyX4_ok nmX4 hown hp 0 rfl rfl 16 (by decide) f88 rfl (rfl) (rfl) (Nat.le_of_ble_eq_true rfl) dX4_step_284 (ws' := [oR mq th (↑n) mp (↑org) ent kn gp ln m1 m2 m3 m4 m5 m6 m7 m8 (aPl w.2.1 9 (w.1 w.2.2.2.1.toNat % 8).toNat (w.1 ((w.2.2.2.1 + 1) % 256).toNat) ((w.2.2.2.1 + 2) % 256)) w.2.2.2.2.1 (w.2.2.2.2.2.1 + 1) w.2.2.2.2.2.2 m9, aI cI m7 256 w.1, aI cI m8 8 w.2.1, aI cI m9 32 w.2.2.1]) rfl (fun H locs hp => ?_)
      refine lv_goto (tgt := 365) hx hb dX4_step_287 (by decide) ?_
      exact hret _ _ _ _ _ _ () (trivial) hp dX4_step_365 (Nat.le_of_ble_eq_true rfl) (Nat.le_of_ble_eq_true rfl)
    · skip
      refine lv_iload_n hx hb dX4_step_276 rfl (lv_at hl 3 rfl) ?_
      refine lv_goto (tgt := 284) hx hb dX4_step_277 (by decide) ?_
      refine z_top (aPl w.2.1 9 (w.1 w.2.2.2.1.toNat % 8).toNat (w.1 ((w.2.2.2.1 + 1) % 256).toNat) ((w.2.2.2.1 + 2) % 256)) (by unfold aPl; (repeat' split) <;> omega) ?_
      refine z_put hx hb hts hi4 tyX4 tyX4_ok nmX4 hown hp 0 rfl rfl 16 (by decide) f88 rfl (rfl) (rfl) (Nat.le_of_ble_eq_true rfl) dX4_step_284 (ws' := [oR mq th (↑n) mp (↑org) ent kn gp ln m1 m2 m3 m4 m5 m6 m7 m8 (aPl w.2.1 9 (w.1 w.2.2.2.1.toNat % 8).toNat (w.1 ((w.2.2.2.1 + 1) % 256).toNat) ((w.2.2.2.1 + 2) % 256)) w.2.2.2.2.1 (w.2.2.2.2.2.1 + 1) w.2.2.2.2.2.2 m9, aI cI m7 256 w.1, aI cI m8 8 w.2.1, aI cI m9 32 w.2.2.1]) rfl (fun H locs hp => ?_)
      refine lv_goto (tgt := 365) hx hb dX4_step_287 (by decide) ?_
      exact hret _ _ _ _ _ _ () (trivial) hp dX4_step_365 (Nat.le_of_ble_eq_true rfl) (Nat.le_of_ble_eq_true rfl)
  by_cases hk12 : K = 10
  · skip
    refine z_top (10) hk12 ?_
    refine z_tsI (off := 213) (tgt := 290) hx hb dX4_step_77 (by decide) (by decide) (by decide) (by decide +kernel) (by decide) ?_
    subst hk12
    refine lv_aload_n hx hb dX4_step_290 rfl (lv_at hl 5 rfl) ?_
    refine lv_iload hx hb dX4_step_291 (lv_at hl 0 rfl) ?_
    refine z_bipush hx hb dX4_step_293 (by decide +kernel) ?_
    refine z_icmp_le (tgt := 302) hx hb dX4_step_295 (by decide) (by omega) (fun h13 => ?_) (fun h13 => ?_)
    · skip
      refine lv_aload_n hx hb dX4_step_302 rfl (lv_at hl 5 rfl) ?_
      refine z_get hx hb hts hi4 hown hp 0 rfl rfl 16 (by decide) f88 rfl dX4_step_303 ?_
      refine z_top (aPl w.2.1 10 (w.1 w.2.2.2.1.toNat % 8).toNat (w.1 ((w.2.2.2.1 + 1) % 256).toNat) ((w.2.2.2.1 + 2) % 256)) (by unfold aPl; (repeat' split) <;> omega) ?_
      refine z_put hx hb hts hi4 tyX4 tyX4_ok nmX4 hown hp 0 rfl rfl 16 (by decide) f88 rfl (rfl) (rfl) (Nat.le_of_ble_eq_true rfl) dX4_step_306 (ws' := [oR mq th (↑n) mp (↑org) ent kn gp ln m1 m2 m3 m4 m5 m6 m7 m8 (aPl w.2.1 10 (w.1 w.2.2.2.1.toNat % 8).toNat (w.1 ((w.2.2.2.1 + 1) % 256).toNat) ((w.2.2.2.1 + 2) % 256)) w.2.2.2.2.1 (w.2.2.2.2.2.1 + 1) w.2.2.2.2.2.2 m9, aI cI m7 256 w.1, aI cI m8 8 w.2.1, aI cI m9 32 w.2.2.1]) rfl (fun H locs hp => ?_)
      refine lv_goto (tgt := 365) hx hb dX4_step_309 (by decide) ?_
      exact hret _ _ _ _ _ _ () (trivial) hp dX4_step_365 (Nat.le_of_ble_eq_true rfl) (Nat.le_of_ble_eq_true rfl)
    · skip
      refine lv_iload_n hx hb dX4_step_298 rfl (lv_at hl 3 rfl) ?_
      refine lv_goto (tgt := 306) hx hb dX4_step_299 (by decide) ?_
      refine z_top (aPl w.2.1 10 (w.1 w.2.2.2.1.toNat % 8).toNat (w.1 ((w.2.2.2.1 + 1) % 256).toNat) ((w.2.2.2.1 + 2) % 256)) (by unfold aPl; (repeat' split) <;> omega) ?_
      refine z_put hx hb hts hi4 tyX4 tyX4_ok nmX4 hown hp 0 rfl rfl 16 (by decide) f88 rfl (rfl) (rfl) (Nat.le_of_ble_eq_true rfl) dX4_step_306 (ws' := [oR mq th (↑n) mp (↑org) ent kn gp ln m1 m2 m3 m4 m5 m6 m7 m8 (aPl w.2.1 10 (w.1 w.2.2.2.1.toNat % 8).toNat (w.1 ((w.2.2.2.1 + 1) % 256).toNat) ((w.2.2.2.1 + 2) % 256)) w.2.2.2.2.1 (w.2.2.2.2.2.1 + 1) w.2.2.2.2.2.2 m9, aI cI m7 256 w.1, aI cI m8 8 w.2.1, aI cI m9 32 w.2.2.1]) rfl (fun H locs hp => ?_)
      refine lv_goto (tgt := 365) hx hb dX4_step_309 (by decide) ?_
      exact hret _ _ _ _ _ _ () (trivial) hp dX4_step_365 (Nat.le_of_ble_eq_true rfl) (Nat.le_of_ble_eq_true rfl)
  by_cases hk14 : K = 11
  · skip
    refine z_top (11) hk14 ?_
    refine z_tsI (off := 235) (tgt := 312) hx hb dX4_step_77 (by decide) (by decide) (by decide) (by decide +kernel) (by decide) ?_
    subst hk14
    refine lv_aload_n hx hb dX4_step_312 rfl (lv_at hl 5 rfl) ?_
    refine lv_iload hx hb dX4_step_313 (lv_at hl 0 rfl) ?_
    refine z_put hx hb hts hi4 tyX4 tyX4_ok nmX4 hown hp 0 rfl rfl 16 (by decide) f88 rfl (rfl) (rfl) (Nat.le_of_ble_eq_true rfl) dX4_step_315 (ws' := [oR mq th (↑n) mp (↑org) ent kn gp ln m1 m2 m3 m4 m5 m6 m7 m8 (w.2.1 ((w.1 w.2.2.2.1.toNat % 8).toNat)) w.2.2.2.2.1 (w.2.2.2.2.2.1 + 1) w.2.2.2.2.2.2 m9, aI cI m7 256 w.1, aI cI m8 8 w.2.1, aI cI m9 32 w.2.2.1]) rfl (fun H locs hp => ?_)
    refine lv_goto (tgt := 365) hx hb dX4_step_318 (by decide) ?_
    exact hret _ _ _ _ _ _ () (trivial) hp dX4_step_365 (Nat.le_of_ble_eq_true rfl) (Nat.le_of_ble_eq_true rfl)
  by_cases hk15 : K = 12
  · skip
    refine z_top (12) hk15 ?_
    refine z_tsI (off := 244) (tgt := 321) hx hb dX4_step_77 (by decide) (by decide) (by decide) (by decide +kernel) (by decide) ?_
    subst hk15
    refine lv_aload_n hx hb dX4_step_321 rfl (lv_at hl 5 rfl) ?_
    refine z_get hx hb hts hi4 hown hp 0 rfl rfl 15 (by decide) f34 rfl dX4_step_322 ?_
    refine lv_iload_n hx hb dX4_step_325 rfl (lv_at hl 2 rfl) ?_
    refine lv_iload hx hb dX4_step_326 (lv_at hl 0 rfl) ?_
    refine lv_iload hx hb dX4_step_328 (lv_at hl 1 rfl) ?_
    refine z_iand hx hb (zand (w.2.1 ((w.1 w.2.2.2.1.toNat % 8).toNat)) (w.2.1 ((w.1 ((w.2.2.2.1 + 1) % 256).toNat % 8).toNat))) (zand_e _ _) dX4_step_330 ?_
    refine z_top (aVal w.1 w.2.1 12 (w.1 w.2.2.2.1.toNat % 8).toNat (w.1 ((w.2.2.2.1 + 1) % 256).toNat)) (rfl) ?_
    refine z_iast hx hb hp 2 rfl ((w.1 w.2.2.2.1.toNat % 8).toNat) (by omega) dX4_step_331 (ws' := [oR mq th (↑n) mp (↑org) ent kn gp ln m1 m2 m3 m4 m5 m6 m7 m8 ((w.2.2.2.1 + 2) % 256) w.2.2.2.2.1 (w.2.2.2.2.2.1 + 1) w.2.2.2.2.2.2 m9, aI cI m7 256 w.1, aI cI m8 8 (upZ w.2.1 ((w.1 w.2.2.2.1.toNat % 8).toNat) (aVal w.1 w.2.1 12 (w.1 w.2.2.2.1.toNat % 8).toNat (w.1 ((w.2.2.2.1 + 1) % 256).toNat))), aI cI m9 32 w.2.2.1]) rfl (fun H locs hp => ?_)
    refine lv_goto (tgt := 365) hx hb dX4_step_332 (by decide) ?_
    exact hret _ _ _ _ _ _ () (trivial) hp dX4_step_365 (Nat.le_of_ble_eq_true rfl) (Nat.le_of_ble_eq_true rfl)
  by_cases hk16 : K = 13
  · skip
    refine z_top (13) hk16 ?_
    refine z_tsI (off := 258) (tgt := 335) hx hb dX4_step_77 (by decide) (by decide) (by decide) (by decide +kernel) (by decide) ?_
    subst hk16
    refine lv_aload_n hx hb dX4_step_335 rfl (lv_at hl 5 rfl) ?_
    refine z_get hx hb hts hi4 hown hp 0 rfl rfl 15 (by decide) f34 rfl dX4_step_336 ?_
    refine lv_iload_n hx hb dX4_step_339 rfl (lv_at hl 2 rfl) ?_
    refine lv_iload hx hb dX4_step_340 (lv_at hl 0 rfl) ?_
    refine lv_iload_n hx hb dX4_step_342 rfl (lv_at hl 3 rfl) ?_
    refine z_bipush hx hb dX4_step_343 (by decide +kernel) ?_
    refine z_iand hx hb ((w.1 (((w.2.2.2.1 + 1) % 256).toNat)) % 8) (iZ_and7 _) dX4_step_345 ?_
    refine z_ishr hx hb (zshr (w.2.1 ((w.1 w.2.2.2.1.toNat % 8).toNat)) ((w.1 (((w.2.2.2.1 + 1) % 256).toNat)) % 8)) (zshr_e _ _) dX4_step_346 ?_
    refine z_top (aVal w.1 w.2.1 13 (w.1 w.2.2.2.1.toNat % 8).toNat (w.1 ((w.2.2.2.1 + 1) % 256).toNat)) (rfl) ?_
    refine z_iast hx hb hp 2 rfl ((w.1 w.2.2.2.1.toNat % 8).toNat) (by omega) dX4_step_347 (ws' := [oR mq th (↑n) mp (↑org) ent kn gp ln m1 m2 m3 m4 m5 m6 m7 m8 ((w.2.2.2.1 + 2) % 256) w.2.2.2.2.1 (w.2.2.2.2.2.1 + 1) w.2.2.2.2.2.2 m9, aI cI m7 256 w.1, aI cI m8 8 (upZ w.2.1 ((w.1 w.2.2.2.1.toNat % 8).toNat) (aVal w.1 w.2.1 13 (w.1 w.2.2.2.1.toNat % 8).toNat (w.1 ((w.2.2.2.1 + 1) % 256).toNat))), aI cI m9 32 w.2.2.1]) rfl (fun H locs hp => ?_)
    refine lv_goto (tgt := 365) hx hb dX4_step_348 (by decide) ?_
    exact hret _ _ _ _ _ _ () (trivial) hp dX4_step_365 (Nat.le_of_ble_eq_true rfl) (Nat.le_of_ble_eq_true rfl)
  by_cases hk17 : K = 14
  · skip
    refine z_top (14) hk17 ?_
    refine z_tsI (off := 274) (tgt := 351) hx hb dX4_step_77 (by decide) (by decide) (by decide) (by decide +kernel) (by decide) ?_
    subst hk17
    refine lv_aload_n hx hb dX4_step_351 rfl (lv_at hl 5 rfl) ?_
    refine lv_iload hx hb dX4_step_352 (lv_at hl 0 rfl) ?_
    refine zc_v (wr := [aI cI m7 256 w.1, aI cI m8 8 w.2.1]) (W0 := [oR mq th (↑n) mp (↑org) ent kn gp ln m1 m2 m3 m4 m5 m6 m7 m8 (((w.2.2.2.1 + 2) % 256)) w.2.2.2.2.1 (w.2.2.2.2.2.1 + 1) w.2.2.2.2.2.2 m9, aI cI m9 32 w.2.2.1]) (wl2 := fun (u : Unit) => [oR mq th (↑n) mp (↑org) ent kn gp ln m1 m2 m3 m4 m5 m6 m7 m8 (((w.2.2.2.1 + 2) % 256)) w.2.2.2.2.1 (w.2.2.2.2.2.1 + 1) (w.2.2.2.2.2.2 + 1) m9, aI cI m7 256 w.1, aI cI m8 8 w.2.1, aI cI m9 32 (upZ w.2.2.1 (w.2.2.2.2.2.2 % 32).toNat (w.2.1 (w.1 w.2.2.2.1.toNat % 8).toNat))]) (As := [.int (iZ (w.2.1 ((w.1 w.2.2.2.1.toNat % 8).toNat)))]) (rest := []) hx hb hml hown hts hp (c_X4_putOut l G cI H.size mq mp m1 m2 m3 m4 m5 m6 m7 m8 m9 n org th ent kn gp ln (((w.2.2.2.1 + 2) % 256)) w.2.2.2.2.1 (w.2.2.2.2.2.1 + 1) w.2.2.2.2.2.2 w.2.2.1 (w.2.1 (w.1 w.2.2.2.1.toNat % 8).toNat) (by omega)) zPre_blind (z_pre hp [0, 3] rfl (by decide) [.ref mq, .int (iZ (w.2.1 ((w.1 w.2.2.2.1.toNat % 8).toNat)))]) (cwV 1 hts gX4_step_X4_putOut rfl rfl rfl (by decide +kernel) ⟨Nat.le_of_ble_eq_true rfl, Nat.le_of_ble_eq_true rfl⟩) [0, 3] [1, 2] [2, 0, 1, 3] rfl rfl ⟨by decide, by decide, by decide⟩ (fun _ => rfl) 0 4 rfl rfl rfl rfl hl.1 rfl (Nat.le_of_ble_eq_true rfl) dX4_step_354 ⟨Nat.le_of_ble_eq_true rfl, Nat.le_of_ble_eq_true rfl⟩ (fun u H locs hq18 hp => ?_)
    refine lv_goto (tgt := 365) hx hb dX4_step_357 (by decide) ?_
    exact hret _ _ _ _ _ _ () (trivial) hp dX4_step_365 (Nat.le_of_ble_eq_true rfl) (Nat.le_of_ble_eq_true rfl)
  by_cases hk19 : K = 15
  · skip
    refine z_top (15) hk19 ?_
    refine z_tsO (tgt := 360) hx hb dX4_step_77 (by decide) (by decide) (by decide) ?_
    subst hk19
    refine lv_aload_n hx hb dX4_step_360 rfl (lv_at hl 5 rfl) ?_
    refine z_iconst hx hb dX4_step_361 ?_
    refine z_put hx hb hts hi4 tyX4 tyX4_ok nmX4 hown hp 0 rfl rfl 17 (by decide) f37 rfl (rfl) (rfl) (Nat.le_of_ble_eq_true rfl) dX4_step_362 (ws' := [oR mq th (↑n) mp (↑org) ent kn gp ln m1 m2 m3 m4 m5 m6 m7 m8 ((w.2.2.2.1 + 2) % 256) 2 (w.2.2.2.2.2.1 + 1) w.2.2.2.2.2.2 m9, aI cI m7 256 w.1, aI cI m8 8 w.2.1, aI cI m9 32 w.2.2.1]) rfl (fun H locs hp => ?_)
    exact hret _ _ _ _ _ _ () (trivial) hp dX4_step_365 (Nat.le_of_ble_eq_true rfl) (Nat.le_of_ble_eq_true rfl)
  exfalso; omega
