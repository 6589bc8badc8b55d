abbrev rmX4_pack : Room := { frames := 1, cells := 0, slots := 0, locals := 40 }
set_option maxRecDepth 100000 in
set_option maxHeartbeats 20000000 in
theorem c_X4_pack (l : Launch) (G : va_G) (cI : ClassId) (sz : Nat) (mq mp m1 m2 m3 m4 m5 m6 m7 m8 m9 : Nat) (n org : Nat) (th ent kn gp ln pl st sp po : Int) (pb strm cst tok dst rgt : Nat → Int) (h_n : n ≤ 160) (h_b : BB pb 160) (h_kn : rg kn) (h_f : kn ≠ 0 → Fresh pb n ln gp strm) : Met l yX4_pack wsX4_pack rmX4_pack (zPre G cI [oR mq th (↑n) mp (↑org) ent kn gp ln m1 m2 m3 m4 m5 m6 m7 m8 pl st sp po m9, aI cI mp 160 pb, aI cI m1 400 strm, aI cI m2 161 cst, aI cI m3 161 tok, aI cI m4 161 dst, aI cI m5 161 rgt] sz [.ref mq]) (va_Qv (fun (u : Int × Int × Int × (Nat → Int) × (Nat → Int) × (Nat → Int) × (Nat → Int) × (Nat → Int)) => (u.1 ≠ 0 ∧ rg u.1) ∧ Fresh pb n u.2.1 u.2.2.1 u.2.2.2.1) (fun (u : Int × Int × Int × (Nat → Int) × (Nat → Int) × (Nat → Int) × (Nat → Int) × (Nat → Int)) t => zB G cI (va_A [oR mq th (↑n) mp (↑org) ent kn gp ln m1 m2 m3 m4 m5 m6 m7 m8 pl st sp po m9, aI cI mp 160 pb, aI cI m1 400 strm, aI cI m2 161 cst, aI cI m3 161 tok, aI cI m4 161 dst, aI cI m5 161 rgt] sz) [oR mq th (↑n) mp (↑org) ent u.1 u.2.2.1 u.2.1 m1 m2 m3 m4 m5 m6 m7 m8 pl st sp po m9, aI cI mp 160 pb, aI cI m1 400 u.2.2.2.1, aI cI m2 161 u.2.2.2.2.1, aI cI m3 161 u.2.2.2.2.2.1, aI cI m4 161 u.2.2.2.2.2.2.1, aI cI m5 161 u.2.2.2.2.2.2.2] t) (va_A [oR mq th (↑n) mp (↑org) ent kn gp ln m1 m2 m3 m4 m5 m6 m7 m8 pl st sp po m9, aI cI mp 160 pb, aI cI m1 400 strm, aI cI m2 161 cst, aI cI m3 161 tok, aI cI m4 161 dst, aI cI m5 161 rgt] sz)) 0 0 (va_A [oR mq th (↑n) mp (↑org) ent kn gp ln m1 m2 m3 m4 m5 m6 m7 m8 pl st sp po m9, aI cI mp 160 pb, aI cI m1 400 strm, aI cI m2 161 cst, aI cI m3 161 tok, aI cI m4 161 dst, aI cI m5 161 rgt] sz) := by
  refine zm_v (W1 := fun (u : Int × Int × Int × (Nat → Int) × (Nat → Int) × (Nat → Int) × (Nat → Int) × (Nat → Int)) => [oR mq th (↑n) mp (↑org) ent u.1 u.2.2.1 u.2.1 m1 m2 m3 m4 m5 m6 m7 m8 pl st sp po m9, aI cI mp 160 pb, aI cI m1 400 u.2.2.2.1, aI cI m2 161 u.2.2.2.2.1, aI cI m3 161 u.2.2.2.2.2.1, aI cI m4 161 u.2.2.2.2.2.2.1, aI cI m5 161 u.2.2.2.2.2.2.2]) (cc := cX4_pack) (maxL := 5) (by decide) rfl (Nat.le_of_ble_eq_true rfl) ?_
  intro p e s m args below meth c A Q ls hsz hx hb hml hown hts hnm hret hp hl
  have hl : lv_has ls 5 [(0, .ref mq)] := hl
  have hi4 : ∀ w ∈ wsX40, w ∈ wsX4_pack := fun w h => List.mem_cons_of_mem _ (List.mem_append_right _ (h))
  have f52 := hts (.fieldLink RX4 52 "SelfOpenerModel" "known" "Z") (List.mem_of_getElem? (i := 1) rfl)
  have f16 := hts (.fieldLink RX4 16 "SelfOpenerModel" "least" "[I") (List.mem_of_getElem? (i := 2) rfl)
  have f47 := hts (.fieldLink RX4 47 "SelfOpenerModel" "size" "I") (List.mem_of_getElem? (i := 3) rfl)
  have f71 := hts (.fieldLink RX4 71 "SelfOpenerModel" "gap" "I") (List.mem_of_getElem? (i := 5) rfl)
  have f74 := hts (.fieldLink RX4 74 "SelfOpenerModel" "length" "I") (List.mem_of_getElem? (i := 6) rfl)
  have f13 := hts (.fieldLink RX4 13 "SelfOpenerModel" "stream" "[I") (List.mem_of_getElem? (i := 8) rfl)
  have f19 := hts (.fieldLink RX4 19 "SelfOpenerModel" "token" "[I") (List.mem_of_getElem? (i := 7) rfl)
  have f7 := hts (.fieldLink RX4 7 "SelfOpenerModel" "program" "[I") (List.mem_of_getElem? (i := 10) rfl)
  have f22 := hts (.fieldLink RX4 22 "SelfOpenerModel" "distance" "[I") (List.mem_of_getElem? (i := 9) rfl)
  have f25 := hts (.fieldLink RX4 25 "SelfOpenerModel" "right" "[I") (List.mem_of_getElem? (i := 4) rfl)
  suffices hw : ∀ (H : Heap) (locs : List Loc), Hp G cI A s H locs [oR mq th (↑n) mp (↑org) ent kn gp ln m1 m2 m3 m4 m5 m6 m7 m8 pl st sp po m9, aI cI mp 160 pb, aI cI m1 400 strm, aI cI m2 161 cst, aI cI m3 161 tok, aI cI m4 161 dst, aI cI m5 161 rgt] → W p l e rmX4_pack s m args below meth c H locs 0 0 Q (F0 m 0 ls []) from hw _ _ hp
  clear hp; intro H locs hp
  refine lv_aload_n hx hb dX4_pack_0 rfl (lv_at hl 0 rfl) ?_
  refine z_get hx hb hts hi4 hown hp 0 rfl rfl 5 (by decide) f52 rfl dX4_pack_1 ?_
  refine z_if_eq (tgt := 8) hx hb dX4_pack_4 (by decide) (by omega) (fun h1 => ?_) (fun h1 => ?_)
  · skip
    refine lv_aload_n hx hb dX4_pack_8 rfl (lv_at hl 0 rfl) ?_
    refine z_iconst hx hb dX4_pack_9 ?_
    refine z_put hx hb hts hi4 tyX4 tyX4_ok nmX4 hown hp 0 rfl rfl 5 (by decide) f52 rfl (by decide +kernel) (by decide +kernel) (Nat.le_of_ble_eq_true rfl) dX4_pack_10 (ws' := [oR mq th (↑n) mp (↑org) ent 1 gp ln m1 m2 m3 m4 m5 m6 m7 m8 pl st sp po m9, aI cI mp 160 pb, aI cI m1 400 strm, aI cI m2 161 cst, aI cI m3 161 tok, aI cI m4 161 dst, aI cI m5 161 rgt]) rfl (fun H locs hp => ?_)
    refine lv_aload_n hx hb dX4_pack_13 rfl (lv_at hl 0 rfl) ?_
    refine z_get hx hb hts hi4 hown hp 0 rfl rfl 9 (by decide) f16 rfl dX4_pack_14 ?_
    refine lv_aload_n hx hb dX4_pack_17 rfl (lv_at hl 0 rfl) ?_
    refine z_get hx hb hts hi4 hown hp 0 rfl rfl 1 (by decide) f47 rfl dX4_pack_18 ?_
    refine z_iconst hx hb dX4_pack_21 ?_
    refine z_iast hx hb hp 3 rfl (n) (by omega) dX4_pack_22 (ws' := [oR mq th (↑n) mp (↑org) ent 1 gp ln m1 m2 m3 m4 m5 m6 m7 m8 pl st sp po m9, aI cI mp 160 pb, aI cI m1 400 strm, aI cI m2 161 (upZ cst n 1), aI cI m3 161 tok, aI cI m4 161 dst, aI cI m5 161 rgt]) rfl (fun H locs hp => ?_)
    refine z_iconst hx hb dX4_pack_23 ?_
    refine lv_istore_n (lv' := [(1, .int (iZ (0))), (0, .ref mq)]) hx hb dX4_pack_24 rfl hl (by decide) rfl (fun ls hl => ?_)
    have lp2 : ∀ (N_lp2 : Nat) (i : Nat) (f : Nat → Int) (H : Heap) (locs : List Loc) (ls : Array Slot), (i ≤ n + 1) → (∀ j, j < i → f j = 0) → (n + 1 - i) < N_lp2 → Hp G cI A s H locs [oR mq th (↑n) mp (↑org) ent 1 gp ln m1 m2 m3 m4 m5 m6 m7 m8 pl st sp po m9, aI cI mp 160 pb, aI cI m1 400 strm, aI cI m2 161 (upZ cst n 1), aI cI m3 161 tok, aI cI m4 161 dst, aI cI m5 161 f] → lv_has ls 5 [(1, .int (iZ (↑i))), (0, .ref mq)] → W p l e rmX4_pack s m args below meth c H locs 0 0 Q (F0 m 25 ls []) := by
      intro N_lp2
      induction N_lp2 with
      | zero => intros; exfalso; omega
      | succ N_lp2 ih_lp2 =>
        intro i f H locs ls hi hf hN hp hl
        refine lv_iload_n hx hb dX4_pack_25 rfl (lv_at hl 0 rfl) ?_
        refine lv_aload_n hx hb dX4_pack_26 rfl (lv_at hl 1 rfl) ?_
        refine z_get hx hb hts hi4 hown hp 0 rfl rfl 1 (by decide) f47 rfl dX4_pack_27 ?_
        refine z_icmp_gt (tgt := 46) hx hb dX4_pack_30 (by decide) (by omega) (fun h3 => ?_) (fun h3 => ?_)
        · skip
          refine lv_aload_n hx hb dX4_pack_46 rfl (lv_at hl 1 rfl) ?_
          refine z_get hx hb hts hi4 hown hp 0 rfl rfl 1 (by decide) f47 rfl dX4_pack_47 ?_
          refine z_iconst hx hb dX4_pack_50 ?_
          refine z_isub hx hb ((↑n) - 1) (rfl) dX4_pack_51 ?_
          refine lv_istore_n (lv' := [(1, .int (iZ ((↑n) - 1))), (0, .ref mq)]) hx hb dX4_pack_52 rfl hl (by decide) rfl (fun ls hl => ?_)
          have lp4 : ∀ (N_lp4 : Nat) (k : Nat) (C T D lk : Nat → Int) (H : Heap) (locs : List Loc) (ls : Array Slot), (k ≤ n) → (PS pb n C (Mz T) (Dz T D) k) → (∀ d, 1 ≤ d → d ≤ n → lk d = ↑(al pb n k d)) → (∀ j, k ≤ j → j < n → 127 < T j → 1 ≤ D j) → k < N_lp4 → Hp G cI A s H locs [oR mq th (↑n) mp (↑org) ent 1 gp ln m1 m2 m3 m4 m5 m6 m7 m8 pl st sp po m9, aI cI mp 160 pb, aI cI m1 400 strm, aI cI m2 161 C, aI cI m3 161 T, aI cI m4 161 D, aI cI m5 161 lk] → lv_has ls 5 [(1, .int (iZ (↑k - 1))), (0, .ref mq)] → W p l e rmX4_pack s m args below meth c H locs 0 0 Q (F0 m 53 ls []) := by
            intro N_lp4
            induction N_lp4 with
            | zero => intros; exfalso; omega
            | succ N_lp4 ih_lp4 =>
              intro k C T D lk H locs ls hk hP hL hTD hN hp hl
              refine lv_iload_n hx hb dX4_pack_53 rfl (lv_at hl 0 rfl) ?_
              refine z_if_lt (tgt := 68) hx hb dX4_pack_54 (by decide) (by omega) (fun h5 => ?_) (fun h5 => ?_)
              · skip
                obtain rfl : k = 0 := by omega
                have hC := (PS_163 h_n hP).1
                have hC1 := (PS_mo hP (a := 0) (b := 0) (Nat.le_refl _) (Nat.le_refl _) (Nat.zero_le _)).1
                refine lv_aload_n hx hb dX4_pack_68 rfl (lv_at hl 1 rfl) ?_
                refine z_get hx hb hts hi4 hown hp 0 rfl rfl 9 (by decide) f16 rfl dX4_pack_69 ?_
                refine z_iconst hx hb dX4_pack_72 ?_
                refine z_iald hx hb hp 3 rfl (0) (by omega) dX4_pack_73 (C 0) (rfl) ?_
                refine lv_istore_n (lv' := [(1, .int (iZ (C 0))), (0, .ref mq)]) hx hb dX4_pack_74 rfl hl (by decide) rfl (fun ls hl => ?_)
                refine lv_aload_n hx hb dX4_pack_75 rfl (lv_at hl 1 rfl) ?_
                have jn6 : ∀ (v : Int) (H : Heap) (locs : List Loc) (ls : Array Slot), (v = max 0 (C 0 - ↑n)) → Hp G cI A s H locs [oR mq th (↑n) mp (↑org) ent 1 gp ln m1 m2 m3 m4 m5 m6 m7 m8 pl st sp po m9, aI cI mp 160 pb, aI cI m1 400 strm, aI cI m2 161 C, aI cI m3 161 T, aI cI m4 161 D, aI cI m5 161 lk] → lv_has ls 5 [(1, .int (iZ (C 0))), (0, .ref mq)] → W p l e rmX4_pack s m args below meth c H locs 0 0 Q (F0 m 94 ls [.int (iZ (v)), .ref mq]) := by
                  intro v H locs ls hv hp hl
                  refine z_top (max 0 (C 0 - ↑n)) (hv) ?_
                  refine z_put hx hb hts hi4 tyX4 tyX4_ok nmX4 hown hp 0 rfl rfl 6 (by decide) f71 rfl (rfl) (rfl) (Nat.le_of_ble_eq_true rfl) dX4_pack_94 (ws' := [oR mq th (↑n) mp (↑org) ent 1 (max 0 (C 0 - ↑n)) ln m1 m2 m3 m4 m5 m6 m7 m8 pl st sp po m9, aI cI mp 160 pb, aI cI m1 400 strm, aI cI m2 161 C, aI cI m3 161 T, aI cI m4 161 D, aI cI m5 161 lk]) rfl (fun H locs hp => ?_)
                  refine lv_aload_n hx hb dX4_pack_97 rfl (lv_at hl 1 rfl) ?_
                  refine z_iconst hx hb dX4_pack_98 ?_
                  refine z_put hx hb hts hi4 tyX4 tyX4_ok nmX4 hown hp 0 rfl rfl 7 (by decide) f74 rfl (rfl) (rfl) (Nat.le_of_ble_eq_true rfl) dX4_pack_99 (ws' := [oR mq th (↑n) mp (↑org) ent 1 (max 0 (C 0 - ↑n)) 0 m1 m2 m3 m4 m5 m6 m7 m8 pl st sp po m9, aI cI mp 160 pb, aI cI m1 400 strm, aI cI m2 161 C, aI cI m3 161 T, aI cI m4 161 D, aI cI m5 161 lk]) rfl (fun H locs hp => ?_)
                  refine z_iconst hx hb dX4_pack_102 ?_
                  refine lv_istore_n (lv' := [(2, .int (iZ (0))), (1, .int (iZ (C 0))), (0, .ref mq)]) hx hb dX4_pack_103 rfl hl (by decide) rfl (fun ls hl => ?_)
                  obtain ⟨R, hR0⟩ : ∃ z, z = wst pb (Mz T) (Dz T D) n (C 0) n 0 0 strm (max 0 (C 0 - ↑n)) := ⟨_, rfl⟩
                  have lp8 : ∀ (N_lp8 : Nat) (f gr rd : Nat) (row : Nat → Int) (gp : Int) (H : Heap) (locs : List Loc) (ls : Array Slot), (gr ≤ n) → (n ≤ f + gr) → ((rd : Int) + C gr = C 0) → (0 ≤ gp ∧ gp ≤ 200) → (wst pb (Mz T) (Dz T D) n (C 0) f gr rd row gp = R) → (n - gr) < N_lp8 → Hp G cI A s H locs [oR mq th (↑n) mp (↑org) ent 1 gp (↑rd) m1 m2 m3 m4 m5 m6 m7 m8 pl st sp po m9, aI cI mp 160 pb, aI cI m1 400 row, aI cI m2 161 C, aI cI m3 161 T, aI cI m4 161 D, aI cI m5 161 lk] → lv_has ls 5 [(2, .int (iZ (↑gr))), (1, .int (iZ (C 0))), (0, .ref mq)] → W p l e rmX4_pack s m args below meth c H locs 0 0 Q (F0 m 104 ls []) := by
                    intro N_lp8
                    induction N_lp8 with
                    | zero => intros; exfalso; omega
                    | succ N_lp8 ih_lp8 =>
                      intro f gr rd row gp H locs ls hg1 hg2 hrd hgp hR hN hp hl
                      refine lv_iload_n hx hb dX4_pack_104 rfl (lv_at hl 0 rfl) ?_
                      refine lv_aload_n hx hb dX4_pack_105 rfl (lv_at hl 2 rfl) ?_
                      refine z_get hx hb hts hi4 hown hp 0 rfl rfl 1 (by decide) f47 rfl dX4_pack_106 ?_
                      refine z_icmp_ge (tgt := 267) hx hb dX4_pack_109 (by decide) (by omega) (fun h9 => ?_) (fun h9 => ?_)
                      · skip
                        have hgn : gr = n := by omega
                        rw [wst_e (by omega)] at hR
                        have hcn1 := hP.1
                        rw [hgn] at hrd
                        refine lv_aload_n hx hb dX4_pack_267 rfl (lv_at hl 2 rfl) ?_
                        refine z_get hx hb hts hi4 hown hp 0 rfl rfl 8 (by decide) f13 rfl dX4_pack_268 ?_
                        refine lv_aload_n hx hb dX4_pack_271 rfl (lv_at hl 2 rfl) ?_
                        refine z_get hx hb hts hi4 hown hp 0 rfl rfl 7 (by decide) f74 rfl dX4_pack_272 ?_
                        refine z_iconst hx hb dX4_pack_275 ?_
                        refine z_iast hx hb hp 2 rfl (rd) (by omega) dX4_pack_276 (ws' := [oR mq th (↑n) mp (↑org) ent 1 gp (↑rd) m1 m2 m3 m4 m5 m6 m7 m8 pl st sp po m9, aI cI mp 160 pb, aI cI m1 400 (upZ row rd 0), aI cI m2 161 C, aI cI m3 161 T, aI cI m4 161 D, aI cI m5 161 lk]) rfl (fun H locs hp => ?_)
                        refine lv_aload_n hx hb dX4_pack_277 rfl (lv_at hl 2 rfl) ?_
                        refine lv_dup hx hb dX4_pack_278 rfl ?_
                        refine z_get hx hb hts hi4 hown hp 0 rfl rfl 7 (by decide) f74 rfl dX4_pack_279 ?_
                        refine z_iconst hx hb dX4_pack_282 ?_
                        refine z_iadd hx hb (↑(rd + 1)) (by omega) dX4_pack_283 ?_
                        refine z_put hx hb hts hi4 tyX4 tyX4_ok nmX4 hown hp 0 rfl rfl 7 (by decide) f74 rfl (rfl) (rfl) (Nat.le_of_ble_eq_true rfl) dX4_pack_284 (ws' := [oR mq th (↑n) mp (↑org) ent 1 gp (↑(rd + 1)) m1 m2 m3 m4 m5 m6 m7 m8 pl st sp po m9, aI cI mp 160 pb, aI cI m1 400 (upZ row rd 0), aI cI m2 161 C, aI cI m3 161 T, aI cI m4 161 D, aI cI m5 161 lk]) rfl (fun H locs hp => ?_)
                        exact hret _ _ _ _ _ _ (1, ↑(rd + 1), gp, upZ row rd 0, C, T, D, lk) (⟨⟨show (1 : Int) ≠ 0 by omega, show rg 1 by omega⟩, ⟨C, Mz T, Dz T D, strm, hP, show ((rd + 1 : Nat) : Int) = C 0 by omega, by rw [← hR0, ← hR], fun j _ => by rw [← hR0, ← hR]⟩⟩) hp dX4_pack_287 (Nat.le_of_ble_eq_true rfl) (Nat.le_of_ble_eq_true rfl)
                      · skip
                        obtain ⟨f, rfl⟩ : ∃ f9, f = f9 + 1 := ⟨f - 1, by omega⟩
                        obtain ⟨r1, r2, r3, r4, r5, r6, r7⟩ := PSi_r (by omega) (hP.2 gr (by omega) (by omega))
                        have hcn := (PS_mo hP (a := gr) (b := n) (by omega) (by omega) (Nat.le_refl _)).2
                        have hcn1 := hP.1
                        have hcm := (PS_mo hP (a := gr + (Mz T gr).toNat) (b := n) (by omega) (by omega) (Nat.le_refl _)).2
                        have hMe : Mz T gr = if 127 < T gr then T gr - 126 else T gr := rfl
                        have hDe : Dz T D gr = if 127 < T gr then D gr else 0 := rfl
                        refine lv_aload_n hx hb dX4_pack_112 rfl (lv_at hl 2 rfl) ?_
                        refine z_get hx hb hts hi4 hown hp 0 rfl rfl 10 (by decide) f19 rfl dX4_pack_113 ?_
                        refine lv_iload_n hx hb dX4_pack_116 rfl (lv_at hl 0 rfl) ?_
                        refine z_iald hx hb hp 4 rfl (gr) (by omega) dX4_pack_117 (T gr) (rfl) ?_
                        refine lv_istore_n (lv' := [(3, .int (iZ (T gr))), (2, .int (iZ (↑gr))), (1, .int (iZ (C 0))), (0, .ref mq)]) hx hb dX4_pack_118 rfl hl (by decide) rfl (fun ls hl => ?_)
                        refine lv_aload_n hx hb dX4_pack_119 rfl (lv_at hl 3 rfl) ?_
                        refine z_get hx hb hts hi4 hown hp 0 rfl rfl 8 (by decide) f13 rfl dX4_pack_120 ?_
                        refine lv_aload_n hx hb dX4_pack_123 rfl (lv_at hl 3 rfl) ?_
                        refine z_get hx hb hts hi4 hown hp 0 rfl rfl 7 (by decide) f74 rfl dX4_pack_124 ?_
                        refine lv_iload_n hx hb dX4_pack_127 rfl (lv_at hl 0 rfl) ?_
                        refine z_iast hx hb hp 2 rfl (rd) (by omega) dX4_pack_128 (ws' := [oR mq th (↑n) mp (↑org) ent 1 gp (↑rd) m1 m2 m3 m4 m5 m6 m7 m8 pl st sp po m9, aI cI mp 160 pb, aI cI m1 400 (upZ row rd (T gr)), aI cI m2 161 C, aI cI m3 161 T, aI cI m4 161 D, aI cI m5 161 lk]) rfl (fun H locs hp => ?_)
                        refine lv_aload_n hx hb dX4_pack_129 rfl (lv_at hl 3 rfl) ?_
                        refine lv_dup hx hb dX4_pack_130 rfl ?_
                        refine z_get hx hb hts hi4 hown hp 0 rfl rfl 7 (by decide) f74 rfl dX4_pack_131 ?_
                        refine z_iconst hx hb dX4_pack_134 ?_
                        refine z_iadd hx hb (↑(rd + 1)) (by omega) dX4_pack_135 ?_
                        refine z_put hx hb hts hi4 tyX4 tyX4_ok nmX4 hown hp 0 rfl rfl 7 (by decide) f74 rfl (rfl) (rfl) (Nat.le_of_ble_eq_true rfl) dX4_pack_136 (ws' := [oR mq th (↑n) mp (↑org) ent 1 gp (↑(rd + 1)) m1 m2 m3 m4 m5 m6 m7 m8 pl st sp po m9, aI cI mp 160 pb, aI cI m1 400 (upZ row rd (T gr)), aI cI m2 161 C, aI cI m3 161 T, aI cI m4 161 D, aI cI m5 161 lk]) rfl (fun H locs hp => ?_)
                        refine lv_iload_n hx hb dX4_pack_139 rfl (lv_at hl 0 rfl) ?_
                        refine z_bipush hx hb dX4_pack_140 (by decide +kernel) ?_
                        refine z_icmp_le (tgt := 180) hx hb dX4_pack_142 (by decide) (by omega) (fun h10 => ?_) (fun h10 => ?_)
                        · skip
                          have hTM : T gr = Mz T gr := by rw [hMe, if_neg (by omega)]
                          have hDD : Dz T D gr = 0 := by rw [hDe, if_neg (by omega)]
                          have e6 := r6 (by omega)
                          have hcg := e6.2
                          clear r6 r7
                          refine z_iconst hx hb dX4_pack_180 ?_
                          refine lv_istore (lv' := [(4, .int (iZ (0))), (3, .int (iZ (T gr))), (2, .int (iZ (↑gr))), (1, .int (iZ (C 0))), (0, .ref mq)]) hx hb dX4_pack_181 hl (by decide) rfl (fun ls hl => ?_)
                          have hp := z_alike hp 2 rfl (cpZ pb (upZ row rd (T gr)) gr (rd + 1) 0) (fun j _ => by rw [cpZ_0]) (ws' := [oR mq th (↑n) mp (↑org) ent 1 gp (↑(rd + 1)) m1 m2 m3 m4 m5 m6 m7 m8 pl st sp po m9, aI cI mp 160 pb, aI cI m1 400 (cpZ pb (upZ row rd (T gr)) gr (rd + 1) 0), aI cI m2 161 C, aI cI m3 161 T, aI cI m4 161 D, aI cI m5 161 lk]) rfl
                          have hp : Hp G cI A s H locs [oR mq th (↑n) mp (↑org) ent 1 gp (↑(rd + 1 + 0)) m1 m2 m3 m4 m5 m6 m7 m8 pl st sp po m9, aI cI mp 160 pb, aI cI m1 400 (cpZ pb (upZ row rd (T gr)) gr (rd + 1) 0), aI cI m2 161 C, aI cI m3 161 T, aI cI m4 161 D, aI cI m5 161 lk] := by
                            have e9 : (↑(rd + 1 + 0) : Int) = ↑(rd + 1) := rfl
                            rw [e9]; exact hp
                          have lp11 : ∀ (N_lp11 : Nat) (k : Nat) (H : Heap) (locs : List Loc) (ls : Array Slot), (k ≤ (T gr).toNat) → ((T gr).toNat - k) < N_lp11 → Hp G cI A s H locs [oR mq th (↑n) mp (↑org) ent 1 gp (↑(rd + 1 + k)) m1 m2 m3 m4 m5 m6 m7 m8 pl st sp po m9, aI cI mp 160 pb, aI cI m1 400 (cpZ pb (upZ row rd (T gr)) gr (rd + 1) k), aI cI m2 161 C, aI cI m3 161 T, aI cI m4 161 D, aI cI m5 161 lk] → lv_has ls 5 [(4, .int (iZ (↑k))), (3, .int (iZ (T gr))), (2, .int (iZ (↑gr))), (1, .int (iZ (C 0))), (0, .ref mq)] → W p l e rmX4_pack s m args below meth c H locs 0 0 Q (F0 m 183 ls []) := by
                            intro N_lp11
                            induction N_lp11 with
                            | zero => intros; exfalso; omega
                            | succ N_lp11 ih_lp11 =>
                              intro k H locs ls hk9 hN hp hl
                              refine lv_iload hx hb dX4_pack_183 (lv_at hl 0 rfl) ?_
                              refine lv_iload_n hx hb dX4_pack_185 rfl (lv_at hl 1 rfl) ?_
                              refine z_icmp_ge (tgt := 223) hx hb dX4_pack_186 (by decide) (by omega) (fun h12 => ?_) (fun h12 => ?_)
                              · skip
                                obtain rfl : k = (T gr).toNat := by omega
                                skip
                                refine lv_iload_n hx hb dX4_pack_223 rfl (lv_at hl 2 rfl) ?_
                                refine lv_iload_n hx hb dX4_pack_224 rfl (lv_at hl 1 rfl) ?_
                                refine z_iadd hx hb (↑(gr + (T gr).toNat)) (by omega) dX4_pack_225 ?_
                                refine lv_istore_n (lv' := [(2, .int (iZ (↑(gr + (T gr).toNat)))), (4, .int (iZ (↑(T gr).toNat))), (3, .int (iZ (T gr))), (1, .int (iZ (C 0))), (0, .ref mq)]) hx hb dX4_pack_226 rfl hl (by decide) rfl (fun ls hl => ?_)
                                refine lv_iload_n hx hb dX4_pack_227 rfl (lv_at hl 0 rfl) ?_
                                refine lv_aload_n hx hb dX4_pack_228 rfl (lv_at hl 4 rfl) ?_
                                refine z_get hx hb hts hi4 hown hp 0 rfl rfl 7 (by decide) f74 rfl dX4_pack_229 ?_
                                refine z_isub hx hb ((↑(gr + (T gr).toNat)) - (↑(rd + 1 + (T gr).toNat))) (rfl) dX4_pack_232 ?_
                                refine lv_iload_n hx hb dX4_pack_233 rfl (lv_at hl 3 rfl) ?_
                                refine z_iadd hx hb (((↑(gr + (T gr).toNat)) - (↑(rd + 1 + (T gr).toNat))) + (C 0)) (rfl) dX4_pack_234 ?_
                                refine lv_aload_n hx hb dX4_pack_235 rfl (lv_at hl 4 rfl) ?_
                                refine z_get hx hb hts hi4 hown hp 0 rfl rfl 1 (by decide) f47 rfl dX4_pack_236 ?_
                                refine z_isub hx hb ((((↑(gr + (T gr).toNat)) - (↑(rd + 1 + (T gr).toNat))) + (C 0)) - (↑n)) (rfl) dX4_pack_239 ?_
                                refine lv_istore (lv' := [(4, .int (iZ ((((↑(gr + (T gr).toNat)) - (↑(rd + 1 + (T gr).toNat))) + (C 0)) - (↑n)))), (2, .int (iZ (↑(gr + (T gr).toNat)))), (3, .int (iZ (T gr))), (1, .int (iZ (C 0))), (0, .ref mq)]) hx hb dX4_pack_240 hl (by decide) rfl (fun ls hl => ?_)
                                refine lv_aload_n hx hb dX4_pack_242 rfl (lv_at hl 4 rfl) ?_
                                refine lv_iload hx hb dX4_pack_243 (lv_at hl 0 rfl) ?_
                                refine lv_aload_n hx hb dX4_pack_245 rfl (lv_at hl 4 rfl) ?_
                                refine z_get hx hb hts hi4 hown hp 0 rfl rfl 6 (by decide) f71 rfl dX4_pack_246 ?_
                                refine z_icmp_le (tgt := 257) hx hb dX4_pack_249 (by decide) (by omega) (fun h13 => ?_) (fun h13 => ?_)
                                · skip
                                  refine lv_aload_n hx hb dX4_pack_257 rfl (lv_at hl 4 rfl) ?_
                                  refine z_get hx hb hts hi4 hown hp 0 rfl rfl 6 (by decide) f71 rfl dX4_pack_258 ?_
                                  refine z_top (max gp (↑gr + T gr - ↑n + C 0 - (↑rd + 1 + T gr))) (by omega) ?_
                                  refine z_put hx hb hts hi4 tyX4 tyX4_ok nmX4 hown hp 0 rfl rfl 6 (by decide) f71 rfl (rfl) (rfl) (Nat.le_of_ble_eq_true rfl) dX4_pack_261 (ws' := [oR mq th (↑n) mp (↑org) ent 1 (max gp (↑gr + T gr - ↑n + C 0 - (↑rd + 1 + T gr))) (↑(rd + 1 + (T gr).toNat)) m1 m2 m3 m4 m5 m6 m7 m8 pl st sp po m9, aI cI mp 160 pb, aI cI m1 400 (cpZ pb (upZ row rd (T gr)) gr (rd + 1) (T gr).toNat), aI cI m2 161 C, aI cI m3 161 T, aI cI m4 161 D, aI cI m5 161 lk]) rfl (fun H locs hp => ?_)
                                  refine lv_goto (tgt := 104) hx hb dX4_pack_264 (by decide) ?_
                                  exact ih_lp8 f (gr + (T gr).toNat) (rd + 1 + (T gr).toNat) (cpZ pb (upZ row rd (T gr)) gr (rd + 1) (T gr).toNat) _ _ _ _ (by omega) (by omega) (by rw [← hTM] at hcg; omega) (by omega) (by rw [wst_r (by omega) (by omega), ← hTM] at hR; exact hR) (by omega) hp (lv_sub hl [1, 3, 4] rfl)
                                · skip
                                  refine lv_iload hx hb dX4_pack_252 (lv_at hl 0 rfl) ?_
                                  refine lv_goto (tgt := 261) hx hb dX4_pack_254 (by decide) ?_
                                  refine z_top (max gp (↑gr + T gr - ↑n + C 0 - (↑rd + 1 + T gr))) (by omega) ?_
                                  refine z_put hx hb hts hi4 tyX4 tyX4_ok nmX4 hown hp 0 rfl rfl 6 (by decide) f71 rfl (rfl) (rfl) (Nat.le_of_ble_eq_true rfl) dX4_pack_261 (ws' := [oR mq th (↑n) mp (↑org) ent 1 (max gp (↑gr + T gr - ↑n + C 0 - (↑rd + 1 + T gr))) (↑(rd + 1 + (T gr).toNat)) m1 m2 m3 m4 m5 m6 m7 m8 pl st sp po m9, aI cI mp 160 pb, aI cI m1 400 (cpZ pb (upZ row rd (T gr)) gr (rd + 1) (T gr).toNat), aI cI m2 161 C, aI cI m3 161 T, aI cI m4 161 D, aI cI m5 161 lk]) rfl (fun H locs hp => ?_)
                                  refine lv_goto (tgt := 104) hx hb dX4_pack_264 (by decide) ?_
                                  exact ih_lp8 f (gr + (T gr).toNat) (rd + 1 + (T gr).toNat) (cpZ pb (upZ row rd (T gr)) gr (rd + 1) (T gr).toNat) _ _ _ _ (by omega) (by omega) (by rw [← hTM] at hcg; omega) (by omega) (by rw [wst_r (by omega) (by omega), ← hTM] at hR; exact hR) (by omega) hp (lv_sub hl [1, 3, 4] rfl)
                              · skip
                                refine lv_aload_n hx hb dX4_pack_189 rfl (lv_at hl 4 rfl) ?_
                                refine z_get hx hb hts hi4 hown hp 0 rfl rfl 8 (by decide) f13 rfl dX4_pack_190 ?_
                                refine lv_aload_n hx hb dX4_pack_193 rfl (lv_at hl 4 rfl) ?_
                                refine z_get hx hb hts hi4 hown hp 0 rfl rfl 7 (by decide) f74 rfl dX4_pack_194 ?_
                                refine lv_aload_n hx hb dX4_pack_197 rfl (lv_at hl 4 rfl) ?_
                                refine z_get hx hb hts hi4 hown hp 0 rfl rfl 2 (by decide) f7 rfl dX4_pack_198 ?_
                                refine lv_iload_n hx hb dX4_pack_201 rfl (lv_at hl 2 rfl) ?_
                                refine lv_iload hx hb dX4_pack_202 (lv_at hl 0 rfl) ?_
                                refine z_iadd hx hb (↑(gr + k)) (by omega) dX4_pack_204 ?_
                                refine z_iald hx hb hp 1 rfl (gr + k) (by omega) dX4_pack_205 (pb (gr + k)) (rfl) ?_
                                refine z_iast hx hb hp 2 rfl (rd + 1 + k) (by omega) dX4_pack_206 (ws' := [oR mq th (↑n) mp (↑org) ent 1 gp (↑(rd + 1 + k)) m1 m2 m3 m4 m5 m6 m7 m8 pl st sp po m9, aI cI mp 160 pb, aI cI m1 400 (upZ (cpZ pb (upZ row rd (T gr)) gr (rd + 1) k) (rd + 1 + k) (pb (gr + k))), aI cI m2 161 C, aI cI m3 161 T, aI cI m4 161 D, aI cI m5 161 lk]) rfl (fun H locs hp => ?_)
                                refine lv_aload_n hx hb dX4_pack_207 rfl (lv_at hl 4 rfl) ?_
                                refine lv_dup hx hb dX4_pack_208 rfl ?_
                                refine z_get hx hb hts hi4 hown hp 0 rfl rfl 7 (by decide) f74 rfl dX4_pack_209 ?_
                                refine z_iconst hx hb dX4_pack_212 ?_
                                refine z_iadd hx hb ((↑(rd + 1 + k)) + 1) (rfl) dX4_pack_213 ?_
                                refine z_put hx hb hts hi4 tyX4 tyX4_ok nmX4 hown hp 0 rfl rfl 7 (by decide) f74 rfl (rfl) (rfl) (Nat.le_of_ble_eq_true rfl) dX4_pack_214 (ws' := [oR mq th (↑n) mp (↑org) ent 1 gp ((↑(rd + 1 + k)) + 1) m1 m2 m3 m4 m5 m6 m7 m8 pl st sp po m9, aI cI mp 160 pb, aI cI m1 400 (upZ (cpZ pb (upZ row rd (T gr)) gr (rd + 1) k) (rd + 1 + k) (pb (gr + k))), aI cI m2 161 C, aI cI m3 161 T, aI cI m4 161 D, aI cI m5 161 lk]) rfl (fun H locs hp => ?_)
                                have hp := z_alike hp 2 rfl (cpZ pb (upZ row rd (T gr)) gr (rd + 1) (k + 1)) (fun j _ => cpZ_up pb (upZ row rd (T gr)) gr (rd + 1) k j) (ws' := [oR mq th (↑n) mp (↑org) ent 1 gp ((↑(rd + 1 + k)) + 1) m1 m2 m3 m4 m5 m6 m7 m8 pl st sp po m9, aI cI mp 160 pb, aI cI m1 400 (cpZ pb (upZ row rd (T gr)) gr (rd + 1) (k + 1)), aI cI m2 161 C, aI cI m3 161 T, aI cI m4 161 D, aI cI m5 161 lk]) rfl
                                refine z_iinc (k := 0) (lv' := [(4, .int (iZ (↑(k + 1)))), (3, .int (iZ (T gr))), (2, .int (iZ (↑gr))), (1, .int (iZ (C 0))), (0, .ref mq)]) hx hb (↑(k + 1)) (by omega) dX4_pack_217 hl rfl (by decide) rfl (fun ls hl => ?_)
                                refine lv_goto (tgt := 183) hx hb dX4_pack_220 (by decide) ?_
                                exact ih_lp11 (k + 1) _ _ _ (by omega) (by omega) hp (lv_sub hl [0, 1, 2, 3, 4] rfl)
                          exact lp11 _ 0 _ _ _ (by omega) (Nat.lt_succ_self _) hp (lv_sub hl [0, 1, 2, 3, 4] rfl)
                        · skip
                          have hTM : T gr = Mz T gr + 126 := by rw [hMe, if_pos (by omega)]; omega
                          have hDD : D gr = Dz T D gr := by rw [hDe, if_pos (by omega)]
                          have hD1 := hTD gr (by omega) (by omega) (by omega)
                          have e7 := r7 (by omega)
                          clear r6 r7
                          refine lv_aload_n hx hb dX4_pack_145 rfl (lv_at hl 3 rfl) ?_
                          refine z_get hx hb hts hi4 hown hp 0 rfl rfl 8 (by decide) f13 rfl dX4_pack_146 ?_
                          refine lv_aload_n hx hb dX4_pack_149 rfl (lv_at hl 3 rfl) ?_
                          refine z_get hx hb hts hi4 hown hp 0 rfl rfl 7 (by decide) f74 rfl dX4_pack_150 ?_
                          refine lv_aload_n hx hb dX4_pack_153 rfl (lv_at hl 3 rfl) ?_
                          refine z_get hx hb hts hi4 hown hp 0 rfl rfl 11 (by decide) f22 rfl dX4_pack_154 ?_
                          refine lv_iload_n hx hb dX4_pack_157 rfl (lv_at hl 1 rfl) ?_
                          refine z_iald hx hb hp 5 rfl (gr) (by omega) dX4_pack_158 (D gr) (rfl) ?_
                          refine z_iast hx hb hp 2 rfl (rd + 1) (by omega) dX4_pack_159 (ws' := [oR mq th (↑n) mp (↑org) ent 1 gp (↑(rd + 1)) m1 m2 m3 m4 m5 m6 m7 m8 pl st sp po m9, aI cI mp 160 pb, aI cI m1 400 (upZ (upZ row rd (T gr)) (rd + 1) (D gr)), aI cI m2 161 C, aI cI m3 161 T, aI cI m4 161 D, aI cI m5 161 lk]) rfl (fun H locs hp => ?_)
                          refine lv_aload_n hx hb dX4_pack_160 rfl (lv_at hl 3 rfl) ?_
                          refine lv_dup hx hb dX4_pack_161 rfl ?_
                          refine z_get hx hb hts hi4 hown hp 0 rfl rfl 7 (by decide) f74 rfl dX4_pack_162 ?_
                          refine z_iconst hx hb dX4_pack_165 ?_
                          refine z_iadd hx hb (↑(rd + 2)) (by omega) dX4_pack_166 ?_
                          refine z_put hx hb hts hi4 tyX4 tyX4_ok nmX4 hown hp 0 rfl rfl 7 (by decide) f74 rfl (rfl) (rfl) (Nat.le_of_ble_eq_true rfl) dX4_pack_167 (ws' := [oR mq th (↑n) mp (↑org) ent 1 gp (↑(rd + 2)) m1 m2 m3 m4 m5 m6 m7 m8 pl st sp po m9, aI cI mp 160 pb, aI cI m1 400 (upZ (upZ row rd (T gr)) (rd + 1) (D gr)), aI cI m2 161 C, aI cI m3 161 T, aI cI m4 161 D, aI cI m5 161 lk]) rfl (fun H locs hp => ?_)
                          refine lv_iload_n hx hb dX4_pack_170 rfl (lv_at hl 1 rfl) ?_
                          refine lv_iload_n hx hb dX4_pack_171 rfl (lv_at hl 0 rfl) ?_
                          refine z_iadd hx hb ((↑gr) + (T gr)) (rfl) dX4_pack_172 ?_
                          refine z_bipush hx hb dX4_pack_173 (by decide +kernel) ?_
                          refine z_isub hx hb (↑(gr + (Mz T gr).toNat)) (by omega) dX4_pack_175 ?_
                          refine lv_istore_n (lv' := [(2, .int (iZ (↑(gr + (Mz T gr).toNat)))), (3, .int (iZ (T gr))), (1, .int (iZ (C 0))), (0, .ref mq)]) hx hb dX4_pack_176 rfl hl (by decide) rfl (fun ls hl => ?_)
                          refine lv_goto (tgt := 227) hx hb dX4_pack_177 (by decide) ?_
                          refine lv_iload_n hx hb dX4_pack_227 rfl (lv_at hl 0 rfl) ?_
                          refine lv_aload_n hx hb dX4_pack_228 rfl (lv_at hl 3 rfl) ?_
                          refine z_get hx hb hts hi4 hown hp 0 rfl rfl 7 (by decide) f74 rfl dX4_pack_229 ?_
                          refine z_isub hx hb ((↑(gr + (Mz T gr).toNat)) - (↑(rd + 2))) (rfl) dX4_pack_232 ?_
                          refine lv_iload_n hx hb dX4_pack_233 rfl (lv_at hl 2 rfl) ?_
                          refine z_iadd hx hb (((↑(gr + (Mz T gr).toNat)) - (↑(rd + 2))) + (C 0)) (rfl) dX4_pack_234 ?_
                          refine lv_aload_n hx hb dX4_pack_235 rfl (lv_at hl 3 rfl) ?_
                          refine z_get hx hb hts hi4 hown hp 0 rfl rfl 1 (by decide) f47 rfl dX4_pack_236 ?_
                          refine z_isub hx hb ((((↑(gr + (Mz T gr).toNat)) - (↑(rd + 2))) + (C 0)) - (↑n)) (rfl) dX4_pack_239 ?_
                          refine lv_istore (lv' := [(4, .int (iZ ((((↑(gr + (Mz T gr).toNat)) - (↑(rd + 2))) + (C 0)) - (↑n)))), (2, .int (iZ (↑(gr + (Mz T gr).toNat)))), (3, .int (iZ (T gr))), (1, .int (iZ (C 0))), (0, .ref mq)]) hx hb dX4_pack_240 hl (by decide) rfl (fun ls hl => ?_)
                          refine lv_aload_n hx hb dX4_pack_242 rfl (lv_at hl 4 rfl) ?_
                          refine lv_iload hx hb dX4_pack_243 (lv_at hl 0 rfl) ?_
                          refine lv_aload_n hx hb dX4_pack_245 rfl (lv_at hl 4 rfl) ?_
                          refine z_get hx hb hts hi4 hown hp 0 rfl rfl 6 (by decide) f71 rfl dX4_pack_246 ?_
                          refine z_icmp_le (tgt := 257) hx hb dX4_pack_249 (by decide) (by omega) (fun h14 => ?_) (fun h14 => ?_)
                          · skip
                            refine lv_aload_n hx hb dX4_pack_257 rfl (lv_at hl 4 rfl) ?_
                            refine z_get hx hb hts hi4 hown hp 0 rfl rfl 6 (by decide) f71 rfl dX4_pack_258 ?_
                            refine z_top (max gp (↑gr + Mz T gr - ↑n + C 0 - (↑rd + 2))) (by omega) ?_
                            refine z_put hx hb hts hi4 tyX4 tyX4_ok nmX4 hown hp 0 rfl rfl 6 (by decide) f71 rfl (rfl) (rfl) (Nat.le_of_ble_eq_true rfl) dX4_pack_261 (ws' := [oR mq th (↑n) mp (↑org) ent 1 (max gp (↑gr + Mz T gr - ↑n + C 0 - (↑rd + 2))) (↑(rd + 2)) m1 m2 m3 m4 m5 m6 m7 m8 pl st sp po m9, aI cI mp 160 pb, aI cI m1 400 (upZ (upZ row rd (T gr)) (rd + 1) (D gr)), aI cI m2 161 C, aI cI m3 161 T, aI cI m4 161 D, aI cI m5 161 lk]) rfl (fun H locs hp => ?_)
                            refine lv_goto (tgt := 104) hx hb dX4_pack_264 (by decide) ?_
                            exact ih_lp8 f (gr + (Mz T gr).toNat) (rd + 2) (upZ (upZ row rd (T gr)) (rd + 1) (D gr)) _ _ _ _ (by omega) (by omega) (by omega) (by omega) (by rw [wst_c (by omega) (by omega), ← hTM, ← hDD] at hR; exact hR) (by omega) hp (lv_sub hl [1, 3, 4] rfl)
                          · skip
                            refine lv_iload hx hb dX4_pack_252 (lv_at hl 0 rfl) ?_
                            refine lv_goto (tgt := 261) hx hb dX4_pack_254 (by decide) ?_
                            refine z_top (max gp (↑gr + Mz T gr - ↑n + C 0 - (↑rd + 2))) (by omega) ?_
                            refine z_put hx hb hts hi4 tyX4 tyX4_ok nmX4 hown hp 0 rfl rfl 6 (by decide) f71 rfl (rfl) (rfl) (Nat.le_of_ble_eq_true rfl) dX4_pack_261 (ws' := [oR mq th (↑n) mp (↑org) ent 1 (max gp (↑gr + Mz T gr - ↑n + C 0 - (↑rd + 2))) (↑(rd + 2)) m1 m2 m3 m4 m5 m6 m7 m8 pl st sp po m9, aI cI mp 160 pb, aI cI m1 400 (upZ (upZ row rd (T gr)) (rd + 1) (D gr)), aI cI m2 161 C, aI cI m3 161 T, aI cI m4 161 D, aI cI m5 161 lk]) rfl (fun H locs hp => ?_)
                            refine lv_goto (tgt := 104) hx hb dX4_pack_264 (by decide) ?_
                            exact ih_lp8 f (gr + (Mz T gr).toNat) (rd + 2) (upZ (upZ row rd (T gr)) (rd + 1) (D gr)) _ _ _ _ (by omega) (by omega) (by omega) (by omega) (by rw [wst_c (by omega) (by omega), ← hTM, ← hDD] at hR; exact hR) (by omega) hp (lv_sub hl [1, 3, 4] rfl)
                  exact lp8 _ n 0 0 strm (max 0 (C 0 - ↑n)) _ _ _ (by omega) (by omega) (by omega) (by omega) (hR0.symm) (Nat.lt_succ_self _) hp (lv_sub hl [0, 1, 2] rfl)
                refine lv_iload_n hx hb dX4_pack_76 rfl (lv_at hl 0 rfl) ?_
                refine lv_aload_n hx hb dX4_pack_77 rfl (lv_at hl 1 rfl) ?_
                refine z_get hx hb hts hi4 hown hp 0 rfl rfl 1 (by decide) f47 rfl dX4_pack_78 ?_
                refine z_icmp_le (tgt := 93) hx hb dX4_pack_81 (by decide) (by omega) (fun h15 => ?_) (fun h15 => ?_)
                · skip
                  refine z_iconst hx hb dX4_pack_93 ?_
                  exact jn6 0 _ _ _ (by omega) hp (lv_sub hl [0, 1] rfl)
                · skip
                  refine lv_iload_n hx hb dX4_pack_84 rfl (lv_at hl 0 rfl) ?_
                  refine lv_aload_n hx hb dX4_pack_85 rfl (lv_at hl 1 rfl) ?_
                  refine z_get hx hb hts hi4 hown hp 0 rfl rfl 1 (by decide) f47 rfl dX4_pack_86 ?_
                  refine z_isub hx hb ((C 0) - (↑n)) (rfl) dX4_pack_89 ?_
                  refine lv_goto (tgt := 94) hx hb dX4_pack_90 (by decide) ?_
                  exact jn6 ((C 0) - (↑n)) _ _ _ (by omega) hp (lv_sub hl [0, 1] rfl)
              · skip
                obtain ⟨i, rfl⟩ : ∃ i, k = i + 1 := ⟨k - 1, by omega⟩
                have hcb : ∀ a b, i < a → a ≤ b → b ≤ n → 1 ≤ C b ∧ C b ≤ C a ∧ C a ≤ 400 := fun a b h1 h2 h3 => ⟨(PS_mo hP (a := a) (b := b) (by omega) h2 h3).1, (PS_mo hP (a := a) (b := b) (by omega) h2 h3).2, by have := PS_up hP (n - a) a (by omega) (by omega); omega⟩
                have hl : lv_has ls 5 [(1, .int (iZ (↑i))), (0, .ref mq)] := by
                  have e9 : ([(1, .int (iZ (↑(i + 1) - 1))), (0, .ref mq)] : List (Nat × Value)) = [(1, .int (iZ (↑i))), (0, .ref mq)] := by rw [show ((i + 1 : Nat) : Int) - 1 = ↑i by omega]
                  rw [← e9]; exact hl
                refine lv_aload_n hx hb dX4_pack_57 rfl (lv_at hl 1 rfl) ?_
                refine lv_iload_n hx hb dX4_pack_58 rfl (lv_at hl 0 rfl) ?_
                refine zc_v (wr := [aI cI m1 400 strm]) (W0 := [oR mq th (↑n) mp (↑org) ent 1 gp ln m1 m2 m3 m4 m5 m6 m7 m8 pl st sp po m9, aI cI mp 160 pb, aI cI m2 161 C, aI cI m3 161 T, aI cI m4 161 D, aI cI m5 161 lk]) (wl2 := fun (u : Int × Int × Int × (Nat → Int)) => [oR mq th (↑n) mp (↑org) ent 1 gp ln m1 m2 m3 m4 m5 m6 m7 m8 pl st sp po m9, aI cI mp 160 pb, aI cI m1 400 strm, aI cI m2 161 (upZ C i u.1), aI cI m3 161 (upZ T i u.2.1), aI cI m4 161 (upZ D i u.2.2.1), aI cI m5 161 u.2.2.2]) (As := [.int (iZ (↑i))]) (rest := []) hx hb hml hown hts hp (c_X4_choose l G cI H.size mq mp m1 m2 m3 m4 m5 m6 m7 m8 m9 n org th ent 1 gp ln pl st sp po pb C T D lk i (by omega) (by omega) (h_b) (hL) (hcb)) zPre_blind (z_pre hp [0, 1, 3, 4, 5, 6] rfl (by decide) [.ref mq, .int (iZ (↑i))]) (cwV 1 hts gX4_pack_X4_choose rfl rfl rfl (by decide +kernel) ⟨Nat.le_of_ble_eq_true rfl, Nat.le_of_ble_eq_true rfl⟩) [0, 1, 3, 4, 5, 6] [2] [1, 2, 0, 3, 4, 5, 6] rfl rfl ⟨by decide, by decide, by decide⟩ (fun _ => rfl) 0 4 rfl rfl rfl rfl hl.1 rfl (Nat.le_of_ble_eq_true rfl) dX4_pack_59 ⟨Nat.le_of_ble_eq_true rfl, Nat.le_of_ble_eq_true rfl⟩ (fun u5 H locs hq16 hp => ?_)
                have hq5 := hq16
                refine z_iinc (k := 0) (lv' := [(1, .int (iZ (↑i - 1))), (0, .ref mq)]) hx hb (↑i - 1) (by omega) dX4_pack_62 hl rfl (by decide) rfl (fun ls hl => ?_)
                refine lv_goto (tgt := 53) hx hb dX4_pack_65 (by decide) ?_
                exact ih_lp4 i (upZ C i u5.1) (upZ T i u5.2.1) (upZ D i u5.2.2.1) u5.2.2.2 _ _ _ (by omega) (by rw [Mz_up, Dz_up]; exact PS_add hP (by omega) hq5.1) (fun d h1 h2 => hq5.2.2 d h1 h2) (fun j h1 h2 h3 => by by_cases q : j = i; (subst q; rw [upZ_s] at h3 ⊢; exact hq5.2.1 h3); (rw [upZ_n _ _ q] at h3 ⊢; exact hTD j (by omega) h2 h3)) (by omega) hp (lv_sub hl [0, 1] rfl)
          exact lp4 _ n (upZ cst n 1) tok dst f _ _ _ (by omega) (⟨upZ_s _ _ _, fun j h1 h2 => by omega⟩) (fun d h1 h2 => by rw [al_n]; exact hf d (by omega)) (fun j h1 h2 => by omega) (Nat.lt_succ_self _) hp (lv_sub hl [0, 1] rfl)
        · skip
          refine lv_aload_n hx hb dX4_pack_33 rfl (lv_at hl 1 rfl) ?_
          refine z_get hx hb hts hi4 hown hp 0 rfl rfl 12 (by decide) f25 rfl dX4_pack_34 ?_
          refine lv_iload_n hx hb dX4_pack_37 rfl (lv_at hl 0 rfl) ?_
          refine z_iconst hx hb dX4_pack_38 ?_
          refine z_iast hx hb hp 6 rfl (i) (by omega) dX4_pack_39 (ws' := [oR mq th (↑n) mp (↑org) ent 1 gp ln m1 m2 m3 m4 m5 m6 m7 m8 pl st sp po m9, aI cI mp 160 pb, aI cI m1 400 strm, aI cI m2 161 (upZ cst n 1), aI cI m3 161 tok, aI cI m4 161 dst, aI cI m5 161 (upZ f i 0)]) rfl (fun H locs hp => ?_)
          refine z_iinc (k := 0) (lv' := [(1, .int (iZ (↑(i + 1)))), (0, .ref mq)]) hx hb (↑(i + 1)) (by omega) dX4_pack_40 hl rfl (by decide) rfl (fun ls hl => ?_)
          refine lv_goto (tgt := 25) hx hb dX4_pack_43 (by decide) ?_
          exact ih_lp2 (i + 1) (upZ f i 0) _ _ _ (by omega) (fun j hj => by unfold upZ; split; rfl; exact hf j (by omega)) (by omega) hp (lv_sub hl [0, 1] rfl)
    exact lp2 _ 0 rgt _ _ _ (by omega) (fun j hj => absurd hj (Nat.not_lt_zero j)) (Nat.lt_succ_self _) hp (lv_sub hl [0, 1] rfl)
  · skip
    exact hret _ _ _ _ _ _ (kn, ln, gp, strm, cst, tok, dst, rgt) (⟨⟨show kn ≠ 0 by omega, h_kn⟩, h_f (by omega)⟩) hp dX4_pack_7 (Nat.le_of_ble_eq_true rfl) (Nat.le_of_ble_eq_true rfl)
abbrev rmX4_packed : Room := { frames := 2, cells := 0, slots := 0, locals := 80 }
set_option maxRecDepth 100000 in
set_option maxHeartbeats 4000000 in
theorem c_X4_packed (l : Launch) (G : va_G) (cI : ClassId) (sz : Nat) (mq mp m1 m2 m3 m4 m5 m6 m7 m8 m9 : Nat) (n org : Nat) (th ent kn gp ln pl st sp po : Int) (pb strm cst tok dst rgt : Nat → Int) (h_n : n ≤ 160) (h_b : BB pb 160) (h_kn : rg kn) (h_f : kn ≠ 0 → Fresh pb n ln gp strm) : Met l yX4_packed wsX4_packed rmX4_packed (zPre G cI [oR mq th (↑n) mp (↑org) ent kn gp ln m1 m2 m3 m4 m5 m6 m7 m8 pl st sp po m9, aI cI mp 160 pb, aI cI m1 400 strm, aI cI m2 161 cst, aI cI m3 161 tok, aI cI m4 161 dst, aI cI m5 161 rgt] sz [.ref mq]) (va_Qi (fun (r : Int32) (u : Int × Int × Int × (Nat → Int) × (Nat → Int) × (Nat → Int) × (Nat → Int) × (Nat → Int)) => (u.1 ≠ 0 ∧ rg u.1) ∧ Fresh pb n u.2.1 u.2.2.1 u.2.2.2.1 ∧ r = iZ u.2.1) (fun (u : Int × Int × Int × (Nat → Int) × (Nat → Int) × (Nat → Int) × (Nat → Int) × (Nat → Int)) t => zB G cI (va_A [oR mq th (↑n) mp (↑org) ent kn gp ln m1 m2 m3 m4 m5 m6 m7 m8 pl st sp po m9, aI cI mp 160 pb, aI cI m1 400 strm, aI cI m2 161 cst, aI cI m3 161 tok, aI cI m4 161 dst, aI cI m5 161 rgt] sz) [oR mq 0 (↑n) mp (↑org) ent u.1 u.2.2.1 u.2.1 m1 m2 m3 m4 m5 m6 m7 m8 pl st sp po m9, aI cI mp 160 pb, aI cI m1 400 u.2.2.2.1, aI cI m2 161 u.2.2.2.2.1, aI cI m3 161 u.2.2.2.2.2.1, aI cI m4 161 u.2.2.2.2.2.2.1, aI cI m5 161 u.2.2.2.2.2.2.2] t) (va_A [oR mq th (↑n) mp (↑org) ent kn gp ln m1 m2 m3 m4 m5 m6 m7 m8 pl st sp po m9, aI cI mp 160 pb, aI cI m1 400 strm, aI cI m2 161 cst, aI cI m3 161 tok, aI cI m4 161 dst, aI cI m5 161 rgt] sz)) 0 0 (va_A [oR mq th (↑n) mp (↑org) ent kn gp ln m1 m2 m3 m4 m5 m6 m7 m8 pl st sp po m9, aI cI mp 160 pb, aI cI m1 400 strm, aI cI m2 161 cst, aI cI m3 161 tok, aI cI m4 161 dst, aI cI m5 161 rgt] sz) := by
  refine zm_i (W1 := fun (u : Int × Int × Int × (Nat → Int) × (Nat → Int) × (Nat → Int) × (Nat → Int) × (Nat → Int)) => [oR mq 0 (↑n) mp (↑org) ent u.1 u.2.2.1 u.2.1 m1 m2 m3 m4 m5 m6 m7 m8 pl st sp po m9, aI cI mp 160 pb, aI cI m1 400 u.2.2.2.1, aI cI m2 161 u.2.2.2.2.1, aI cI m3 161 u.2.2.2.2.2.1, aI cI m4 161 u.2.2.2.2.2.2.1, aI cI m5 161 u.2.2.2.2.2.2.2]) (cc := cX4_packed) (maxL := 1) (ty := .int) (by decide) rfl (Nat.le_of_ble_eq_true rfl) ?_
  intro p e s m args below meth c A Q ls hsz hx hb hml hown hts hret hp hl
  have hl : lv_has ls 1 [(0, .ref mq)] := hl
  have hi4 : ∀ w ∈ wsX40, w ∈ wsX4_packed := fun w h => List.mem_cons_of_mem _ (List.mem_append_right _ (h))
  have f44 := hts (.fieldLink RX4 44 "SelfOpenerModel" "thrown" "I") (List.mem_of_getElem? (i := 1) rfl)
  have f74 := hts (.fieldLink RX4 74 "SelfOpenerModel" "length" "I") (List.mem_of_getElem? (i := 2) rfl)
  suffices hw : ∀ (H : Heap) (locs : List Loc), Hp G cI A s H locs [oR mq th (↑n) mp (↑org) ent kn gp ln m1 m2 m3 m4 m5 m6 m7 m8 pl st sp po m9, aI cI mp 160 pb, aI cI m1 400 strm, aI cI m2 161 cst, aI cI m3 161 tok, aI cI m4 161 dst, aI cI m5 161 rgt] → W p l e rmX4_packed s m args below meth c H locs 0 0 Q (F0 m 0 ls []) from hw _ _ hp
  clear hp; intro H locs hp
  refine lv_aload_n hx hb dX4_packed_0 rfl (lv_at hl 0 rfl) ?_
  refine z_iconst hx hb dX4_packed_1 ?_
  refine z_put hx hb hts hi4 tyX4 tyX4_ok nmX4 hown hp 0 rfl rfl 0 (by decide) f44 rfl (rfl) (rfl) (Nat.le_of_ble_eq_true rfl) dX4_packed_2 (ws' := [oR mq 0 (↑n) mp (↑org) ent kn gp ln m1 m2 m3 m4 m5 m6 m7 m8 pl st sp po m9, aI cI mp 160 pb, aI cI m1 400 strm, aI cI m2 161 cst, aI cI m3 161 tok, aI cI m4 161 dst, aI cI m5 161 rgt]) rfl (fun H locs hp => ?_)
  refine lv_aload_n hx hb dX4_packed_5 rfl (lv_at hl 0 rfl) ?_
  refine zc_v (wr := []) (W0 := [oR mq 0 (↑n) mp (↑org) ent kn gp ln m1 m2 m3 m4 m5 m6 m7 m8 pl st sp po m9, aI cI mp 160 pb, aI cI m1 400 strm, aI cI m2 161 cst, aI cI m3 161 tok, aI cI m4 161 dst, aI cI m5 161 rgt]) (wl2 := fun (u : Int × Int × Int × (Nat → Int) × (Nat → Int) × (Nat → Int) × (Nat → Int) × (Nat → Int)) => [oR mq 0 (↑n) mp (↑org) ent u.1 u.2.2.1 u.2.1 m1 m2 m3 m4 m5 m6 m7 m8 pl st sp po m9, aI cI mp 160 pb, aI cI m1 400 u.2.2.2.1, aI cI m2 161 u.2.2.2.2.1, aI cI m3 161 u.2.2.2.2.2.1, aI cI m4 161 u.2.2.2.2.2.2.1, aI cI m5 161 u.2.2.2.2.2.2.2]) (As := []) (rest := []) hx hb hml hown hts hp (c_X4_pack l G cI H.size mq mp m1 m2 m3 m4 m5 m6 m7 m8 m9 n org 0 ent kn gp ln pl st sp po pb strm cst tok dst rgt (by omega) (h_b) (h_kn) (h_f)) zPre_blind (z_pre hp [0, 1, 2, 3, 4, 5, 6] rfl (by decide) [.ref mq]) (cwV 0 hts gX4_packed_X4_pack rfl rfl rfl (by decide +kernel) ⟨Nat.le_of_ble_eq_true rfl, Nat.le_of_ble_eq_true rfl⟩) [0, 1, 2, 3, 4, 5, 6] [] [0, 1, 2, 3, 4, 5, 6] rfl rfl ⟨by decide, by decide, by decide⟩ (fun _ => rfl) 0 4 rfl rfl rfl rfl hl.1 rfl (Nat.le_of_ble_eq_true rfl) dX4_packed_6 ⟨Nat.le_of_ble_eq_true rfl, Nat.le_of_ble_eq_true rfl⟩ (fun u4 H locs hq1 hp => ?_)
  have hpk : (u4.1 ≠ 0 ∧ rg u4.1) ∧ Fresh pb n u4.2.1 u4.2.2.1 u4.2.2.2.1 := hq1
  have hfb := Fresh_b h_n h_b hpk.2
  have hfb1 := hfb.1
  have hfb2 := hfb.2.1
  refine lv_aload_n hx hb dX4_packed_9 rfl (lv_at hl 0 rfl) ?_
  refine z_get hx hb hts hi4 hown hp 0 rfl rfl 7 (by decide) f74 rfl dX4_packed_10 ?_
  exact hret _ _ _ _ _ _ _ u4 (⟨hpk.1, hpk.2, rfl⟩) hp dX4_packed_13 (rfl) (Nat.le_of_ble_eq_true rfl) (Nat.le_of_ble_eq_true rfl)
abbrev rmX4_stream : Room := { frames := 2, cells := 0, slots := 0, locals := 80 }
set_option maxRecDepth 100000 in
set_option maxHeartbeats 4000000 in
theorem c_X4_stream (l : Launch) (G : va_G) (cI : ClassId) (sz : Nat) (mq mp m1 m2 m3 m4 m5 m6 m7 m8 m9 : Nat) (n org : Nat) (th ent kn gp ln pl st sp po : Int) (pb strm cst tok dst rgt : Nat → Int) (i : Int) (h_n : n ≤ 160) (h_b : BB pb 160) (h_kn : rg kn) (h_f : kn ≠ 0 → Fresh pb n ln gp strm) (h_i : rg i) : Met l yX4_stream wsX4_stream rmX4_stream (zPre G cI [oR mq th (↑n) mp (↑org) ent kn gp ln m1 m2 m3 m4 m5 m6 m7 m8 pl st sp po m9, aI cI mp 160 pb, aI cI m1 400 strm, aI cI m2 161 cst, aI cI m3 161 tok, aI cI m4 161 dst, aI cI m5 161 rgt] sz [.ref mq, .int (iZ (i))]) (va_Qi (fun (r : Int32) (u : Int × Int × Int × Int × (Nat → Int) × (Nat → Int) × (Nat → Int) × (Nat → Int) × (Nat → Int)) => u.1 = (if 0 ≤ i ∧ i < u.2.2.1 then 0 else 1) ∧ (u.2.1 ≠ 0 ∧ rg u.2.1) ∧ Fresh pb n u.2.2.1 u.2.2.2.1 u.2.2.2.2.1 ∧ (u.1 = 0 → r = iZ (u.2.2.2.2.1 i.toNat))) (fun (u : Int × Int × Int × Int × (Nat → Int) × (Nat → Int) × (Nat → Int) × (Nat → Int) × (Nat → Int)) t => zB G cI (va_A [oR mq th (↑n) mp (↑org) ent kn gp ln m1 m2 m3 m4 m5 m6 m7 m8 pl st sp po m9, aI cI mp 160 pb, aI cI m1 400 strm, aI cI m2 161 cst, aI cI m3 161 tok, aI cI m4 161 dst, aI cI m5 161 rgt] sz) [oR mq u.1 (↑n) mp (↑org) ent u.2.1 u.2.2.2.1 u.2.2.1 m1 m2 m3 m4 m5 m6 m7 m8 pl st sp po m9, aI cI mp 160 pb, aI cI m1 400 u.2.2.2.2.1, aI cI m2 161 u.2.2.2.2.2.1, aI cI m3 161 u.2.2.2.2.2.2.1, aI cI m4 161 u.2.2.2.2.2.2.2.1, aI cI m5 161 u.2.2.2.2.2.2.2.2] t) (va_A [oR mq th (↑n) mp (↑org) ent kn gp ln m1 m2 m3 m4 m5 m6 m7 m8 pl st sp po m9, aI cI mp 160 pb, aI cI m1 400 strm, aI cI m2 161 cst, aI cI m3 161 tok, aI cI m4 161 dst, aI cI m5 161 rgt] sz)) 0 0 (va_A [oR mq th (↑n) mp (↑org) ent kn gp ln m1 m2 m3 m4 m5 m6 m7 m8 pl st sp po m9, aI cI mp 160 pb, aI cI m1 400 strm, aI cI m2 161 cst, aI cI m3 161 tok, aI cI m4 161 dst, aI cI m5 161 rgt] sz) := by
  refine zm_i (W1 := fun (u : Int × Int × Int × Int × (Nat → Int) × (Nat → Int) × (Nat → Int) × (Nat → Int) × (Nat → Int)) => [oR mq u.1 (↑n) mp (↑org) ent u.2.1 u.2.2.2.1 u.2.2.1 m1 m2 m3 m4 m5 m6 m7 m8 pl st sp po m9, aI cI mp 160 pb, aI cI m1 400 u.2.2.2.2.1, aI cI m2 161 u.2.2.2.2.2.1, aI cI m3 161 u.2.2.2.2.2.2.1, aI cI m4 161 u.2.2.2.2.2.2.2.1, aI cI m5 161 u.2.2.2.2.2.2.2.2]) (cc := cX4_stream) (maxL := 2) (ty := .int) (by decide) rfl (Nat.le_of_ble_eq_true rfl) ?_
  intro p e s m args below meth c A Q ls hsz hx hb hml hown hts hret hp hl
  have hl : lv_has ls 2 [(0, .ref mq), (1, .int (iZ (i)))] := hl
  have hi4 : ∀ w ∈ wsX40, w ∈ wsX4_stream := fun w h => List.mem_cons_of_mem _ (List.mem_append_right _ (h))
  have f44 := hts (.fieldLink RX4 44 "SelfOpenerModel" "thrown" "I") (List.mem_of_getElem? (i := 2) rfl)
  have f13 := hts (.fieldLink RX4 13 "SelfOpenerModel" "stream" "[I") (List.mem_of_getElem? (i := 3) rfl)
  have f74 := hts (.fieldLink RX4 74 "SelfOpenerModel" "length" "I") (List.mem_of_getElem? (i := 1) rfl)
  suffices hw : ∀ (H : Heap) (locs : List Loc), Hp G cI A s H locs [oR mq th (↑n) mp (↑org) ent kn gp ln m1 m2 m3 m4 m5 m6 m7 m8 pl st sp po m9, aI cI mp 160 pb, aI cI m1 400 strm, aI cI m2 161 cst, aI cI m3 161 tok, aI cI m4 161 dst, aI cI m5 161 rgt] → W p l e rmX4_stream s m args below meth c H locs 0 0 Q (F0 m 0 ls []) from hw _ _ hp
  clear hp; intro H locs hp
  refine lv_aload_n hx hb dX4_stream_0 rfl (lv_at hl 0 rfl) ?_
  refine zc_v (wr := []) (W0 := [oR mq th (↑n) mp (↑org) ent kn gp ln m1 m2 m3 m4 m5 m6 m7 m8 pl st sp po m9, aI cI mp 160 pb, aI cI m1 400 strm, aI cI m2 161 cst, aI cI m3 161 tok, aI cI m4 161 dst, aI cI m5 161 rgt]) (wl2 := fun (u : Int × Int × Int × (Nat → Int) × (Nat → Int) × (Nat → Int) × (Nat → Int) × (Nat → Int)) => [oR mq th (↑n) mp (↑org) ent u.1 u.2.2.1 u.2.1 m1 m2 m3 m4 m5 m6 m7 m8 pl st sp po m9, aI cI mp 160 pb, aI cI m1 400 u.2.2.2.1, aI cI m2 161 u.2.2.2.2.1, aI cI m3 161 u.2.2.2.2.2.1, aI cI m4 161 u.2.2.2.2.2.2.1, aI cI m5 161 u.2.2.2.2.2.2.2]) (As := []) (rest := []) hx hb hml hown hts hp (c_X4_pack l G cI H.size mq mp m1 m2 m3 m4 m5 m6 m7 m8 m9 n org th ent kn gp ln pl st sp po pb strm cst tok dst rgt (by omega) (h_b) (h_kn) (h_f)) zPre_blind (z_pre hp [0, 1, 2, 3, 4, 5, 6] rfl (by decide) [.ref mq]) (cwV 0 hts gX4_stream_X4_pack rfl rfl rfl (by decide +kernel) ⟨Nat.le_of_ble_eq_true rfl, Nat.le_of_ble_eq_true rfl⟩) [0, 1, 2, 3, 4, 5, 6] [] [0, 1, 2, 3, 4, 5, 6] rfl rfl ⟨by decide, by decide, by decide⟩ (fun _ => rfl) 0 4 rfl rfl rfl rfl hl.1 rfl (Nat.le_of_ble_eq_true rfl) dX4_stream_1 ⟨Nat.le_of_ble_eq_true rfl, Nat.le_of_ble_eq_true rfl⟩ (fun u4 H locs hq1 hp => ?_)
  have hpk : (u4.1 ≠ 0 ∧ rg u4.1) ∧ Fresh pb n u4.2.1 u4.2.2.1 u4.2.2.2.1 := hq1
  have hfb := Fresh_b h_n h_b hpk.2
  have hfb1 := hfb.1
  have hfb2 := hfb.2.1
  refine lv_aload_n hx hb dX4_stream_4 rfl (lv_at hl 0 rfl) ?_
  have jn2 : ∀ (t : Int) (H : Heap) (locs : List Loc) (ls : Array Slot), (t = if 0 ≤ i ∧ i < u4.2.1 then 0 else 1) → Hp G cI A s H locs [oR mq th (↑n) mp (↑org) ent u4.1 u4.2.2.1 u4.2.1 m1 m2 m3 m4 m5 m6 m7 m8 pl st sp po m9, aI cI mp 160 pb, aI cI m1 400 u4.2.2.2.1, aI cI m2 161 u4.2.2.2.2.1, aI cI m3 161 u4.2.2.2.2.2.1, aI cI m4 161 u4.2.2.2.2.2.2.1, aI cI m5 161 u4.2.2.2.2.2.2.2] → lv_has ls 2 [(0, .ref mq), (1, .int (iZ (i)))] → W p l e rmX4_stream s m args below meth c H locs 0 0 Q (F0 m 22 ls [.int (iZ (t)), .ref mq]) := by
    intro t H locs ls ht hp hl
    have htb : 0 ≤ t ∧ t ≤ 4 := by rw [ht]; (repeat' split) <;> omega
    refine z_put hx hb hts hi4 tyX4 tyX4_ok nmX4 hown hp 0 rfl rfl 0 (by decide) f44 rfl (rfl) (rfl) (Nat.le_of_ble_eq_true rfl) dX4_stream_22 (ws' := [oR mq t (↑n) mp (↑org) ent u4.1 u4.2.2.1 u4.2.1 m1 m2 m3 m4 m5 m6 m7 m8 pl st sp po m9, aI cI mp 160 pb, aI cI m1 400 u4.2.2.2.1, aI cI m2 161 u4.2.2.2.2.1, aI cI m3 161 u4.2.2.2.2.2.1, aI cI m4 161 u4.2.2.2.2.2.2.1, aI cI m5 161 u4.2.2.2.2.2.2.2]) rfl (fun H locs hp => ?_)
    refine lv_aload_n hx hb dX4_stream_25 rfl (lv_at hl 0 rfl) ?_
    refine z_get hx hb hts hi4 hown hp 0 rfl rfl 0 (by decide) f44 rfl dX4_stream_26 ?_
    refine z_if_le (tgt := 36) hx hb dX4_stream_29 (by decide) (by omega) (fun h4 => ?_) (fun h4 => ?_)
    · skip
      have hti : 0 ≤ i ∧ i < u4.2.1 := by revert ht; split <;> omega
      refine lv_aload_n hx hb dX4_stream_36 rfl (lv_at hl 0 rfl) ?_
      refine z_get hx hb hts hi4 hown hp 0 rfl rfl 8 (by decide) f13 rfl dX4_stream_37 ?_
      refine lv_iload_n hx hb dX4_stream_40 rfl (lv_at hl 1 rfl) ?_
      refine z_iald hx hb hp 2 rfl (i.toNat) (by omega) dX4_stream_41 (u4.2.2.2.1 i.toNat) (rfl) ?_
      exact hret _ _ _ _ _ _ _ (t, u4) (⟨ht, hpk.1, hpk.2, fun _ => rfl⟩) hp dX4_stream_42 (rfl) (Nat.le_of_ble_eq_true rfl) (Nat.le_of_ble_eq_true rfl)
    · skip
      refine z_iconst hx hb dX4_stream_32 ?_
      refine lv_goto (tgt := 42) hx hb dX4_stream_33 (by decide) ?_
      exact hret _ _ _ _ _ _ _ (t, u4) (⟨ht, hpk.1, hpk.2, fun q => by dsimp only at q; omega⟩) hp dX4_stream_42 (rfl) (Nat.le_of_ble_eq_true rfl) (Nat.le_of_ble_eq_true rfl)
  refine lv_iload_n hx hb dX4_stream_5 rfl (lv_at hl 1 rfl) ?_
  refine z_if_lt (tgt := 17) hx hb dX4_stream_6 (by decide) (by omega) (fun h5 => ?_) (fun h5 => ?_)
  · skip
    refine z_iconst hx hb dX4_stream_17 ?_
    refine lv_goto (tgt := 22) hx hb dX4_stream_18 (by decide) ?_
    exact jn2 1 _ _ _ (by (repeat' split) <;> omega) hp (lv_sub hl [0, 1] rfl)
  · skip
    refine lv_iload_n hx hb dX4_stream_9 rfl (lv_at hl 1 rfl) ?_
    refine lv_aload_n hx hb dX4_stream_10 rfl (lv_at hl 0 rfl) ?_
    refine z_get hx hb hts hi4 hown hp 0 rfl rfl 7 (by decide) f74 rfl dX4_stream_11 ?_
    refine z_icmp_lt (tgt := 21) hx hb dX4_stream_14 (by decide) (by omega) (fun h6 => ?_) (fun h6 => ?_)
    · skip
      refine z_iconst hx hb dX4_stream_21 ?_
      exact jn2 0 _ _ _ (by (repeat' split) <;> omega) hp (lv_sub hl [0, 1] rfl)
    · skip
      refine z_iconst hx hb dX4_stream_17 ?_
      refine lv_goto (tgt := 22) hx hb dX4_stream_18 (by decide) ?_
      exact jn2 1 _ _ _ (by (repeat' split) <;> omega) hp (lv_sub hl [0, 1] rfl)
abbrev rmX4_gap : Room := { frames := 2, cells := 0, slots := 0, locals := 80 }
set_option maxRecDepth 100000 in
set_option maxHeartbeats 4000000 in
theorem c_X4_gap (l : Launch) (G : va_G) (cI : ClassId) (sz : Nat) (mq mp m1 m2 m3 m4 m5 m6 m7 m8 m9 : Nat) (n org : Nat) (th ent kn gp ln pl st sp po : Int) (pb strm cst tok dst rgt : Nat → Int) (h_n : n ≤ 160) (h_b : BB pb 160) (h_kn : rg kn) (h_f : kn ≠ 0 → Fresh pb n ln gp strm) : Met l yX4_gap wsX4_gap rmX4_gap (zPre G cI [oR mq th (↑n) mp (↑org) ent kn gp ln m1 m2 m3 m4 m5 m6 m7 m8 pl st sp po m9, aI cI mp 160 pb, aI cI m1 400 strm, aI cI m2 161 cst, aI cI m3 161 tok, aI cI m4 161 dst, aI cI m5 161 rgt] sz [.ref mq]) (va_Qi (fun (r : Int32) (u : Int × Int × Int × (Nat → Int) × (Nat → Int) × (Nat → Int) × (Nat → Int) × (Nat → Int)) => (u.1 ≠ 0 ∧ rg u.1) ∧ Fresh pb n u.2.1 u.2.2.1 u.2.2.2.1 ∧ r = iZ u.2.2.1) (fun (u : Int × Int × Int × (Nat → Int) × (Nat → Int) × (Nat → Int) × (Nat → Int) × (Nat → Int)) t => zB G cI (va_A [oR mq th (↑n) mp (↑org) ent kn gp ln m1 m2 m3 m4 m5 m6 m7 m8 pl st sp po m9, aI cI mp 160 pb, aI cI m1 400 strm, aI cI m2 161 cst, aI cI m3 161 tok, aI cI m4 161 dst, aI cI m5 161 rgt] sz) [oR mq 0 (↑n) mp (↑org) ent u.1 u.2.2.1 u.2.1 m1 m2 m3 m4 m5 m6 m7 m8 pl st sp po m9, aI cI mp 160 pb, aI cI m1 400 u.2.2.2.1, aI cI m2 161 u.2.2.2.2.1, aI cI m3 161 u.2.2.2.2.2.1, aI cI m4 161 u.2.2.2.2.2.2.1, aI cI m5 161 u.2.2.2.2.2.2.2] t) (va_A [oR mq th (↑n) mp (↑org) ent kn gp ln m1 m2 m3 m4 m5 m6 m7 m8 pl st sp po m9, aI cI mp 160 pb, aI cI m1 400 strm, aI cI m2 161 cst, aI cI m3 161 tok, aI cI m4 161 dst, aI cI m5 161 rgt] sz)) 0 0 (va_A [oR mq th (↑n) mp (↑org) ent kn gp ln m1 m2 m3 m4 m5 m6 m7 m8 pl st sp po m9, aI cI mp 160 pb, aI cI m1 400 strm, aI cI m2 161 cst, aI cI m3 161 tok, aI cI m4 161 dst, aI cI m5 161 rgt] sz) := by
  refine zm_i (W1 := fun (u : Int × Int × Int × (Nat → Int) × (Nat → Int) × (Nat → Int) × (Nat → Int) × (Nat → Int)) => [oR mq 0 (↑n) mp (↑org) ent u.1 u.2.2.1 u.2.1 m1 m2 m3 m4 m5 m6 m7 m8 pl st sp po m9, aI cI mp 160 pb, aI cI m1 400 u.2.2.2.1, aI cI m2 161 u.2.2.2.2.1, aI cI m3 161 u.2.2.2.2.2.1, aI cI m4 161 u.2.2.2.2.2.2.1, aI cI m5 161 u.2.2.2.2.2.2.2]) (cc := cX4_gap) (maxL := 1) (ty := .int) (by decide) rfl (Nat.le_of_ble_eq_true rfl) ?_
  intro p e s m args below meth c A Q ls hsz hx hb hml hown hts hret hp hl
  have hl : lv_has ls 1 [(0, .ref mq)] := hl
  have hi4 : ∀ w ∈ wsX40, w ∈ wsX4_gap := fun w h => List.mem_cons_of_mem _ (List.mem_append_right _ (h))
  have f44 := hts (.fieldLink RX4 44 "SelfOpenerModel" "thrown" "I") (List.mem_of_getElem? (i := 1) rfl)
  have f71 := hts (.fieldLink RX4 71 "SelfOpenerModel" "gap" "I") (List.mem_of_getElem? (i := 2) rfl)
  suffices hw : ∀ (H : Heap) (locs : List Loc), Hp G cI A s H locs [oR mq th (↑n) mp (↑org) ent kn gp ln m1 m2 m3 m4 m5 m6 m7 m8 pl st sp po m9, aI cI mp 160 pb, aI cI m1 400 strm, aI cI m2 161 cst, aI cI m3 161 tok, aI cI m4 161 dst, aI cI m5 161 rgt] → W p l e rmX4_gap s m args below meth c H locs 0 0 Q (F0 m 0 ls []) from hw _ _ hp
  clear hp; intro H locs hp
  refine lv_aload_n hx hb dX4_gap_0 rfl (lv_at hl 0 rfl) ?_
  refine z_iconst hx hb dX4_gap_1 ?_
  refine z_put hx hb hts hi4 tyX4 tyX4_ok nmX4 hown hp 0 rfl rfl 0 (by decide) f44 rfl (rfl) (rfl) (Nat.le_of_ble_eq_true rfl) dX4_gap_2 (ws' := [oR mq 0 (↑n) mp (↑org) ent kn gp ln m1 m2 m3 m4 m5 m6 m7 m8 pl st sp po m9, aI cI mp 160 pb, aI cI m1 400 strm, aI cI m2 161 cst, aI cI m3 161 tok, aI cI m4 161 dst, aI cI m5 161 rgt]) rfl (fun H locs hp => ?_)
  refine lv_aload_n hx hb dX4_gap_5 rfl (lv_at hl 0 rfl) ?_
  refine zc_v (wr := []) (W0 := [oR mq 0 (↑n) mp (↑org) ent kn gp ln m1 m2 m3 m4 m5 m6 m7 m8 pl st sp po m9, aI cI mp 160 pb, aI cI m1 400 strm, aI cI m2 161 cst, aI cI m3 161 tok, aI cI m4 161 dst, aI cI m5 161 rgt]) (wl2 := fun (u : Int × Int × Int × (Nat → Int) × (Nat → Int) × (Nat → Int) × (Nat → Int) × (Nat → Int)) => [oR mq 0 (↑n) mp (↑org) ent u.1 u.2.2.1 u.2.1 m1 m2 m3 m4 m5 m6 m7 m8 pl st sp po m9, aI cI mp 160 pb, aI cI m1 400 u.2.2.2.1, aI cI m2 161 u.2.2.2.2.1, aI cI m3 161 u.2.2.2.2.2.1, aI cI m4 161 u.2.2.2.2.2.2.1, aI cI m5 161 u.2.2.2.2.2.2.2]) (As := []) (rest := []) hx hb hml hown hts hp (c_X4_pack l G cI H.size mq mp m1 m2 m3 m4 m5 m6 m7 m8 m9 n org 0 ent kn gp ln pl st sp po pb strm cst tok dst rgt (by omega) (h_b) (h_kn) (h_f)) zPre_blind (z_pre hp [0, 1, 2, 3, 4, 5, 6] rfl (by decide) [.ref mq]) (cwV 0 hts gX4_gap_X4_pack rfl rfl rfl (by decide +kernel) ⟨Nat.le_of_ble_eq_true rfl, Nat.le_of_ble_eq_true rfl⟩) [0, 1, 2, 3, 4, 5, 6] [] [0, 1, 2, 3, 4, 5, 6] rfl rfl ⟨by decide, by decide, by decide⟩ (fun _ => rfl) 0 4 rfl rfl rfl rfl hl.1 rfl (Nat.le_of_ble_eq_true rfl) dX4_gap_6 ⟨Nat.le_of_ble_eq_true rfl, Nat.le_of_ble_eq_true rfl⟩ (fun u4 H locs hq1 hp => ?_)
  have hpk : (u4.1 ≠ 0 ∧ rg u4.1) ∧ Fresh pb n u4.2.1 u4.2.2.1 u4.2.2.2.1 := hq1
  have hfb := Fresh_b h_n h_b hpk.2
  have hfb1 := hfb.1
  have hfb2 := hfb.2.1
  refine lv_aload_n hx hb dX4_gap_9 rfl (lv_at hl 0 rfl) ?_
  refine z_get hx hb hts hi4 hown hp 0 rfl rfl 6 (by decide) f71 rfl dX4_gap_10 ?_
  exact hret _ _ _ _ _ _ _ u4 (⟨hpk.1, hpk.2, rfl⟩) hp dX4_gap_13 (rfl) (Nat.le_of_ble_eq_true rfl) (Nat.le_of_ble_eq_true rfl)
