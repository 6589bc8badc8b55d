abbrev rmX4_choose : Room := { frames := 0, cells := 0, slots := 0, locals := 0 }
set_option maxRecDepth 100000 in
set_option maxHeartbeats 4000000 in
theorem c_X4_choose (l : Launch) (G : va_G) (cI : ClassId) (sz : Nat) (mq mp m1 m2 m3 m4 m5 m6 m7 m8 m9 : Nat) (n org : Nat) (th ent kn gp ln pl st sp po : Int) (pb cst tok dst rgt : Nat → Int) (i : Nat) (h_n : n ≤ 160) (h_i : i < n) (h_b : BB pb 160) (h_r : ∀ d, 1 ≤ d → d ≤ n → rgt d = ↑(al pb n (i + 1) d)) (h_c : ∀ a b, i < a → a ≤ b → b ≤ n → 1 ≤ cst b ∧ cst b ≤ cst a ∧ cst a ≤ 400) : Met l yX4_choose wsX4_choose rmX4_choose (zPre G cI [oR mq th (↑n) mp (↑org) ent kn gp ln m1 m2 m3 m4 m5 m6 m7 m8 pl st sp po m9, aI cI mp 160 pb, aI cI m2 161 cst, aI cI m3 161 tok, aI cI m4 161 dst, aI cI m5 161 rgt] sz [.ref mq, .int (iZ (↑i))]) (va_Qv (fun (u : Int × Int × Int × (Nat → Int)) => PSi pb n cst i (if 127 < u.2.1 then u.2.1 - 126 else u.2.1) (if 127 < u.2.1 then u.2.2.1 else 0) u.1 ∧ (127 < u.2.1 → 1 ≤ u.2.2.1) ∧ ∀ d, 1 ≤ d → d ≤ n → u.2.2.2 d = ↑(al pb n i d)) (fun (u : Int × Int × Int × (Nat → Int)) t => zB G cI (va_A [oR mq th (↑n) mp (↑org) ent kn gp ln m1 m2 m3 m4 m5 m6 m7 m8 pl st sp po m9, aI cI mp 160 pb, aI cI m2 161 cst, aI cI m3 161 tok, aI cI m4 161 dst, aI cI m5 161 rgt] sz) [oR mq th (↑n) mp (↑org) ent kn gp ln m1 m2 m3 m4 m5 m6 m7 m8 pl st sp po m9, aI cI mp 160 pb, aI cI m2 161 (upZ cst i u.1), aI cI m3 161 (upZ tok i u.2.1), aI cI m4 161 (upZ dst i u.2.2.1), aI cI m5 161 u.2.2.2] t) (va_A [oR mq th (↑n) mp (↑org) ent kn gp ln m1 m2 m3 m4 m5 m6 m7 m8 pl st sp po m9, aI cI mp 160 pb, aI cI m2 161 cst, aI cI m3 161 tok, aI cI m4 161 dst, aI cI m5 161 rgt] sz)) 0 0 (va_A [oR mq th (↑n) mp (↑org) ent kn gp ln m1 m2 m3 m4 m5 m6 m7 m8 pl st sp po m9, aI cI mp 160 pb, aI cI m2 161 cst, aI cI m3 161 tok, aI cI m4 161 dst, aI cI m5 161 rgt] sz) := by
  refine zm_v (W1 := fun (u : Int × Int × Int × (Nat → Int)) => [oR mq th (↑n) mp (↑org) ent kn gp ln m1 m2 m3 m4 m5 m6 m7 m8 pl st sp po m9, aI cI mp 160 pb, aI cI m2 161 (upZ cst i u.1), aI cI m3 161 (upZ tok i u.2.1), aI cI m4 161 (upZ dst i u.2.2.1), aI cI m5 161 u.2.2.2]) (cc := cX4_choose) (maxL := 6) (by decide) rfl (Nat.le_of_ble_eq_true rfl) ?_
  intro p e s m args below meth c A Q ls hsz hx hb hml hown hts hnm hret hp hl
  have hl : lv_has ls 6 [(0, .ref mq), (1, .int (iZ (↑i)))] := hl
  have hi4 : ∀ w ∈ wsX40, w ∈ wsX4_choose := fun w h => List.mem_cons_of_mem _ (List.mem_append_right _ (h))
  have f47 := hts (.fieldLink RX4 47 "SelfOpenerModel" "size" "I") (List.mem_of_getElem? (i := 1) rfl)
  have k66 := hts (.constant RX4 66 100000) (List.mem_of_getElem? (i := 4) rfl)
  have f16 := hts (.fieldLink RX4 16 "SelfOpenerModel" "least" "[I") (List.mem_of_getElem? (i := 5) rfl)
  have f19 := hts (.fieldLink RX4 19 "SelfOpenerModel" "token" "[I") (List.mem_of_getElem? (i := 6) rfl)
  have f25 := hts (.fieldLink RX4 25 "SelfOpenerModel" "right" "[I") (List.mem_of_getElem? (i := 2) rfl)
  have f22 := hts (.fieldLink RX4 22 "SelfOpenerModel" "distance" "[I") (List.mem_of_getElem? (i := 7) rfl)
  have f7 := hts (.fieldLink RX4 7 "SelfOpenerModel" "program" "[I") (List.mem_of_getElem? (i := 3) rfl)
  suffices hw : ∀ (H : Heap) (locs : List Loc), Hp G cI A s H locs [oR mq th (↑n) mp (↑org) ent kn gp ln m1 m2 m3 m4 m5 m6 m7 m8 pl st sp po m9, aI cI mp 160 pb, aI cI m2 161 cst, aI cI m3 161 tok, aI cI m4 161 dst, aI cI m5 161 rgt] → W p l e rmX4_choose s m args below meth c H locs 0 0 Q (F0 m 0 ls []) from hw _ _ hp
  clear hp; intro H locs hp
  refine z_iconst hx hb dX4_choose_0 ?_
  refine lv_istore_n (lv' := [(2, .int (iZ (0))), (0, .ref mq), (1, .int (iZ (↑i)))]) hx hb dX4_choose_1 rfl hl (by decide) rfl (fun ls hl => ?_)
  refine z_iconst hx hb dX4_choose_2 ?_
  refine lv_istore_n (lv' := [(3, .int (iZ (1))), (2, .int (iZ (0))), (0, .ref mq), (1, .int (iZ (↑i)))]) hx hb dX4_choose_3 rfl hl (by decide) rfl (fun ls hl => ?_)
  have lp1 : ∀ (N_lp1 : Nat) (d fa : Nat) (lk : Nat → Int) (H : Heap) (locs : List Loc) (ls : Array Slot), (1 ≤ d) → (d ≤ n + 1) → (FAp pb n i d fa) → (∀ e, 1 ≤ e → e < d → lk e = ↑(al pb n i e)) → (∀ e, d ≤ e → e ≤ n → lk e = ↑(al pb n (i + 1) e)) → (n + 1 - d) < N_lp1 → Hp G cI A s H locs [oR mq th (↑n) mp (↑org) ent kn gp ln m1 m2 m3 m4 m5 m6 m7 m8 pl st sp po m9, aI cI mp 160 pb, aI cI m2 161 cst, aI cI m3 161 tok, aI cI m4 161 dst, aI cI m5 161 lk] → lv_has ls 6 [(3, .int (iZ (↑d))), (2, .int (iZ (↑fa))), (0, .ref mq), (1, .int (iZ (↑i)))] → W p l e rmX4_choose s m args below meth c H locs 0 0 Q (F0 m 4 ls []) := by
    intro N_lp1
    induction N_lp1 with
    | zero => intros; exfalso; omega
    | succ N_lp1 ih_lp1 =>
      intro d fa lk H locs ls hd1 hd2 hF hl1 hl2 hN hp hl
      refine lv_iload_n hx hb dX4_choose_4 rfl (lv_at hl 0 rfl) ?_
      refine lv_aload_n hx hb dX4_choose_5 rfl (lv_at hl 2 rfl) ?_
      refine z_get hx hb hts hi4 hown hp 0 rfl rfl 1 (by decide) f47 rfl dX4_choose_6 ?_
      refine z_icmp_gt (tgt := 79) hx hb dX4_choose_9 (by decide) (by omega) (fun h2 => ?_) (fun h2 => ?_)
      · skip
        obtain rfl : d = n + 1 := by omega
        have hfab := FAp_b h_i hF
        obtain ⟨mm, xx, hFC⟩ := FC_ex pb n i
        have hmx := FC_FA h_i hF hFC
        have hmle := FC_le h_i hFC
        have jn3 : ∀ (fc : Nat) (H : Heap) (locs : List Loc) (ls : Array Slot), (fc ≤ 129 ∧ i + fc ≤ n) → ((2 ≤ fc ∧ mm = fc) ∨ (fc ≤ 1 ∧ mm = 0)) → Hp G cI A s H locs [oR mq th (↑n) mp (↑org) ent kn gp ln m1 m2 m3 m4 m5 m6 m7 m8 pl st sp po m9, aI cI mp 160 pb, aI cI m2 161 cst, aI cI m3 161 tok, aI cI m4 161 dst, aI cI m5 161 lk] → lv_has ls 6 [(0, .ref mq), (1, .int (iZ (↑i)))] → W p l e rmX4_choose s m args below meth c H locs 0 0 Q (F0 m 93 ls [.int (iZ (↑fc))]) := by
          intro fc H locs ls hfc hmf hp hl
          clear hmx hfab hmle
          refine lv_istore_n (lv' := [(2, .int (iZ (↑fc))), (0, .ref mq), (1, .int (iZ (↑i)))]) hx hb dX4_choose_93 rfl hl (by decide) rfl (fun ls hl => ?_)
          refine lv_ldc hx hb hown k66 dX4_choose_94 ?_
          refine z_cst (100000) (by decide +kernel) ?_
          refine lv_istore_n (lv' := [(3, .int (iZ (100000))), (2, .int (iZ (↑fc))), (0, .ref mq), (1, .int (iZ (↑i)))]) hx hb dX4_choose_96 rfl hl (by decide) rfl (fun ls hl => ?_)
          refine z_iconst hx hb dX4_choose_97 ?_
          refine lv_istore (lv' := [(4, .int (iZ (1))), (3, .int (iZ (100000))), (2, .int (iZ (↑fc))), (0, .ref mq), (1, .int (iZ (↑i)))]) hx hb dX4_choose_98 hl (by decide) rfl (fun ls hl => ?_)
          have hp := z_alike hp 3 rfl (upZ tok i (if 0 = 0 then tok i else ((0 : Nat) : Int))) (fun j _ => by rw [if_pos rfl, upZ_same rfl]) (ws' := [oR mq th (↑n) mp (↑org) ent kn gp ln m1 m2 m3 m4 m5 m6 m7 m8 pl st sp po m9, aI cI mp 160 pb, aI cI m2 161 cst, aI cI m3 161 (upZ tok i (if 0 = 0 then tok i else ((0 : Nat) : Int))), aI cI m4 161 dst, aI cI m5 161 lk]) rfl
          have jn6 : ∀ (b tk : Int) (r : Nat) (H : Heap) (locs : List Loc) (ls : Array Slot), (1 ≤ r ∧ r ≤ 127 ∧ i + r ≤ n) → (b = 1 + ↑r + cst (i + r)) → (tk = ↑r) → (∀ q : Nat, 1 ≤ q → q ≤ 127 → i + q ≤ n → b ≤ 1 + ↑q + cst (i + q)) → (∀ q : Nat, 1 ≤ q → q < r → b < 1 + ↑q + cst (i + q)) → Hp G cI A s H locs [oR mq th (↑n) mp (↑org) ent kn gp ln m1 m2 m3 m4 m5 m6 m7 m8 pl st sp po m9, aI cI mp 160 pb, aI cI m2 161 cst, aI cI m3 161 (upZ tok i tk), aI cI m4 161 dst, aI cI m5 161 lk] → lv_has ls 6 [(0, .ref mq), (1, .int (iZ (↑i))), (2, .int (iZ (↑fc))), (3, .int (iZ (b)))] → W p l e rmX4_choose s m args below meth c H locs 0 0 Q (F0 m 166 ls []) := by
            intro b tk r H locs ls hr hb9 htk hq1 hq2 hp hl
            refine z_iconst hx hb dX4_choose_166 ?_
            refine lv_istore (lv' := [(4, .int (iZ (0))), (0, .ref mq), (1, .int (iZ (↑i))), (2, .int (iZ (↑fc))), (3, .int (iZ (b)))]) hx hb dX4_choose_167 hl (by decide) rfl (fun ls hl => ?_)
            refine z_iconst hx hb dX4_choose_169 ?_
            refine lv_istore (lv' := [(5, .int (iZ (2))), (4, .int (iZ (0))), (0, .ref mq), (1, .int (iZ (↑i))), (2, .int (iZ (↑fc))), (3, .int (iZ (b)))]) hx hb dX4_choose_170 hl (by decide) rfl (fun ls hl => ?_)
            have hb1 := h_c (i + r) (i + r) (by omega) (by omega) (by omega)
            have lp12 : ∀ (N_lp12 : Nat) (t y : Nat) (b2 : Int) (H : Heap) (locs : List Loc) (ls : Array Slot), (2 ≤ t) → (t ≤ fc + 1 ∨ t = 2) → (CPi cst i b t y b2) → (1 ≤ b2 ∧ b2 ≤ 1000) → (fc + 3 - t) < N_lp12 → Hp G cI A s H locs [oR mq th (↑n) mp (↑org) ent kn gp ln m1 m2 m3 m4 m5 m6 m7 m8 pl st sp po m9, aI cI mp 160 pb, aI cI m2 161 cst, aI cI m3 161 (upZ tok i tk), aI cI m4 161 dst, aI cI m5 161 lk] → lv_has ls 6 [(5, .int (iZ (↑t))), (4, .int (iZ (↑y))), (3, .int (iZ (b2))), (0, .ref mq), (1, .int (iZ (↑i))), (2, .int (iZ (↑fc)))] → W p l e rmX4_choose s m args below meth c H locs 0 0 Q (F0 m 172 ls []) := by
              intro N_lp12
              induction N_lp12 with
              | zero => intros; exfalso; omega
              | succ N_lp12 ih_lp12 =>
                intro t y b2 H locs ls hu1 hu2 hC hb2r hN hp hl
                refine lv_iload hx hb dX4_choose_172 (lv_at hl 0 rfl) ?_
                refine lv_iload_n hx hb dX4_choose_174 rfl (lv_at hl 5 rfl) ?_
                refine z_icmp_gt (tgt := 215) hx hb dX4_choose_175 (by decide) (by omega) (fun h13 => ?_) (fun h13 => ?_)
                · skip
                  have hce := CPi_end (fc := fc) hC (by omega)
                  refine lv_aload_n hx hb dX4_choose_215 rfl (lv_at hl 3 rfl) ?_
                  refine z_get hx hb hts hi4 hown hp 0 rfl rfl 9 (by decide) f16 rfl dX4_choose_216 ?_
                  refine lv_iload_n hx hb dX4_choose_219 rfl (lv_at hl 4 rfl) ?_
                  refine lv_iload_n hx hb dX4_choose_220 rfl (lv_at hl 2 rfl) ?_
                  refine z_iast hx hb hp 2 rfl (i) (by omega) dX4_choose_221 (ws' := [oR mq th (↑n) mp (↑org) ent kn gp ln m1 m2 m3 m4 m5 m6 m7 m8 pl st sp po m9, aI cI mp 160 pb, aI cI m2 161 (upZ cst i b2), aI cI m3 161 (upZ tok i tk), aI cI m4 161 dst, aI cI m5 161 lk]) rfl (fun H locs hp => ?_)
                  refine lv_iload hx hb dX4_choose_222 (lv_at hl 1 rfl) ?_
                  refine z_if_ne (tgt := 228) hx hb dX4_choose_224 (by decide) (by omega) (fun h14 => ?_) (fun h14 => ?_)
                  · skip
                    have hyy : y = fc ∧ 2 ≤ fc ∧ fc = mm ∧ b2 = 2 + cst (i + fc) ∧ b2 ≤ b := by omega
                    refine lv_aload_n hx hb dX4_choose_228 rfl (lv_at hl 3 rfl) ?_
                    refine z_get hx hb hts hi4 hown hp 0 rfl rfl 10 (by decide) f19 rfl dX4_choose_229 ?_
                    refine lv_iload_n hx hb dX4_choose_232 rfl (lv_at hl 4 rfl) ?_
                    refine lv_iload hx hb dX4_choose_233 (lv_at hl 1 rfl) ?_
                    refine z_bipush hx hb dX4_choose_235 (by decide +kernel) ?_
                    refine z_iadd hx hb (↑(y + 126)) (by omega) dX4_choose_237 ?_
                    refine z_iast hx hb hp 3 rfl (i) (by omega) dX4_choose_238 (ws' := [oR mq th (↑n) mp (↑org) ent kn gp ln m1 m2 m3 m4 m5 m6 m7 m8 pl st sp po m9, aI cI mp 160 pb, aI cI m2 161 (upZ cst i b2), aI cI m3 161 (upZ (upZ tok i tk) i (↑(y + 126))), aI cI m4 161 dst, aI cI m5 161 lk]) rfl (fun H locs hp => ?_)
                    refine z_iconst hx hb dX4_choose_239 ?_
                    refine lv_istore (lv' := [(5, .int (iZ (1))), (4, .int (iZ (↑y))), (3, .int (iZ (b2))), (0, .ref mq), (1, .int (iZ (↑i))), (2, .int (iZ (↑fc)))]) hx hb dX4_choose_240 hl (by decide) rfl (fun ls hl => ?_)
                    have lp15 : ∀ (N_lp15 : Nat) (d2 : Nat) (H : Heap) (locs : List Loc) (ls : Array Slot), (1 ≤ d2) → (d2 ≤ xx) → (xx + 1 - d2) < N_lp15 → Hp G cI A s H locs [oR mq th (↑n) mp (↑org) ent kn gp ln m1 m2 m3 m4 m5 m6 m7 m8 pl st sp po m9, aI cI mp 160 pb, aI cI m2 161 (upZ cst i b2), aI cI m3 161 (upZ (upZ tok i tk) i (↑(y + 126))), aI cI m4 161 dst, aI cI m5 161 lk] → lv_has ls 6 [(5, .int (iZ (↑d2))), (4, .int (iZ (↑y))), (3, .int (iZ (b2))), (0, .ref mq), (1, .int (iZ (↑i))), (2, .int (iZ (↑fc)))] → W p l e rmX4_choose s m args below meth c H locs 0 0 Q (F0 m 242 ls []) := by
                      intro N_lp15
                      induction N_lp15 with
                      | zero => intros; exfalso; omega
                      | succ N_lp15 ih_lp15 =>
                        intro d2 H locs ls hg1 hg2 hN hp hl
                        have hxx : xx ≤ i ∧ 1 ≤ xx := by rcases hFC with ⟨e1, -, -⟩ | ⟨-, e2, e3, -⟩ <;> omega
                        have hl9 := hl1 d2 hg1 (by omega)
                        have hal9 := al_le (pb := pb) (n := n) (d := d2) (n - i) i (by omega)
                        have hfx : d2 = xx → mm ≤ al pb n i d2 := fun q => FC_at hFC (by omega) q
                        refine lv_aload_n hx hb dX4_choose_242 rfl (lv_at hl 3 rfl) ?_
                        refine z_get hx hb hts hi4 hown hp 0 rfl rfl 12 (by decide) f25 rfl dX4_choose_243 ?_
                        refine lv_iload hx hb dX4_choose_246 (lv_at hl 0 rfl) ?_
                        refine z_iald hx hb hp 5 rfl (d2) (by omega) dX4_choose_248 (↑(al pb n i d2)) (hl9) ?_
                        refine lv_iload hx hb dX4_choose_249 (lv_at hl 1 rfl) ?_
                        refine z_icmp_ge (tgt := 260) hx hb dX4_choose_251 (by decide) (by omega) (fun h16 => ?_) (fun h16 => ?_)
                        · skip
                          have hdx : d2 = xx := FC_first hFC (by omega) hg1 hg2 (by omega)
                          refine lv_aload_n hx hb dX4_choose_260 rfl (lv_at hl 3 rfl) ?_
                          refine z_get hx hb hts hi4 hown hp 0 rfl rfl 11 (by decide) f22 rfl dX4_choose_261 ?_
                          refine lv_iload_n hx hb dX4_choose_264 rfl (lv_at hl 4 rfl) ?_
                          refine lv_iload hx hb dX4_choose_265 (lv_at hl 0 rfl) ?_
                          refine z_iast hx hb hp 4 rfl (i) (by omega) dX4_choose_267 (ws' := [oR mq th (↑n) mp (↑org) ent kn gp ln m1 m2 m3 m4 m5 m6 m7 m8 pl st sp po m9, aI cI mp 160 pb, aI cI m2 161 (upZ cst i b2), aI cI m3 161 (upZ (upZ tok i tk) i (↑(y + 126))), aI cI m4 161 (upZ dst i (↑d2)), aI cI m5 161 lk]) rfl (fun H locs hp => ?_)
                          have hp := z_alike hp 3 rfl (upZ tok i (↑(y + 126))) (fun j _ => by rw [upZ_u]) (ws' := [oR mq th (↑n) mp (↑org) ent kn gp ln m1 m2 m3 m4 m5 m6 m7 m8 pl st sp po m9, aI cI mp 160 pb, aI cI m2 161 (upZ cst i b2), aI cI m3 161 (upZ tok i (↑(y + 126))), aI cI m4 161 (upZ dst i (↑d2)), aI cI m5 161 lk]) rfl
                          exact hret _ _ _ _ _ _ (b2, ↑(y + 126), ↑d2, lk) (⟨PSi_cpy h_i hFC (by omega) (by rw [← show fc = mm by omega]; omega) (fun q q1 q2 q3 => by have := hq1 q q1 q2 q3; omega) (by dsimp only; rw [if_pos (by omega)]; omega) (by dsimp only; rw [if_pos (by omega), hdx]), fun q => by dsimp only; omega, fun e h1 h2 => hl1 e h1 (by omega)⟩) hp dX4_choose_268 (Nat.le_of_ble_eq_true rfl) (Nat.le_of_ble_eq_true rfl)
                        · skip
                          refine z_iinc (k := 0) (lv' := [(5, .int (iZ (↑(d2 + 1)))), (4, .int (iZ (↑y))), (3, .int (iZ (b2))), (0, .ref mq), (1, .int (iZ (↑i))), (2, .int (iZ (↑fc)))]) hx hb (↑(d2 + 1)) (by omega) dX4_choose_254 hl rfl (by decide) rfl (fun ls hl => ?_)
                          refine lv_goto (tgt := 242) hx hb dX4_choose_257 (by decide) ?_
                          exact ih_lp15 (d2 + 1) _ _ _ (by omega) (by omega) (by omega) hp (lv_sub hl [0, 1, 2, 3, 4, 5] rfl)
                    exact lp15 _ 1 _ _ _ (by omega) (by rcases hFC with ⟨e1, -, -⟩ | ⟨-, e2, e3, -⟩ <;> omega) (Nat.lt_succ_self _) hp (lv_sub hl [0, 1, 2, 3, 4, 5] rfl)
                  · skip
                    have hp := z_alike hp 4 rfl (upZ dst i (dst i)) (fun j _ => by rw [upZ_same rfl]) (ws' := [oR mq th (↑n) mp (↑org) ent kn gp ln m1 m2 m3 m4 m5 m6 m7 m8 pl st sp po m9, aI cI mp 160 pb, aI cI m2 161 (upZ cst i b2), aI cI m3 161 (upZ tok i tk), aI cI m4 161 (upZ dst i (dst i)), aI cI m5 161 lk]) rfl
                    exact hret _ _ _ _ _ _ (b2, tk, dst i, lk) (⟨PSi_run h_i hFC hr hb9 hq1 hq2 (fun q => by rw [← show fc = mm by omega]; omega) (by dsimp only; rw [htk, if_neg (by omega)]) (by dsimp only; rw [if_neg (by omega)]) (by omega), fun q => by dsimp only at q; omega, fun e h1 h2 => hl1 e h1 (by omega)⟩) hp dX4_choose_227 (Nat.le_of_ble_eq_true rfl) (Nat.le_of_ble_eq_true rfl)
                · skip
                  have hct := h_c (i + t) (i + t) (by omega) (by omega) (by omega)
                  have hcs : 3 ≤ t → cst (i + t) ≤ cst (i + (t - 1)) := fun q => (h_c (i + (t - 1)) (i + t) (by omega) (by omega) (by omega)).2.1
                  refine z_iconst hx hb dX4_choose_178 ?_
                  refine lv_aload_n hx hb dX4_choose_179 rfl (lv_at hl 3 rfl) ?_
                  refine z_get hx hb hts hi4 hown hp 0 rfl rfl 9 (by decide) f16 rfl dX4_choose_180 ?_
                  refine lv_iload_n hx hb dX4_choose_183 rfl (lv_at hl 4 rfl) ?_
                  refine lv_iload hx hb dX4_choose_184 (lv_at hl 0 rfl) ?_
                  refine z_iadd hx hb (↑(i + t)) (by omega) dX4_choose_186 ?_
                  refine z_iald hx hb hp 2 rfl (i + t) (by omega) dX4_choose_187 (cst (i + t)) (rfl) ?_
                  refine z_iadd hx hb (2 + cst (i + t)) (rfl) dX4_choose_188 ?_
                  refine lv_iload_n hx hb dX4_choose_189 rfl (lv_at hl 2 rfl) ?_
                  refine z_icmp_gt (tgt := 209) hx hb dX4_choose_190 (by decide) (by omega) (fun h17 => ?_) (fun h17 => ?_)
                  · skip
                    refine z_iinc (k := 0) (lv' := [(5, .int (iZ (↑(t + 1)))), (4, .int (iZ (↑y))), (3, .int (iZ (b2))), (0, .ref mq), (1, .int (iZ (↑i))), (2, .int (iZ (↑fc)))]) hx hb (↑(t + 1)) (by omega) dX4_choose_209 hl rfl (by decide) rfl (fun ls hl => ?_)
                    refine lv_goto (tgt := 172) hx hb dX4_choose_212 (by decide) ?_
                    exact ih_lp12 (t + 1) y b2 _ _ _ (by omega) (by omega) (CPi_keep hC (by omega) hcs) (by omega) (by omega) hp (lv_sub hl [0, 1, 2, 3, 4, 5] rfl)
                  · skip
                    refine z_iconst hx hb dX4_choose_193 ?_
                    refine lv_aload_n hx hb dX4_choose_194 rfl (lv_at hl 3 rfl) ?_
                    refine z_get hx hb hts hi4 hown hp 0 rfl rfl 9 (by decide) f16 rfl dX4_choose_195 ?_
                    refine lv_iload_n hx hb dX4_choose_198 rfl (lv_at hl 4 rfl) ?_
                    refine lv_iload hx hb dX4_choose_199 (lv_at hl 0 rfl) ?_
                    refine z_iadd hx hb (↑(i + t)) (by omega) dX4_choose_201 ?_
                    refine z_iald hx hb hp 2 rfl (i + t) (by omega) dX4_choose_202 (cst (i + t)) (rfl) ?_
                    refine z_iadd hx hb (2 + cst (i + t)) (rfl) dX4_choose_203 ?_
                    refine lv_istore_n (lv' := [(3, .int (iZ (2 + cst (i + t)))), (5, .int (iZ (↑t))), (4, .int (iZ (↑y))), (0, .ref mq), (1, .int (iZ (↑i))), (2, .int (iZ (↑fc)))]) hx hb dX4_choose_204 rfl hl (by decide) rfl (fun ls hl => ?_)
                    refine lv_iload hx hb dX4_choose_205 (lv_at hl 1 rfl) ?_
                    refine lv_istore (lv' := [(4, .int (iZ (↑t))), (3, .int (iZ (2 + cst (i + t)))), (5, .int (iZ (↑t))), (0, .ref mq), (1, .int (iZ (↑i))), (2, .int (iZ (↑fc)))]) hx hb dX4_choose_207 hl (by decide) rfl (fun ls hl => ?_)
                    refine z_iinc (k := 2) (lv' := [(5, .int (iZ (↑(t + 1)))), (4, .int (iZ (↑t))), (3, .int (iZ (2 + cst (i + t)))), (0, .ref mq), (1, .int (iZ (↑i))), (2, .int (iZ (↑fc)))]) hx hb (↑(t + 1)) (by omega) dX4_choose_209 hl rfl (by decide) rfl (fun ls hl => ?_)
                    refine lv_goto (tgt := 172) hx hb dX4_choose_212 (by decide) ?_
                    exact ih_lp12 (t + 1) t (2 + cst (i + t)) _ _ _ (by omega) (by omega) (CPi_up hu1 hC (by omega)) (by omega) (by omega) hp (lv_sub hl [0, 1, 2, 3, 4, 5] rfl)
            exact lp12 _ 2 0 b _ _ _ (by omega) (by omega) (CPi_0 _ _ _) (by omega) (Nat.lt_succ_self _) hp (lv_sub hl [0, 1, 5, 2, 3, 4] rfl)
          have lp18 : ∀ (N_lp18 : Nat) (t r : Nat) (b : Int) (H : Heap) (locs : List Loc) (ls : Array Slot), (1 ≤ t) → (t ≤ 128) → (i + t ≤ n + 1) → (CTi cst i t r b 100000) → (1 ≤ b ∧ b ≤ 100000) → (129 - t) < N_lp18 → Hp G cI A s H locs [oR mq th (↑n) mp (↑org) ent kn gp ln m1 m2 m3 m4 m5 m6 m7 m8 pl st sp po m9, aI cI mp 160 pb, aI cI m2 161 cst, aI cI m3 161 (upZ tok i (if r = 0 then tok i else (r : Int))), aI cI m4 161 dst, aI cI m5 161 lk] → lv_has ls 6 [(4, .int (iZ (↑t))), (3, .int (iZ (b))), (2, .int (iZ (↑fc))), (0, .ref mq), (1, .int (iZ (↑i)))] → W p l e rmX4_choose s m args below meth c H locs 0 0 Q (F0 m 100 ls []) := by
            intro N_lp18
            induction N_lp18 with
            | zero => intros; exfalso; omega
            | succ N_lp18 ih_lp18 =>
              intro t r b H locs ls ht1 ht2 ht3 hT hbb hN hp hl
              refine lv_iload hx hb dX4_choose_100 (lv_at hl 0 rfl) ?_
              refine z_sipush hx hb dX4_choose_102 (by decide +kernel) ?_
              refine z_icmp_ge (tgt := 166) hx hb dX4_choose_105 (by decide) (by omega) (fun h19 => ?_) (fun h19 => ?_)
              · skip
                exact jn6 b (if r = 0 then tok i else (r : Int)) r _ _ _ (by have q := RTe hT (by omega) (h_c (i + 1) (i + 1) (by omega) (by omega) (by omega)).2.2; omega) ((RTe hT (by omega) (h_c (i + 1) (i + 1) (by omega) (by omega) (by omega)).2.2).2.2.1) (if_neg (by have q := RTe hT (by omega) (h_c (i + 1) (i + 1) (by omega) (by omega) (by omega)).2.2; omega)) (fun q q1 q2 q3 => (RTe hT (by omega) (h_c (i + 1) (i + 1) (by omega) (by omega) (by omega)).2.2).2.2.2.1 q q1 (by omega)) ((RTe hT (by omega) (h_c (i + 1) (i + 1) (by omega) (by omega) (by omega)).2.2).2.2.2.2) hp (lv_sub hl [3, 4, 2, 1] rfl)
              · skip
                refine lv_iload_n hx hb dX4_choose_108 rfl (lv_at hl 4 rfl) ?_
                refine lv_iload hx hb dX4_choose_109 (lv_at hl 0 rfl) ?_
                refine z_iadd hx hb (↑(i + t)) (by omega) dX4_choose_111 ?_
                refine lv_aload_n hx hb dX4_choose_112 rfl (lv_at hl 3 rfl) ?_
                refine z_get hx hb hts hi4 hown hp 0 rfl rfl 1 (by decide) f47 rfl dX4_choose_113 ?_
                refine z_icmp_gt (tgt := 166) hx hb dX4_choose_116 (by decide) (by omega) (fun h20 => ?_) (fun h20 => ?_)
                · skip
                  exact jn6 b (if r = 0 then tok i else (r : Int)) r _ _ _ (by have q := RTe hT (by omega) (h_c (i + 1) (i + 1) (by omega) (by omega) (by omega)).2.2; omega) ((RTe hT (by omega) (h_c (i + 1) (i + 1) (by omega) (by omega) (by omega)).2.2).2.2.1) (if_neg (by have q := RTe hT (by omega) (h_c (i + 1) (i + 1) (by omega) (by omega) (by omega)).2.2; omega)) (fun q q1 q2 q3 => (RTe hT (by omega) (h_c (i + 1) (i + 1) (by omega) (by omega) (by omega)).2.2).2.2.2.1 q q1 (by omega)) ((RTe hT (by omega) (h_c (i + 1) (i + 1) (by omega) (by omega) (by omega)).2.2).2.2.2.2) hp (lv_sub hl [3, 4, 2, 1] rfl)
                · skip
                  have hct := h_c (i + t) (i + t) (by omega) (by omega) (by omega)
                  refine z_iconst hx hb dX4_choose_119 ?_
                  refine lv_iload hx hb dX4_choose_120 (lv_at hl 0 rfl) ?_
                  refine z_iadd hx hb (1 + (↑t)) (rfl) dX4_choose_122 ?_
                  refine lv_aload_n hx hb dX4_choose_123 rfl (lv_at hl 3 rfl) ?_
                  refine z_get hx hb hts hi4 hown hp 0 rfl rfl 9 (by decide) f16 rfl dX4_choose_124 ?_
                  refine lv_iload_n hx hb dX4_choose_127 rfl (lv_at hl 4 rfl) ?_
                  refine lv_iload hx hb dX4_choose_128 (lv_at hl 0 rfl) ?_
                  refine z_iadd hx hb (↑(i + t)) (by omega) dX4_choose_130 ?_
                  refine z_iald hx hb hp 2 rfl (i + t) (by omega) dX4_choose_131 (cst (i + t)) (rfl) ?_
                  refine z_iadd hx hb (1 + ↑t + cst (i + t)) (rfl) dX4_choose_132 ?_
                  refine lv_iload_n hx hb dX4_choose_133 rfl (lv_at hl 1 rfl) ?_
                  refine z_icmp_ge (tgt := 160) hx hb dX4_choose_134 (by decide) (by omega) (fun h21 => ?_) (fun h21 => ?_)
                  · skip
                    refine z_iinc (k := 0) (lv' := [(4, .int (iZ (↑(t + 1)))), (3, .int (iZ (b))), (2, .int (iZ (↑fc))), (0, .ref mq), (1, .int (iZ (↑i)))]) hx hb (↑(t + 1)) (by omega) dX4_choose_160 hl rfl (by decide) rfl (fun ls hl => ?_)
                    refine lv_goto (tgt := 100) hx hb dX4_choose_163 (by decide) ?_
                    exact ih_lp18 (t + 1) r b _ _ _ (by omega) (by omega) (by omega) (CTi_keep hT (by omega)) (by omega) (by omega) hp (lv_sub hl [0, 1, 2, 3, 4] rfl)
                  · skip
                    refine z_iconst hx hb dX4_choose_137 ?_
                    refine lv_iload hx hb dX4_choose_138 (lv_at hl 0 rfl) ?_
                    refine z_iadd hx hb (1 + (↑t)) (rfl) dX4_choose_140 ?_
                    refine lv_aload_n hx hb dX4_choose_141 rfl (lv_at hl 3 rfl) ?_
                    refine z_get hx hb hts hi4 hown hp 0 rfl rfl 9 (by decide) f16 rfl dX4_choose_142 ?_
                    refine lv_iload_n hx hb dX4_choose_145 rfl (lv_at hl 4 rfl) ?_
                    refine lv_iload hx hb dX4_choose_146 (lv_at hl 0 rfl) ?_
                    refine z_iadd hx hb (↑(i + t)) (by omega) dX4_choose_148 ?_
                    refine z_iald hx hb hp 2 rfl (i + t) (by omega) dX4_choose_149 (cst (i + t)) (rfl) ?_
                    refine z_iadd hx hb (1 + ↑t + cst (i + t)) (rfl) dX4_choose_150 ?_
                    refine lv_istore_n (lv' := [(3, .int (iZ (1 + ↑t + cst (i + t)))), (4, .int (iZ (↑t))), (2, .int (iZ (↑fc))), (0, .ref mq), (1, .int (iZ (↑i)))]) hx hb dX4_choose_151 rfl hl (by decide) rfl (fun ls hl => ?_)
                    refine lv_aload_n hx hb dX4_choose_152 rfl (lv_at hl 3 rfl) ?_
                    refine z_get hx hb hts hi4 hown hp 0 rfl rfl 10 (by decide) f19 rfl dX4_choose_153 ?_
                    refine lv_iload_n hx hb dX4_choose_156 rfl (lv_at hl 4 rfl) ?_
                    refine lv_iload hx hb dX4_choose_157 (lv_at hl 1 rfl) ?_
                    refine z_iast hx hb hp 3 rfl (i) (by omega) dX4_choose_159 (ws' := [oR mq th (↑n) mp (↑org) ent kn gp ln m1 m2 m3 m4 m5 m6 m7 m8 pl st sp po m9, aI cI mp 160 pb, aI cI m2 161 cst, aI cI m3 161 (upZ (upZ tok i (if r = 0 then tok i else (r : Int))) i (↑t)), aI cI m4 161 dst, aI cI m5 161 lk]) rfl (fun H locs hp => ?_)
                    have hp := z_alike hp 3 rfl (upZ tok i (if t = 0 then tok i else (t : Int))) (fun j _ => by rw [upZ_u, if_neg (by omega)]) (ws' := [oR mq th (↑n) mp (↑org) ent kn gp ln m1 m2 m3 m4 m5 m6 m7 m8 pl st sp po m9, aI cI mp 160 pb, aI cI m2 161 cst, aI cI m3 161 (upZ tok i (if t = 0 then tok i else (t : Int))), aI cI m4 161 dst, aI cI m5 161 lk]) rfl
                    refine z_iinc (k := 1) (lv' := [(4, .int (iZ (↑(t + 1)))), (3, .int (iZ (1 + ↑t + cst (i + t)))), (2, .int (iZ (↑fc))), (0, .ref mq), (1, .int (iZ (↑i)))]) hx hb (↑(t + 1)) (by omega) dX4_choose_160 hl rfl (by decide) rfl (fun ls hl => ?_)
                    refine lv_goto (tgt := 100) hx hb dX4_choose_163 (by decide) ?_
                    exact ih_lp18 (t + 1) t (1 + ↑t + cst (i + t)) _ _ _ (by omega) (by omega) (by omega) (CTi_up ht1 hT (by omega)) (by omega) (by omega) hp (lv_sub hl [0, 1, 2, 3, 4] rfl)
          exact lp18 _ 1 0 100000 _ _ _ (by omega) (by omega) (by omega) (CTi_0 _ _ _) (by omega) (Nat.lt_succ_self _) hp (lv_sub hl [0, 1, 2, 3, 4] rfl)
        refine lv_iload_n hx hb dX4_choose_79 rfl (lv_at hl 1 rfl) ?_
        refine z_sipush hx hb dX4_choose_80 (by decide +kernel) ?_
        refine z_icmp_le (tgt := 92) hx hb dX4_choose_83 (by decide) (by omega) (fun h22 => ?_) (fun h22 => ?_)
        · skip
          refine lv_iload_n hx hb dX4_choose_92 rfl (lv_at hl 1 rfl) ?_
          exact jn3 fa _ _ _ (by omega) (by omega) hp (lv_sub hl [2, 3] rfl)
        · skip
          refine z_sipush hx hb dX4_choose_86 (by decide +kernel) ?_
          refine lv_goto (tgt := 93) hx hb dX4_choose_89 (by decide) ?_
          exact jn3 129 _ _ _ (by omega) (by omega) hp (lv_sub hl [2, 3] rfl)
      · skip
        have hlk := hl2 d (by omega) (by omega)
        have hale := al_le (pb := pb) (n := n) (d := d) (n - (i + 1)) (i + 1) (by omega)
        have hale2 := al_le (pb := pb) (n := n) (d := d) (n - i) i (by omega)
        have hfab := FAp_b h_i hF
        refine lv_aload_n hx hb dX4_choose_12 rfl (lv_at hl 2 rfl) ?_
        refine z_get hx hb hts hi4 hown hp 0 rfl rfl 12 (by decide) f25 rfl dX4_choose_13 ?_
        refine lv_iload_n hx hb dX4_choose_16 rfl (lv_at hl 0 rfl) ?_
        have jn23 : ∀ (v : Nat) (H : Heap) (locs : List Loc) (ls : Array Slot), (v = al pb n i d) → Hp G cI A s H locs [oR mq th (↑n) mp (↑org) ent kn gp ln m1 m2 m3 m4 m5 m6 m7 m8 pl st sp po m9, aI cI mp 160 pb, aI cI m2 161 cst, aI cI m3 161 tok, aI cI m4 161 dst, aI cI m5 161 lk] → lv_has ls 6 [(3, .int (iZ (↑d))), (2, .int (iZ (↑fa))), (0, .ref mq), (1, .int (iZ (↑i)))] → W p l e rmX4_choose s m args below meth c H locs 0 0 Q (F0 m 51 ls [.int (iZ (↑v)), .int (iZ (↑d)), .ref m5]) := by
          intro v H locs ls hv hp hl
          refine z_iast hx hb hp 5 rfl (d) (by omega) dX4_choose_51 (ws' := [oR mq th (↑n) mp (↑org) ent kn gp ln m1 m2 m3 m4 m5 m6 m7 m8 pl st sp po m9, aI cI mp 160 pb, aI cI m2 161 cst, aI cI m3 161 tok, aI cI m4 161 dst, aI cI m5 161 (upZ lk d (↑v))]) rfl (fun H locs hp => ?_)
          have jn25 : ∀ (fb : Nat) (H : Heap) (locs : List Loc) (ls : Array Slot), (FAp pb n i (d + 1) fb) → Hp G cI A s H locs [oR mq th (↑n) mp (↑org) ent kn gp ln m1 m2 m3 m4 m5 m6 m7 m8 pl st sp po m9, aI cI mp 160 pb, aI cI m2 161 cst, aI cI m3 161 tok, aI cI m4 161 dst, aI cI m5 161 (upZ lk d (↑v))] → lv_has ls 6 [(3, .int (iZ (↑d))), (2, .int (iZ (↑fa))), (0, .ref mq), (1, .int (iZ (↑i)))] → W p l e rmX4_choose s m args below meth c H locs 0 0 Q (F0 m 72 ls [.int (iZ (↑fb))]) := by
            intro fb H locs ls hfb hp hl
            refine lv_istore_n (lv' := [(2, .int (iZ (↑fb))), (3, .int (iZ (↑d))), (0, .ref mq), (1, .int (iZ (↑i)))]) hx hb dX4_choose_72 rfl hl (by decide) rfl (fun ls hl => ?_)
            refine z_iinc (k := 1) (lv' := [(3, .int (iZ (↑(d + 1)))), (2, .int (iZ (↑fb))), (0, .ref mq), (1, .int (iZ (↑i)))]) hx hb (↑(d + 1)) (by omega) dX4_choose_73 hl rfl (by decide) rfl (fun ls hl => ?_)
            refine lv_goto (tgt := 4) hx hb dX4_choose_76 (by decide) ?_
            exact ih_lp1 (d + 1) fb (upZ lk d (↑v)) _ _ _ (by omega) (by omega) (hfb) (fun e h1 h2 => by unfold upZ; by_cases q : e = d; rw [if_pos q, q, hv]; rw [if_neg q]; exact hl1 e h1 (by omega)) (fun e h1 h2 => by rw [upZ_n _ _ (by omega)]; exact hl2 e (by omega) h2) (by omega) hp (lv_sub hl [0, 1, 2, 3] rfl)
          refine lv_aload_n hx hb dX4_choose_52 rfl (lv_at hl 2 rfl) ?_
          refine z_get hx hb hts hi4 hown hp 0 rfl rfl 12 (by decide) f25 rfl dX4_choose_53 ?_
          refine lv_iload_n hx hb dX4_choose_56 rfl (lv_at hl 0 rfl) ?_
          refine z_iald hx hb hp 5 rfl (d) (by omega) dX4_choose_57 (↑v) (upZ_s _ _ _) ?_
          refine lv_iload_n hx hb dX4_choose_58 rfl (lv_at hl 1 rfl) ?_
          refine z_icmp_le (tgt := 71) hx hb dX4_choose_59 (by decide) (by omega) (fun h27 => ?_) (fun h27 => ?_)
          · skip
            refine lv_iload_n hx hb dX4_choose_71 rfl (lv_at hl 1 rfl) ?_
            exact jn25 fa _ _ _ (FAp_keep hF (by omega)) hp (lv_sub hl [0, 1, 2, 3] rfl)
          · skip
            refine lv_aload_n hx hb dX4_choose_62 rfl (lv_at hl 2 rfl) ?_
            refine z_get hx hb hts hi4 hown hp 0 rfl rfl 12 (by decide) f25 rfl dX4_choose_63 ?_
            refine lv_iload_n hx hb dX4_choose_66 rfl (lv_at hl 0 rfl) ?_
            refine z_iald hx hb hp 5 rfl (d) (by omega) dX4_choose_67 (↑v) (upZ_s _ _ _) ?_
            refine lv_goto (tgt := 72) hx hb dX4_choose_68 (by decide) ?_
            exact jn25 v _ _ _ (FAp_up hd1 hF hv (by omega)) hp (lv_sub hl [0, 1, 2, 3] rfl)
        refine lv_iload_n hx hb dX4_choose_17 rfl (lv_at hl 0 rfl) ?_
        refine lv_iload_n hx hb dX4_choose_18 rfl (lv_at hl 3 rfl) ?_
        refine z_icmp_gt (tgt := 50) hx hb dX4_choose_19 (by decide) (by omega) (fun h28 => ?_) (fun h28 => ?_)
        · skip
          refine z_iconst hx hb dX4_choose_50 ?_
          exact jn23 0 _ _ _ (by rw [al_s (i := i) d h_i, if_neg (fun q => absurd q.1 (by omega))]) hp (lv_sub hl [0, 1, 2, 3] rfl)
        · skip
          have hb1 := h_b i (by omega)
          have hb2 := h_b (i - d) (by omega)
          refine lv_aload_n hx hb dX4_choose_22 rfl (lv_at hl 2 rfl) ?_
          refine z_get hx hb hts hi4 hown hp 0 rfl rfl 2 (by decide) f7 rfl dX4_choose_23 ?_
          refine lv_iload_n hx hb dX4_choose_26 rfl (lv_at hl 3 rfl) ?_
          refine z_iald hx hb hp 1 rfl (i) (by omega) dX4_choose_27 (pb i) (rfl) ?_
          refine lv_aload_n hx hb dX4_choose_28 rfl (lv_at hl 2 rfl) ?_
          refine z_get hx hb hts hi4 hown hp 0 rfl rfl 2 (by decide) f7 rfl dX4_choose_29 ?_
          refine lv_iload_n hx hb dX4_choose_32 rfl (lv_at hl 3 rfl) ?_
          refine lv_iload_n hx hb dX4_choose_33 rfl (lv_at hl 0 rfl) ?_
          refine z_isub hx hb ((↑i) - (↑d)) (rfl) dX4_choose_34 ?_
          refine z_iald hx hb hp 1 rfl (i - d) (by omega) dX4_choose_35 (pb (i - d)) (rfl) ?_
          refine z_icmp_ne (tgt := 50) hx hb dX4_choose_36 (by decide) (by omega) (fun h29 => ?_) (fun h29 => ?_)
          · skip
            refine z_iconst hx hb dX4_choose_50 ?_
            exact jn23 0 _ _ _ (by rw [al_s (i := i) d h_i, if_neg (fun q => absurd q.2 (by omega))]) hp (lv_sub hl [0, 1, 2, 3] rfl)
          · skip
            refine lv_aload_n hx hb dX4_choose_39 rfl (lv_at hl 2 rfl) ?_
            refine z_get hx hb hts hi4 hown hp 0 rfl rfl 12 (by decide) f25 rfl dX4_choose_40 ?_
            refine lv_iload_n hx hb dX4_choose_43 rfl (lv_at hl 0 rfl) ?_
            refine z_iald hx hb hp 5 rfl (d) (by omega) dX4_choose_44 (lk d) (rfl) ?_
            refine z_iconst hx hb dX4_choose_45 ?_
            refine z_iadd hx hb (↑(al pb n (i + 1) d + 1)) (by omega) dX4_choose_46 ?_
            refine lv_goto (tgt := 51) hx hb dX4_choose_47 (by decide) ?_
            exact jn23 (al pb n (i + 1) d + 1) _ _ _ (by rw [al_s (i := i) d h_i, if_pos ⟨by omega, by omega⟩]) hp (lv_sub hl [0, 1, 2, 3] rfl)
  exact lp1 _ 1 0 rgt _ _ _ (by omega) (by omega) (FAp_1 pb n i) (fun e h1 h2 => by omega) (fun e h1 h2 => h_r e h1 h2) (Nat.lt_succ_self _) hp (lv_sub hl [0, 1, 2, 3] rfl)
