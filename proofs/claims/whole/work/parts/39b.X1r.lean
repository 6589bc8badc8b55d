abbrev rmX1_refresh : Room := { frames := 2, cells := 0, slots := 0, locals := 110 }
set_option maxRecDepth 100000 in
set_option maxHeartbeats 4000000 in
theorem c_X1_refresh (l : Launch) (G : va_G) (cI : ClassId) (sz : Nat) (kq ks kc km kd kl : Nat) (q2 b2 o2 : Nat) (strm cst mks dst lks pb : Nat → Int) (n org : Nat) (ln gp ek ent ed : Int) (h_n : n ≤ 160) (h_b : BB pb 160) (h_e : rg ek ∧ rg ed) (h_f : ek = ed → Fresh pb n ln gp strm) : Met l yX1_refresh wsX1_refresh rmX1_refresh (zPre G cI [oK kq q2 ks ln gp ek kc km kd kl, aI cI ks 163 strm, aI cI kc 161 cst, aI cI km 160 mks, aI cI kd 160 dst, aI cI kl 160 lks, oP q2 b2 o2 (↑n) (↑org) ent ed, aI cI b2 160 pb] sz [.ref kq]) (va_Qv (fun (u : Int × Int × (Nat → Int) × (Nat → Int) × (Nat → Int) × (Nat → Int) × (Nat → Int)) => Fresh pb n u.1 u.2.1 u.2.2.1) (fun (u : Int × Int × (Nat → Int) × (Nat → Int) × (Nat → Int) × (Nat → Int) × (Nat → Int)) t => zB G cI (va_A [oK kq q2 ks ln gp ek kc km kd kl, aI cI ks 163 strm, aI cI kc 161 cst, aI cI km 160 mks, aI cI kd 160 dst, aI cI kl 160 lks, oP q2 b2 o2 (↑n) (↑org) ent ed, aI cI b2 160 pb] sz) [oK kq q2 ks u.1 u.2.1 ed kc km kd kl, aI cI ks 163 u.2.2.1, aI cI kc 161 u.2.2.2.1, aI cI km 160 u.2.2.2.2.1, aI cI kd 160 u.2.2.2.2.2.1, aI cI kl 160 u.2.2.2.2.2.2, oP q2 b2 o2 (↑n) (↑org) ent ed, aI cI b2 160 pb] t) (va_A [oK kq q2 ks ln gp ek kc km kd kl, aI cI ks 163 strm, aI cI kc 161 cst, aI cI km 160 mks, aI cI kd 160 dst, aI cI kl 160 lks, oP q2 b2 o2 (↑n) (↑org) ent ed, aI cI b2 160 pb] sz)) 0 0 (va_A [oK kq q2 ks ln gp ek kc km kd kl, aI cI ks 163 strm, aI cI kc 161 cst, aI cI km 160 mks, aI cI kd 160 dst, aI cI kl 160 lks, oP q2 b2 o2 (↑n) (↑org) ent ed, aI cI b2 160 pb] sz) := by
  refine zm_v (W1 := fun (u : Int × Int × (Nat → Int) × (Nat → Int) × (Nat → Int) × (Nat → Int) × (Nat → Int)) => [oK kq q2 ks u.1 u.2.1 ed kc km kd kl, aI cI ks 163 u.2.2.1, aI cI kc 161 u.2.2.2.1, aI cI km 160 u.2.2.2.2.1, aI cI kd 160 u.2.2.2.2.2.1, aI cI kl 160 u.2.2.2.2.2.2, oP q2 b2 o2 (↑n) (↑org) ent ed, aI cI b2 160 pb]) (cc := cX1_refresh) (maxL := 3) (by decide) rfl (Nat.le_of_ble_eq_true rfl) ?_
  intro p e s m args below meth c A Q ls hsz hx hb hml hown hts hnm hret hp hl
  have hl : lv_has ls 3 [(0, .ref kq)] := hl
  have hi1 : ∀ w ∈ wsX10, w ∈ wsX1_refresh := fun w h => List.mem_cons_of_mem _ (List.mem_append_left _ (List.mem_append_right _ (h)))
  have f34 := hts (.fieldLink RX1 34 "SelfOpener$Packing" "edition" "I") (List.mem_of_getElem? (i := 1) rfl)
  have f12 := hts (.fieldLink RX1 12 "SelfOpener$Packing" "program" "LSelfOpener$Program;") (List.mem_of_getElem? (i := 2) rfl)
  have hi2 : ∀ w ∈ wsX20, w ∈ wsX1_refresh := fun w h => List.mem_cons_of_mem _ (List.mem_append_right _ (h))
  have f56 := hts (.fieldLink RX1 56 "SelfOpener$Program" "edition" "I") (List.mem_of_getElem? (i := 3) rfl)
  have f41 := hts (.fieldLink RX1 41 "SelfOpener$Program" "size" "I") (List.mem_of_getElem? (i := 4) rfl)
  have f22 := hts (.fieldLink RX1 22 "SelfOpener$Packing" "cost" "[I") (List.mem_of_getElem? (i := 6) rfl)
  have f64 := hts (.fieldLink RX1 64 "SelfOpener$Packing" "length" "I") (List.mem_of_getElem? (i := 7) rfl)
  have f31 := hts (.fieldLink RX1 31 "SelfOpener$Packing" "alike" "[I") (List.mem_of_getElem? (i := 5) rfl)
  suffices hw : ∀ (H : Heap) (locs : List Loc), Hp G cI A s H locs [oK kq q2 ks ln gp ek kc km kd kl, aI cI ks 163 strm, aI cI kc 161 cst, aI cI km 160 mks, aI cI kd 160 dst, aI cI kl 160 lks, oP q2 b2 o2 (↑n) (↑org) ent ed, aI cI b2 160 pb] → W p l e rmX1_refresh s m args below meth c H locs 0 0 Q (F0 m 0 ls []) from hw _ _ hp
  clear hp; intro H locs hp
  refine lv_aload_n hx hb dX1_refresh_0 rfl (lv_at hl 0 rfl) ?_
  refine z_get hx hb hts hi1 hown hp 0 rfl rfl 4 (by decide) f34 rfl dX1_refresh_1 ?_
  refine lv_aload_n hx hb dX1_refresh_4 rfl (lv_at hl 0 rfl) ?_
  refine z_get hx hb hts hi1 hown hp 0 rfl rfl 0 (by decide) f12 rfl dX1_refresh_5 ?_
  refine z_get hx hb hts hi2 hown hp 6 rfl rfl 5 (by decide) f56 rfl dX1_refresh_8 ?_
  refine z_icmp_ne (tgt := 15) hx hb dX1_refresh_11 (by decide) (by omega) (fun h1 => ?_) (fun h1 => ?_)
  · skip
    refine lv_aload_n hx hb dX1_refresh_15 rfl (lv_at hl 0 rfl) ?_
    refine z_get hx hb hts hi1 hown hp 0 rfl rfl 0 (by decide) f12 rfl dX1_refresh_16 ?_
    refine z_get hx hb hts hi2 hown hp 6 rfl rfl 2 (by decide) f41 rfl dX1_refresh_19 ?_
    refine lv_istore_n (lv' := [(1, .int (iZ (↑n))), (0, .ref kq)]) hx hb dX1_refresh_22 rfl hl (by decide) rfl (fun ls hl => ?_)
    refine z_iconst hx hb dX1_refresh_23 ?_
    refine lv_istore_n (lv' := [(2, .int (iZ (0))), (1, .int (iZ (↑n))), (0, .ref kq)]) hx hb dX1_refresh_24 rfl hl (by decide) rfl (fun ls hl => ?_)
    have lp2 : ∀ (N_lp2 : Nat) (i : Nat) (f : Nat → Int) (H : Heap) (locs : List Loc) (ls : Array Slot), (i ≤ 160) → (∀ j, j < i → f j = 0) → (160 - i) < N_lp2 → Hp G cI A s H locs [oK kq q2 ks ln gp ek kc km kd kl, aI cI ks 163 strm, aI cI kc 161 cst, aI cI km 160 mks, aI cI kd 160 dst, aI cI kl 160 f, oP q2 b2 o2 (↑n) (↑org) ent ed, aI cI b2 160 pb] → lv_has ls 3 [(2, .int (iZ (↑i))), (1, .int (iZ (↑n))), (0, .ref kq)] → W p l e rmX1_refresh s m args below meth c H locs 0 0 Q (F0 m 25 ls []) := by
      intro N_lp2
      induction N_lp2 with
      | zero => intros; exfalso; omega
      | succ N_lp2 ih_lp2 =>
        intro i f H locs ls hi hf hN hp hl
        refine lv_iload_n hx hb dX1_refresh_25 rfl (lv_at hl 0 rfl) ?_
        refine z_sipush hx hb dX1_refresh_26 (by decide +kernel) ?_
        refine z_icmp_ge (tgt := 45) hx hb dX1_refresh_29 (by decide) (by omega) (fun h3 => ?_) (fun h3 => ?_)
        · skip
          have hp := z_alike hp 5 rfl (fun _ => 0) (fun j hj => (hf j (by omega)).symm) (ws' := [oK kq q2 ks ln gp ek kc km kd kl, aI cI ks 163 strm, aI cI kc 161 cst, aI cI km 160 mks, aI cI kd 160 dst, aI cI kl 160 (fun _ => 0), oP q2 b2 o2 (↑n) (↑org) ent ed, aI cI b2 160 pb]) rfl
          refine lv_aload_n hx hb dX1_refresh_45 rfl (lv_at hl 2 rfl) ?_
          refine z_get hx hb hts hi1 hown hp 0 rfl rfl 5 (by decide) f22 rfl dX1_refresh_46 ?_
          refine lv_iload_n hx hb dX1_refresh_49 rfl (lv_at hl 1 rfl) ?_
          refine z_iconst hx hb dX1_refresh_50 ?_
          refine z_iast hx hb hp 2 rfl (n) (by omega) dX1_refresh_51 (ws' := [oK kq q2 ks ln gp ek kc km kd kl, aI cI ks 163 strm, aI cI kc 161 (upZ cst n 1), aI cI km 160 mks, aI cI kd 160 dst, aI cI kl 160 (fun _ => 0), oP q2 b2 o2 (↑n) (↑org) ent ed, aI cI b2 160 pb]) rfl (fun H locs hp => ?_)
          refine lv_iload_n hx hb dX1_refresh_52 rfl (lv_at hl 1 rfl) ?_
          refine z_iconst hx hb dX1_refresh_53 ?_
          refine z_isub hx hb ((↑n) - 1) (rfl) dX1_refresh_54 ?_
          refine lv_istore_n (lv' := [(2, .int (iZ ((↑n) - 1))), (1, .int (iZ (↑n))), (0, .ref kq)]) hx hb dX1_refresh_55 rfl hl (by decide) rfl (fun ls hl => ?_)
          have lp4 : ∀ (N_lp4 : Nat) (k : Nat) (C M D lk : Nat → Int) (H : Heap) (locs : List Loc) (ls : Array Slot), (k ≤ n) → (PS pb n C M D k) → (∀ d, 1 ≤ d → d ≤ k - 1 → lk d = ↑(al pb n k d)) → k < N_lp4 → Hp G cI A s H locs [oK kq q2 ks ln gp ek kc km kd kl, aI cI ks 163 strm, aI cI kc 161 C, aI cI km 160 M, aI cI kd 160 D, aI cI kl 160 lk, oP q2 b2 o2 (↑n) (↑org) ent ed, aI cI b2 160 pb] → lv_has ls 3 [(2, .int (iZ (↑k - 1))), (1, .int (iZ (↑n))), (0, .ref kq)] → W p l e rmX1_refresh s m args below meth c H locs 0 0 Q (F0 m 56 ls []) := by
            intro N_lp4
            induction N_lp4 with
            | zero => intros; exfalso; omega
            | succ N_lp4 ih_lp4 =>
              intro k C M D lk H locs ls hk hP hL hN hp hl
              refine lv_iload_n hx hb dX1_refresh_56 rfl (lv_at hl 0 rfl) ?_
              refine z_if_lt (tgt := 76) hx hb dX1_refresh_57 (by decide) (by omega) (fun h5 => ?_) (fun h5 => ?_)
              · skip
                obtain rfl : k = 0 := by omega
                obtain ⟨wr, wrow, wgp, hw9⟩ : ∃ (wr : Nat) (wrow : Nat → Int) (wgp : Int), wst pb M D n (C 0) n 0 0 strm (max 0 (C 0 - ↑n)) = (wr, wrow, wgp) := ⟨_, _, _, rfl⟩
                refine lv_aload_n hx hb dX1_refresh_76 rfl (lv_at hl 2 rfl) ?_
                refine lv_aload_n hx hb dX1_refresh_77 rfl (lv_at hl 2 rfl) ?_
                refine z_get hx hb hts hi1 hown hp 0 rfl rfl 5 (by decide) f22 rfl dX1_refresh_78 ?_
                refine z_iconst hx hb dX1_refresh_81 ?_
                refine z_iald hx hb hp 2 rfl (0) (by omega) dX1_refresh_82 (C 0) (rfl) ?_
                refine z_put hx hb hts hi1 tyX1 tyX1_ok nmX1 hown hp 0 rfl rfl 2 (by decide) f64 rfl (rfl) (rfl) (Nat.le_of_ble_eq_true rfl) dX1_refresh_83 (ws' := [oK kq q2 ks (C 0) gp ek kc km kd kl, aI cI ks 163 strm, aI cI kc 161 C, aI cI km 160 M, aI cI kd 160 D, aI cI kl 160 lk, oP q2 b2 o2 (↑n) (↑org) ent ed, aI cI b2 160 pb]) rfl (fun H locs hp => ?_)
                refine lv_aload_n hx hb dX1_refresh_86 rfl (lv_at hl 2 rfl) ?_
                refine zc_v (wr := [aI cI kc 161 C, aI cI kl 160 lk]) (W0 := [oK kq q2 ks (C 0) gp ek kc km kd kl, aI cI ks 163 strm, aI cI km 160 M, aI cI kd 160 D, oP q2 b2 o2 (↑n) (↑org) ent ed, aI cI b2 160 pb]) (wl2 := fun (u : Unit) => [oK kq q2 ks (C 0) wgp ek kc km kd kl, aI cI ks 163 (upZ wrow wr 0), aI cI kc 161 C, aI cI km 160 M, aI cI kd 160 D, aI cI kl 160 lk, oP q2 b2 o2 (↑n) (↑org) ent ed, aI cI b2 160 pb]) (As := []) (rest := []) hx hb hml hown hts hp (c_X1_writeStream l G cI H.size kq ks kc km kd kl q2 b2 o2 strm M D pb C wrow n org wr (C 0) gp ek ent ed wgp (by omega) (h_b) (hP) (rfl) (hw9)) zPre_blind (z_pre hp [0, 1, 3, 4, 6, 7] rfl (by decide) [.ref kq]) (cwV 0 hts gX1_refresh_X1_writeStream rfl rfl rfl (by decide +kernel) ⟨Nat.le_of_ble_eq_true rfl, Nat.le_of_ble_eq_true rfl⟩) [0, 1, 3, 4, 6, 7] [2, 5] [2, 3, 0, 4, 5, 1, 6, 7] rfl rfl ⟨by decide, by decide, by decide⟩ (fun _ => rfl) 0 1 rfl rfl rfl rfl hl.1 rfl (Nat.le_of_ble_eq_true rfl) dX1_refresh_87 ⟨Nat.le_of_ble_eq_true rfl, Nat.le_of_ble_eq_true rfl⟩ (fun u H locs hq6 hp => ?_)
                refine lv_aload_n hx hb dX1_refresh_90 rfl (lv_at hl 2 rfl) ?_
                refine lv_aload_n hx hb dX1_refresh_91 rfl (lv_at hl 2 rfl) ?_
                refine z_get hx hb hts hi1 hown hp 0 rfl rfl 0 (by decide) f12 rfl dX1_refresh_92 ?_
                refine z_get hx hb hts hi2 hown hp 6 rfl rfl 5 (by decide) f56 rfl dX1_refresh_95 ?_
                refine z_put hx hb hts hi1 tyX1 tyX1_ok nmX1 hown hp 0 rfl rfl 4 (by decide) f34 rfl (rfl) (rfl) (Nat.le_of_ble_eq_true rfl) dX1_refresh_98 (ws' := [oK kq q2 ks (C 0) wgp ed kc km kd kl, aI cI ks 163 (upZ wrow wr 0), aI cI kc 161 C, aI cI km 160 M, aI cI kd 160 D, aI cI kl 160 lk, oP q2 b2 o2 (↑n) (↑org) ent ed, aI cI b2 160 pb]) rfl (fun H locs hp => ?_)
                exact hret _ _ _ _ _ _ (C 0, wgp, upZ wrow wr 0, C, M, D, lk) (⟨C, M, D, strm, hP, rfl, by rw [hw9], fun j _ => by rw [hw9]⟩) hp dX1_refresh_101 (Nat.le_of_ble_eq_true rfl) (Nat.le_of_ble_eq_true rfl)
              · skip
                obtain ⟨i, rfl⟩ : ∃ i, k = i + 1 := ⟨k - 1, by omega⟩
                have hcb : ∀ j, i < j → j ≤ n → 1 ≤ C j ∧ C j ≤ 400 := fun j h1 h2 => ⟨(PS_mo hP (a := j) (b := j) (by omega) (Nat.le_refl _) h2).1, by have := PS_up hP (n - j) j (by omega) (by omega); omega⟩
                have hl : lv_has ls 3 [(2, .int (iZ (↑i))), (1, .int (iZ (↑n))), (0, .ref kq)] := by
                  have e9 : ([(2, .int (iZ (↑(i + 1) - 1))), (1, .int (iZ (↑n))), (0, .ref kq)] : List (Nat × Value)) = [(2, .int (iZ (↑i))), (1, .int (iZ (↑n))), (0, .ref kq)] := by rw [show ((i + 1 : Nat) : Int) - 1 = ↑i by omega]
                  rw [← e9]; exact hl
                refine lv_aload_n hx hb dX1_refresh_60 rfl (lv_at hl 2 rfl) ?_
                refine lv_iload_n hx hb dX1_refresh_61 rfl (lv_at hl 0 rfl) ?_
                refine zc_v (wr := [aI cI ks 163 strm, aI cI kc 161 C]) (W0 := [oK kq q2 ks ln gp ek kc km kd kl, aI cI km 160 M, aI cI kd 160 D, aI cI kl 160 lk, oP q2 b2 o2 (↑n) (↑org) ent ed, aI cI b2 160 pb]) (wl2 := fun (u : (Nat → Int) × Nat × Nat) => [oK kq q2 ks ln gp ek kc km kd kl, aI cI ks 163 strm, aI cI kc 161 C, aI cI km 160 (upZ M i (↑u.2.1)), aI cI kd 160 (upZ D i (↑u.2.2)), aI cI kl 160 u.1, oP q2 b2 o2 (↑n) (↑org) ent ed, aI cI b2 160 pb]) (As := [.int (iZ (↑i))]) (rest := []) hx hb hml hown hts hp (c_X1_findCopy l G cI H.size kq ks kc km kd kl q2 b2 o2 M D lk pb n org i ln gp ek ent ed (by omega) (by omega) (h_b) (fun d h1 h2 => hL d h1 (by omega))) zPre_blind (z_pre hp [0, 3, 4, 5, 6, 7] rfl (by decide) [.ref kq, .int (iZ (↑i))]) (cwV 1 hts gX1_refresh_X1_findCopy rfl rfl rfl (by decide +kernel) ⟨Nat.le_of_ble_eq_true rfl, Nat.le_of_ble_eq_true rfl⟩) [0, 3, 4, 5, 6, 7] [1, 2] [2, 0, 1, 3, 4, 5, 6, 7] rfl rfl ⟨by decide, by decide, by decide⟩ (fun _ => rfl) 0 1 rfl rfl rfl rfl hl.1 rfl (Nat.le_of_ble_eq_true rfl) dX1_refresh_62 ⟨Nat.le_of_ble_eq_true rfl, Nat.le_of_ble_eq_true rfl⟩ (fun u4 H locs hq7 hp => ?_)
                have hq4 := hq7
                refine lv_aload_n hx hb dX1_refresh_65 rfl (lv_at hl 2 rfl) ?_
                refine lv_iload_n hx hb dX1_refresh_66 rfl (lv_at hl 0 rfl) ?_
                refine zc_v (wr := [aI cI ks 163 strm, aI cI kl 160 u4.1, aI cI b2 160 pb]) (W0 := [oK kq q2 ks ln gp ek kc km kd kl, aI cI kc 161 C, aI cI km 160 (upZ M i (↑u4.2.1)), aI cI kd 160 (upZ D i (↑u4.2.2)), oP q2 b2 o2 (↑n) (↑org) ent ed]) (wl2 := fun (u : Int × Int × Int) => [oK kq q2 ks ln gp ek kc km kd kl, aI cI ks 163 strm, aI cI kc 161 (upZ C i u.2.2), aI cI km 160 (upZ (upZ M i (↑u4.2.1)) i u.1), aI cI kd 160 (upZ (upZ D i (↑u4.2.2)) i u.2.1), aI cI kl 160 u4.1, oP q2 b2 o2 (↑n) (↑org) ent ed, aI cI b2 160 pb]) (As := [.int (iZ (↑i))]) (rest := []) hx hb hml hown hts hp (c_X1_chooseToken l G cI H.size kq ks kc km kd kl q2 b2 o2 (upZ M i (↑u4.2.1)) (upZ D i (↑u4.2.2)) C pb n org i u4.2.1 u4.2.2 ln gp ek ent ed (by omega) (by omega) (upZ_s _ _ _) (upZ_s _ _ _) (hq4.1) (hcb)) zPre_blind (z_pre hp [0, 2, 3, 4, 6] rfl (by decide) [.ref kq, .int (iZ (↑i))]) (cwV 1 hts gX1_refresh_X1_chooseToken rfl rfl rfl (by decide +kernel) ⟨Nat.le_of_ble_eq_true rfl, Nat.le_of_ble_eq_true rfl⟩) [0, 2, 3, 4, 6] [1, 5, 7] [3, 0, 4, 5, 6, 1, 7, 2] rfl rfl ⟨by decide, by decide, by decide⟩ (fun _ => rfl) 0 1 rfl rfl rfl rfl hl.1 rfl (Nat.le_of_ble_eq_true rfl) dX1_refresh_67 ⟨Nat.le_of_ble_eq_true rfl, Nat.le_of_ble_eq_true rfl⟩ (fun u5 H locs hq8 hp => ?_)
                have hq5 : PSi pb n C i u5.1 u5.2.1 u5.2.2 := hq8
                have hp := z_alike hp 3 rfl (upZ M i u5.1) (fun j _ => by rw [upZ_u]) (ws' := [oK kq q2 ks ln gp ek kc km kd kl, aI cI ks 163 strm, aI cI kc 161 (upZ C i u5.2.2), aI cI km 160 (upZ M i u5.1), aI cI kd 160 (upZ (upZ D i (↑u4.2.2)) i u5.2.1), aI cI kl 160 u4.1, oP q2 b2 o2 (↑n) (↑org) ent ed, aI cI b2 160 pb]) rfl
                have hp := z_alike hp 4 rfl (upZ D i u5.2.1) (fun j _ => by rw [upZ_u]) (ws' := [oK kq q2 ks ln gp ek kc km kd kl, aI cI ks 163 strm, aI cI kc 161 (upZ C i u5.2.2), aI cI km 160 (upZ M i u5.1), aI cI kd 160 (upZ D i u5.2.1), aI cI kl 160 u4.1, oP q2 b2 o2 (↑n) (↑org) ent ed, aI cI b2 160 pb]) rfl
                refine z_iinc (k := 0) (lv' := [(2, .int (iZ (↑i - 1))), (1, .int (iZ (↑n))), (0, .ref kq)]) hx hb (↑i - 1) (by omega) dX1_refresh_70 hl rfl (by decide) rfl (fun ls hl => ?_)
                refine lv_goto (tgt := 56) hx hb dX1_refresh_73 (by decide) ?_
                exact ih_lp4 i (upZ C i u5.2.2) (upZ M i u5.1) (upZ D i u5.2.1) u4.1 _ _ _ (by omega) (PS_add hP (by omega) hq5) (fun d h1 h2 => hq4.2 d h1 (by omega)) (by omega) hp (lv_sub hl [0, 1, 2] rfl)
          exact lp4 _ n (upZ cst n 1) mks dst (fun _ => 0) _ _ _ (by omega) (⟨upZ_s _ _ _, fun j h1 h2 => by omega⟩) (fun d h1 h2 => by rw [al_n]; rfl) (Nat.lt_succ_self _) hp (lv_sub hl [0, 1, 2] rfl)
        · skip
          refine lv_aload_n hx hb dX1_refresh_32 rfl (lv_at hl 2 rfl) ?_
          refine z_get hx hb hts hi1 hown hp 0 rfl rfl 8 (by decide) f31 rfl dX1_refresh_33 ?_
          refine lv_iload_n hx hb dX1_refresh_36 rfl (lv_at hl 0 rfl) ?_
          refine z_iconst hx hb dX1_refresh_37 ?_
          refine z_iast hx hb hp 5 rfl (i) (by omega) dX1_refresh_38 (ws' := [oK kq q2 ks ln gp ek kc km kd kl, aI cI ks 163 strm, aI cI kc 161 cst, aI cI km 160 mks, aI cI kd 160 dst, aI cI kl 160 (upZ f i 0), oP q2 b2 o2 (↑n) (↑org) ent ed, aI cI b2 160 pb]) rfl (fun H locs hp => ?_)
          refine z_iinc (k := 0) (lv' := [(2, .int (iZ (↑(i + 1)))), (1, .int (iZ (↑n))), (0, .ref kq)]) hx hb (↑(i + 1)) (by omega) dX1_refresh_39 hl rfl (by decide) rfl (fun ls hl => ?_)
          refine lv_goto (tgt := 25) hx hb dX1_refresh_42 (by decide) ?_
          exact ih_lp2 (i + 1) (upZ f i 0) _ _ _ (by omega) (fun j hj => by unfold upZ; split; rfl; exact hf j (by omega)) (by omega) hp (lv_sub hl [0, 1, 2] rfl)
    exact lp2 _ 0 lks _ _ _ (by omega) (fun j hj => absurd hj (Nat.not_lt_zero j)) (Nat.lt_succ_self _) hp (lv_sub hl [0, 1, 2] rfl)
  · skip
    obtain rfl : ek = ed := by omega
    exact hret _ _ _ _ _ _ (ln, gp, strm, cst, mks, dst, lks) (h_f rfl) hp dX1_refresh_14 (Nat.le_of_ble_eq_true rfl) (Nat.le_of_ble_eq_true rfl)
