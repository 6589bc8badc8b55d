abbrev rmX1_writeStream : Room := { frames := 1, cells := 0, slots := 0, locals := 80 }
set_option maxRecDepth 100000 in
set_option maxHeartbeats 20000000 in
theorem c_X1_writeStream (l : Launch) (G : va_G) (cI : ClassId) (sz : Nat) (kq ks kc km kd kl : Nat) (q2 b2 o2 : Nat) (strm mks dst pb C wrow : Nat → Int) (n org wr : Nat) (ln gp ek ent ed : Int) (wgp : Int) (h_n : n ≤ 160) (h_b : BB pb 160) (h_p : PS pb n C mks dst 0) (h_l : ln = C 0) (h_w : wst pb mks dst n (C 0) n 0 0 strm (max 0 (C 0 - ↑n)) = (wr, wrow, wgp)) : Met l yX1_writeStream wsX1_writeStream rmX1_writeStream (zPre G cI [oK kq q2 ks ln gp ek kc km kd kl, aI cI ks 163 strm, aI cI km 160 mks, aI cI kd 160 dst, oP q2 b2 o2 (↑n) (↑org) ent ed, aI cI b2 160 pb] sz [.ref kq]) (va_Qv (fun (u : Unit) => True) (fun (u : Unit) t => zB G cI (va_A [oK kq q2 ks ln gp ek kc km kd kl, aI cI ks 163 strm, aI cI km 160 mks, aI cI kd 160 dst, oP q2 b2 o2 (↑n) (↑org) ent ed, aI cI b2 160 pb] sz) [oK kq q2 ks ln wgp ek kc km kd kl, aI cI ks 163 (upZ wrow wr 0), aI cI km 160 mks, aI cI kd 160 dst, oP q2 b2 o2 (↑n) (↑org) ent ed, aI cI b2 160 pb] t) (va_A [oK kq q2 ks ln gp ek kc km kd kl, aI cI ks 163 strm, aI cI km 160 mks, aI cI kd 160 dst, oP q2 b2 o2 (↑n) (↑org) ent ed, aI cI b2 160 pb] sz)) 0 0 (va_A [oK kq q2 ks ln gp ek kc km kd kl, aI cI ks 163 strm, aI cI km 160 mks, aI cI kd 160 dst, oP q2 b2 o2 (↑n) (↑org) ent ed, aI cI b2 160 pb] sz) := by
  refine zm_v (W1 := fun (u : Unit) => [oK kq q2 ks ln wgp ek kc km kd kl, aI cI ks 163 (upZ wrow wr 0), aI cI km 160 mks, aI cI kd 160 dst, oP q2 b2 o2 (↑n) (↑org) ent ed, aI cI b2 160 pb]) (cc := cX1_writeStream) (maxL := 6) (by decide) rfl (Nat.le_of_ble_eq_true rfl) ?_
  intro p e s m args below meth c A Q ls hsz hx hb hml hown hts hnm hret hp hl
  have hl : lv_has ls 6 [(0, .ref kq)] := hl
  have hi1 : ∀ w ∈ wsX10, w ∈ wsX1_writeStream := fun w h => List.mem_cons_of_mem _ (List.mem_append_left _ (List.mem_append_right _ (h)))
  have f12 := hts (.fieldLink RX1 12 "SelfOpener$Packing" "program" "LSelfOpener$Program;") (List.mem_of_getElem? (i := 1) rfl)
  have hi2 : ∀ w ∈ wsX20, w ∈ wsX1_writeStream := fun w h => List.mem_cons_of_mem _ (List.mem_append_right _ (h))
  have f41 := hts (.fieldLink RX1 41 "SelfOpener$Program" "size" "I") (List.mem_of_getElem? (i := 2) rfl)
  have f64 := hts (.fieldLink RX1 64 "SelfOpener$Packing" "length" "I") (List.mem_of_getElem? (i := 3) rfl)
  have m79 := hts (.methodLink RX1 79 Lib.Math.max.name) (List.mem_of_getElem? (i := 4) rfl)
  have smax := hts (.static Lib.Math.max.name) (List.mem_of_getElem? (i := 5) rfl)
  have im := hts (.initialized "java/lang/Math") (List.mem_of_getElem? (i := 6) rfl)
  have cmax := hts (.code Lib.Math.max.name Lib.Math.max.code 2 (some .int)) (List.mem_of_getElem? (i := 7) rfl)
  have f44 := hts (.fieldLink RX1 44 "SelfOpener$Packing" "gap" "I") (List.mem_of_getElem? (i := 8) rfl)
  have f18 := hts (.fieldLink RX1 18 "SelfOpener$Packing" "stream" "[I") (List.mem_of_getElem? (i := 11) rfl)
  have f25 := hts (.fieldLink RX1 25 "SelfOpener$Packing" "makes" "[I") (List.mem_of_getElem? (i := 9) rfl)
  have f28 := hts (.fieldLink RX1 28 "SelfOpener$Packing" "distance" "[I") (List.mem_of_getElem? (i := 10) rfl)
  have f70 := hts (.fieldLink RX1 70 "SelfOpener$Program" "bytes" "[I") (List.mem_of_getElem? (i := 12) rfl)
  have m82 := hts (.methodLink RX1 82 arraycopyName) (List.mem_of_getElem? (i := 13) rfl)
  have na := hts (.native arraycopyName) (List.mem_of_getElem? (i := 14) rfl)
  have sa := hts (.static arraycopyName) (List.mem_of_getElem? (i := 15) rfl)
  have is := hts (.initialized "java/lang/System") (List.mem_of_getElem? (i := 16) rfl)
  subst h_l
  have hC := (PS_163 h_n h_p).1
  have hC1 := (PS_mo h_p (a := 0) (b := 0) (Nat.le_refl _) (Nat.le_refl _) (Nat.zero_le _)).1
  obtain ⟨R, hR0⟩ : ∃ z : Nat × (Nat → Int) × Int, z = (wr, wrow, wgp) := ⟨_, rfl⟩
  rw [← hR0] at h_w
  suffices hw : ∀ (H : Heap) (locs : List Loc), Hp G cI A s H locs [oK kq q2 ks (C 0) gp ek kc km kd kl, aI cI ks 163 strm, aI cI km 160 mks, aI cI kd 160 dst, oP q2 b2 o2 (↑n) (↑org) ent ed, aI cI b2 160 pb] → W p l e rmX1_writeStream s m args below meth c H locs 0 0 Q (F0 m 0 ls []) from hw _ _ hp
  clear hp; intro H locs hp
  refine lv_aload_n hx hb dX1_writeStream_0 rfl (lv_at hl 0 rfl) ?_
  refine z_get hx hb hts hi1 hown hp 0 rfl rfl 0 (by decide) f12 rfl dX1_writeStream_1 ?_
  refine z_get hx hb hts hi2 hown hp 4 rfl rfl 2 (by decide) f41 rfl dX1_writeStream_4 ?_
  refine lv_istore_n (lv' := [(1, .int (iZ (↑n))), (0, .ref kq)]) hx hb dX1_writeStream_7 rfl hl (by decide) rfl (fun ls hl => ?_)
  refine z_iconst hx hb dX1_writeStream_8 ?_
  refine lv_istore_n (lv' := [(2, .int (iZ (0))), (1, .int (iZ (↑n))), (0, .ref kq)]) hx hb dX1_writeStream_9 rfl hl (by decide) rfl (fun ls hl => ?_)
  refine z_iconst hx hb dX1_writeStream_10 ?_
  refine lv_istore_n (lv' := [(3, .int (iZ (0))), (2, .int (iZ (0))), (1, .int (iZ (↑n))), (0, .ref kq)]) hx hb dX1_writeStream_11 rfl hl (by decide) rfl (fun ls hl => ?_)
  refine lv_aload_n hx hb dX1_writeStream_12 rfl (lv_at hl 3 rfl) ?_
  refine z_iconst hx hb dX1_writeStream_13 ?_
  refine lv_aload_n hx hb dX1_writeStream_14 rfl (lv_at hl 3 rfl) ?_
  refine z_get hx hb hts hi1 hown hp 0 rfl rfl 2 (by decide) f64 rfl dX1_writeStream_15 ?_
  refine lv_iload_n hx hb dX1_writeStream_18 rfl (lv_at hl 2 rfl) ?_
  refine z_isub hx hb ((C 0) - (↑n)) (rfl) dX1_writeStream_19 ?_
  refine z_mmax hx hb (by rw [hml]; exact hl.1.symm) hown m79 smax im cmax (Nat.le_of_ble_eq_true rfl) (Nat.le_of_ble_eq_true rfl) (Nat.le_of_ble_eq_true rfl) (Nat.le_of_ble_eq_true rfl) (max 0 (C 0 - ↑n)) (by omega) (by omega) dX1_writeStream_20 ?_
  refine z_put hx hb hts hi1 tyX1 tyX1_ok nmX1 hown hp 0 rfl rfl 3 (by decide) f44 rfl (rfl) (rfl) (Nat.le_of_ble_eq_true rfl) dX1_writeStream_23 (ws' := [oK kq q2 ks (C 0) (max 0 (C 0 - ↑n)) ek kc km kd kl, aI cI ks 163 strm, aI cI km 160 mks, aI cI kd 160 dst, oP q2 b2 o2 (↑n) (↑org) ent ed, aI cI b2 160 pb]) rfl (fun H locs hp => ?_)
  refine z_iconst hx hb dX1_writeStream_26 ?_
  refine lv_istore (lv' := [(4, .int (iZ (0))), (3, .int (iZ (0))), (2, .int (iZ (0))), (1, .int (iZ (↑n))), (0, .ref kq)]) hx hb dX1_writeStream_27 hl (by decide) rfl (fun ls hl => ?_)
  have jn1 : ∀ (rd : Nat) (row : Nat → Int) (gp : Int) (H : Heap) (locs : List Loc) (ls : Array Slot), ((rd : Int) + 1 = C 0) → ((rd, row, gp) = R) → Hp G cI A s H locs [oK kq q2 ks (C 0) gp ek kc km kd kl, aI cI ks 163 row, aI cI km 160 mks, aI cI kd 160 dst, oP q2 b2 o2 (↑n) (↑org) ent ed, aI cI b2 160 pb] → lv_has ls 6 [(1, .int (iZ (↑n))), (0, .ref kq), (2, .int (iZ (↑rd)))] → W p l e rmX1_writeStream s m args below meth c H locs 0 0 Q (F0 m 155 ls []) := by
    intro rd row gp H locs ls hrd hR hp hl
    rw [hR0] at hR
    cases hR
    skip
    refine lv_aload_n hx hb dX1_writeStream_155 rfl (lv_at hl 1 rfl) ?_
    refine z_get hx hb hts hi1 hown hp 0 rfl rfl 1 (by decide) f18 rfl dX1_writeStream_156 ?_
    refine lv_iload_n hx hb dX1_writeStream_159 rfl (lv_at hl 2 rfl) ?_
    refine z_iconst hx hb dX1_writeStream_160 ?_
    refine z_iast hx hb hp 1 rfl (wr) (by omega) dX1_writeStream_161 (ws' := [oK kq q2 ks (C 0) wgp ek kc km kd kl, aI cI ks 163 (upZ wrow wr 0), aI cI km 160 mks, aI cI kd 160 dst, oP q2 b2 o2 (↑n) (↑org) ent ed, aI cI b2 160 pb]) rfl (fun H locs hp => ?_)
    exact hret _ _ _ _ _ _ () (trivial) hp dX1_writeStream_162 (Nat.le_of_ble_eq_true rfl) (Nat.le_of_ble_eq_true rfl)
  have lp4 : ∀ (N_lp4 : Nat) (f gr rd tk : Nat) (row : Nat → Int) (gp : Int) (H : Heap) (locs : List Loc) (ls : Array Slot), (gr ≤ n) → (tk ≤ gr) → (f + tk = n) → ((rd : Int) + C gr = C 0) → (0 ≤ gp ∧ gp ≤ 200) → (wst pb mks dst n (C 0) f gr rd row gp = R) → f < N_lp4 → Hp G cI A s H locs [oK kq q2 ks (C 0) gp ek kc km kd kl, aI cI ks 163 row, aI cI km 160 mks, aI cI kd 160 dst, oP q2 b2 o2 (↑n) (↑org) ent ed, aI cI b2 160 pb] → lv_has ls 6 [(4, .int (iZ (↑tk))), (2, .int (iZ (↑rd))), (3, .int (iZ (↑gr))), (1, .int (iZ (↑n))), (0, .ref kq)] → W p l e rmX1_writeStream s m args below meth c H locs 0 0 Q (F0 m 29 ls []) := by
    intro N_lp4
    induction N_lp4 with
    | zero => intros; exfalso; omega
    | succ N_lp4 ih_lp4 =>
      intro f gr rd tk row gp H locs ls hg1 hg2 hg3 hrd hgp hR hN hp hl
      refine lv_iload hx hb dX1_writeStream_29 (lv_at hl 0 rfl) ?_
      refine lv_iload_n hx hb dX1_writeStream_31 rfl (lv_at hl 3 rfl) ?_
      refine z_icmp_ge (tgt := 155) hx hb dX1_writeStream_32 (by decide) (by omega) (fun h5 => ?_) (fun h5 => ?_)
      · skip
        exact jn1 rd row gp _ _ _ (by rw [show gr = n by omega, h_p.1] at hrd; exact hrd) (by rw [wst_e (by omega)] at hR; exact hR) hp (lv_sub hl [3, 4, 1] rfl)
      · skip
        refine lv_iload_n hx hb dX1_writeStream_35 rfl (lv_at hl 2 rfl) ?_
        refine lv_iload_n hx hb dX1_writeStream_36 rfl (lv_at hl 3 rfl) ?_
        refine z_icmp_ge (tgt := 155) hx hb dX1_writeStream_37 (by decide) (by omega) (fun h6 => ?_) (fun h6 => ?_)
        · skip
          exact jn1 rd row gp _ _ _ (by rw [show gr = n by omega, h_p.1] at hrd; exact hrd) (by rw [wst_e (by omega)] at hR; exact hR) hp (lv_sub hl [3, 4, 1] rfl)
        · skip
          obtain ⟨f, rfl⟩ : ∃ f9, f = f9 + 1 := ⟨f - 1, by omega⟩
          obtain ⟨r1, r2, r3, r4, r5, r6, r7⟩ := PSi_r (by omega) (h_p.2 gr (by omega) (by omega))
          have hcn := (PS_mo h_p (a := gr + (mks gr).toNat) (b := n) (by omega) (by omega) (Nat.le_refl _)).2
          have hcn1 := h_p.1
          refine lv_aload_n hx hb dX1_writeStream_40 rfl (lv_at hl 4 rfl) ?_
          refine z_get hx hb hts hi1 hown hp 0 rfl rfl 6 (by decide) f25 rfl dX1_writeStream_41 ?_
          refine lv_iload_n hx hb dX1_writeStream_44 rfl (lv_at hl 2 rfl) ?_
          refine z_iald hx hb hp 2 rfl (gr) (by omega) dX1_writeStream_45 (mks gr) (rfl) ?_
          refine lv_istore (lv' := [(5, .int (iZ (mks gr))), (4, .int (iZ (↑tk))), (2, .int (iZ (↑rd))), (3, .int (iZ (↑gr))), (1, .int (iZ (↑n))), (0, .ref kq)]) hx hb dX1_writeStream_46 hl (by decide) rfl (fun ls hl => ?_)
          refine lv_aload_n hx hb dX1_writeStream_48 rfl (lv_at hl 5 rfl) ?_
          refine z_get hx hb hts hi1 hown hp 0 rfl rfl 7 (by decide) f28 rfl dX1_writeStream_49 ?_
          refine lv_iload_n hx hb dX1_writeStream_52 rfl (lv_at hl 3 rfl) ?_
          refine z_iald hx hb hp 3 rfl (gr) (by omega) dX1_writeStream_53 (dst gr) (rfl) ?_
          refine z_if_le (tgt := 88) hx hb dX1_writeStream_54 (by decide) (by omega) (fun h7 => ?_) (fun h7 => ?_)
          · skip
            have e6 := r6 (by omega)
            clear r6 r7
            refine lv_aload_n hx hb dX1_writeStream_88 rfl (lv_at hl 5 rfl) ?_
            refine z_get hx hb hts hi1 hown hp 0 rfl rfl 1 (by decide) f18 rfl dX1_writeStream_89 ?_
            refine lv_iload_n hx hb dX1_writeStream_92 rfl (lv_at hl 2 rfl) ?_
            refine lv_iload hx hb dX1_writeStream_93 (lv_at hl 0 rfl) ?_
            refine z_iast hx hb hp 1 rfl (rd) (by omega) dX1_writeStream_95 (ws' := [oK kq q2 ks (C 0) gp ek kc km kd kl, aI cI ks 163 (upZ row rd (mks gr)), aI cI km 160 mks, aI cI kd 160 dst, oP q2 b2 o2 (↑n) (↑org) ent ed, aI cI b2 160 pb]) rfl (fun H locs hp => ?_)
            refine lv_aload_n hx hb dX1_writeStream_96 rfl (lv_at hl 5 rfl) ?_
            refine z_get hx hb hts hi1 hown hp 0 rfl rfl 0 (by decide) f12 rfl dX1_writeStream_97 ?_
            refine z_get hx hb hts hi2 hown hp 4 rfl rfl 0 (by decide) f70 rfl dX1_writeStream_100 ?_
            refine lv_iload_n hx hb dX1_writeStream_103 rfl (lv_at hl 3 rfl) ?_
            refine lv_aload_n hx hb dX1_writeStream_104 rfl (lv_at hl 5 rfl) ?_
            refine z_get hx hb hts hi1 hown hp 0 rfl rfl 1 (by decide) f18 rfl dX1_writeStream_105 ?_
            refine lv_iload_n hx hb dX1_writeStream_108 rfl (lv_at hl 2 rfl) ?_
            refine z_iconst hx hb dX1_writeStream_109 ?_
            refine z_iadd hx hb ((↑rd) + 1) (rfl) dX1_writeStream_110 ?_
            refine lv_iload hx hb dX1_writeStream_111 (lv_at hl 0 rfl) ?_
            refine z_copy hx hb (by rw [hml]; exact hl.1.symm) hown m82 na sa is hp 5 1 rfl rfl (gr) (rd + 1) ((mks gr).toNat) (by omega) (by omega) (by omega) (by omega) (Nat.le_of_ble_eq_true rfl) (Nat.le_of_ble_eq_true rfl) dX1_writeStream_113 (ws' := [oK kq q2 ks (C 0) gp ek kc km kd kl, aI cI ks 163 (cpZ pb (upZ row rd (mks gr)) gr (rd + 1) ((mks gr).toNat)), aI cI km 160 mks, aI cI kd 160 dst, oP q2 b2 o2 (↑n) (↑org) ent ed, aI cI b2 160 pb]) rfl (fun H locs hp => ?_)
            refine lv_iload_n hx hb dX1_writeStream_116 rfl (lv_at hl 2 rfl) ?_
            refine z_iconst hx hb dX1_writeStream_117 ?_
            refine lv_iload hx hb dX1_writeStream_118 (lv_at hl 0 rfl) ?_
            refine z_iadd hx hb (1 + (mks gr)) (rfl) dX1_writeStream_120 ?_
            refine z_iadd hx hb (↑(rd + 1 + (mks gr).toNat)) (by omega) dX1_writeStream_121 ?_
            refine lv_istore_n (lv' := [(2, .int (iZ (↑(rd + 1 + (mks gr).toNat)))), (5, .int (iZ (mks gr))), (4, .int (iZ (↑tk))), (3, .int (iZ (↑gr))), (1, .int (iZ (↑n))), (0, .ref kq)]) hx hb dX1_writeStream_122 rfl hl (by decide) rfl (fun ls hl => ?_)
            refine lv_iload_n hx hb dX1_writeStream_123 rfl (lv_at hl 3 rfl) ?_
            refine lv_iload hx hb dX1_writeStream_124 (lv_at hl 1 rfl) ?_
            refine z_iadd hx hb (↑(gr + (mks gr).toNat)) (by omega) dX1_writeStream_126 ?_
            refine lv_istore_n (lv' := [(3, .int (iZ (↑(gr + (mks gr).toNat)))), (2, .int (iZ (↑(rd + 1 + (mks gr).toNat)))), (5, .int (iZ (mks gr))), (4, .int (iZ (↑tk))), (1, .int (iZ (↑n))), (0, .ref kq)]) hx hb dX1_writeStream_127 rfl hl (by decide) rfl (fun ls hl => ?_)
            refine lv_aload_n hx hb dX1_writeStream_128 rfl (lv_at hl 5 rfl) ?_
            refine lv_aload_n hx hb dX1_writeStream_129 rfl (lv_at hl 5 rfl) ?_
            refine z_get hx hb hts hi1 hown hp 0 rfl rfl 3 (by decide) f44 rfl dX1_writeStream_130 ?_
            refine lv_iload_n hx hb dX1_writeStream_133 rfl (lv_at hl 0 rfl) ?_
            refine lv_iload_n hx hb dX1_writeStream_134 rfl (lv_at hl 4 rfl) ?_
            refine z_isub hx hb ((↑(gr + (mks gr).toNat)) - (↑n)) (rfl) dX1_writeStream_135 ?_
            refine lv_aload_n hx hb dX1_writeStream_136 rfl (lv_at hl 5 rfl) ?_
            refine z_get hx hb hts hi1 hown hp 0 rfl rfl 2 (by decide) f64 rfl dX1_writeStream_137 ?_
            refine z_iadd hx hb (((↑(gr + (mks gr).toNat)) - (↑n)) + (C 0)) (rfl) dX1_writeStream_140 ?_
            refine lv_iload_n hx hb dX1_writeStream_141 rfl (lv_at hl 1 rfl) ?_
            refine z_isub hx hb ((((↑(gr + (mks gr).toNat)) - (↑n)) + (C 0)) - (↑(rd + 1 + (mks gr).toNat))) (rfl) dX1_writeStream_142 ?_
            refine z_mmax hx hb (by rw [hml]; exact hl.1.symm) hown m79 smax im cmax (Nat.le_of_ble_eq_true rfl) (Nat.le_of_ble_eq_true rfl) (Nat.le_of_ble_eq_true rfl) (Nat.le_of_ble_eq_true rfl) (max gp (↑gr + mks gr - ↑n + C 0 - (↑rd + 1 + mks gr))) (by omega) (by omega) dX1_writeStream_143 ?_
            refine z_put hx hb hts hi1 tyX1 tyX1_ok nmX1 hown hp 0 rfl rfl 3 (by decide) f44 rfl (rfl) (rfl) (Nat.le_of_ble_eq_true rfl) dX1_writeStream_146 (ws' := [oK kq q2 ks (C 0) (max gp (↑gr + mks gr - ↑n + C 0 - (↑rd + 1 + mks gr))) ek kc km kd kl, aI cI ks 163 (cpZ pb (upZ row rd (mks gr)) gr (rd + 1) ((mks gr).toNat)), aI cI km 160 mks, aI cI kd 160 dst, oP q2 b2 o2 (↑n) (↑org) ent ed, aI cI b2 160 pb]) rfl (fun H locs hp => ?_)
            refine z_iinc (k := 3) (lv' := [(4, .int (iZ (↑(tk + 1)))), (3, .int (iZ (↑(gr + (mks gr).toNat)))), (2, .int (iZ (↑(rd + 1 + (mks gr).toNat)))), (5, .int (iZ (mks gr))), (1, .int (iZ (↑n))), (0, .ref kq)]) hx hb (↑(tk + 1)) (by omega) dX1_writeStream_149 hl rfl (by decide) rfl (fun ls hl => ?_)
            refine lv_goto (tgt := 29) hx hb dX1_writeStream_152 (by decide) ?_
            exact ih_lp4 f (gr + (mks gr).toNat) (rd + 1 + (mks gr).toNat) (tk + 1) (cpZ pb (upZ row rd (mks gr)) gr (rd + 1) (mks gr).toNat) _ _ _ _ (by omega) (by omega) (by omega) (by omega) (by omega) (by rw [wst_r (by omega) (by omega)] at hR; exact hR) (by omega) hp (lv_sub hl [0, 2, 1, 4, 5] rfl)
          · skip
            have e7 := r7 (by omega)
            clear r6 r7
            refine lv_aload_n hx hb dX1_writeStream_57 rfl (lv_at hl 5 rfl) ?_
            refine z_get hx hb hts hi1 hown hp 0 rfl rfl 1 (by decide) f18 rfl dX1_writeStream_58 ?_
            refine lv_iload_n hx hb dX1_writeStream_61 rfl (lv_at hl 2 rfl) ?_
            refine lv_iload hx hb dX1_writeStream_62 (lv_at hl 0 rfl) ?_
            refine z_bipush hx hb dX1_writeStream_64 (by decide +kernel) ?_
            refine z_iadd hx hb ((mks gr) + 126) (rfl) dX1_writeStream_66 ?_
            refine z_iast hx hb hp 1 rfl (rd) (by omega) dX1_writeStream_67 (ws' := [oK kq q2 ks (C 0) gp ek kc km kd kl, aI cI ks 163 (upZ row rd ((mks gr) + 126)), aI cI km 160 mks, aI cI kd 160 dst, oP q2 b2 o2 (↑n) (↑org) ent ed, aI cI b2 160 pb]) rfl (fun H locs hp => ?_)
            refine lv_aload_n hx hb dX1_writeStream_68 rfl (lv_at hl 5 rfl) ?_
            refine z_get hx hb hts hi1 hown hp 0 rfl rfl 1 (by decide) f18 rfl dX1_writeStream_69 ?_
            refine lv_iload_n hx hb dX1_writeStream_72 rfl (lv_at hl 2 rfl) ?_
            refine z_iconst hx hb dX1_writeStream_73 ?_
            refine z_iadd hx hb ((↑rd) + 1) (rfl) dX1_writeStream_74 ?_
            refine lv_aload_n hx hb dX1_writeStream_75 rfl (lv_at hl 5 rfl) ?_
            refine z_get hx hb hts hi1 hown hp 0 rfl rfl 7 (by decide) f28 rfl dX1_writeStream_76 ?_
            refine lv_iload_n hx hb dX1_writeStream_79 rfl (lv_at hl 3 rfl) ?_
            refine z_iald hx hb hp 3 rfl (gr) (by omega) dX1_writeStream_80 (dst gr) (rfl) ?_
            refine z_iast hx hb hp 1 rfl (rd + 1) (by omega) dX1_writeStream_81 (ws' := [oK kq q2 ks (C 0) gp ek kc km kd kl, aI cI ks 163 (upZ (upZ row rd ((mks gr) + 126)) (rd + 1) (dst gr)), aI cI km 160 mks, aI cI kd 160 dst, oP q2 b2 o2 (↑n) (↑org) ent ed, aI cI b2 160 pb]) rfl (fun H locs hp => ?_)
            refine z_iinc (k := 2) (lv' := [(2, .int (iZ (↑(rd + 2)))), (5, .int (iZ (mks gr))), (4, .int (iZ (↑tk))), (3, .int (iZ (↑gr))), (1, .int (iZ (↑n))), (0, .ref kq)]) hx hb (↑(rd + 2)) (by omega) dX1_writeStream_82 hl rfl (by decide) rfl (fun ls hl => ?_)
            refine lv_goto (tgt := 123) hx hb dX1_writeStream_85 (by decide) ?_
            refine lv_iload_n hx hb dX1_writeStream_123 rfl (lv_at hl 3 rfl) ?_
            refine lv_iload hx hb dX1_writeStream_124 (lv_at hl 1 rfl) ?_
            refine z_iadd hx hb (↑(gr + (mks gr).toNat)) (by omega) dX1_writeStream_126 ?_
            refine lv_istore_n (lv' := [(3, .int (iZ (↑(gr + (mks gr).toNat)))), (2, .int (iZ (↑(rd + 2)))), (5, .int (iZ (mks gr))), (4, .int (iZ (↑tk))), (1, .int (iZ (↑n))), (0, .ref kq)]) hx hb dX1_writeStream_127 rfl hl (by decide) rfl (fun ls hl => ?_)
            refine lv_aload_n hx hb dX1_writeStream_128 rfl (lv_at hl 5 rfl) ?_
            refine lv_aload_n hx hb dX1_writeStream_129 rfl (lv_at hl 5 rfl) ?_
            refine z_get hx hb hts hi1 hown hp 0 rfl rfl 3 (by decide) f44 rfl dX1_writeStream_130 ?_
            refine lv_iload_n hx hb dX1_writeStream_133 rfl (lv_at hl 0 rfl) ?_
            refine lv_iload_n hx hb dX1_writeStream_134 rfl (lv_at hl 4 rfl) ?_
            refine z_isub hx hb ((↑(gr + (mks gr).toNat)) - (↑n)) (rfl) dX1_writeStream_135 ?_
            refine lv_aload_n hx hb dX1_writeStream_136 rfl (lv_at hl 5 rfl) ?_
            refine z_get hx hb hts hi1 hown hp 0 rfl rfl 2 (by decide) f64 rfl dX1_writeStream_137 ?_
            refine z_iadd hx hb (((↑(gr + (mks gr).toNat)) - (↑n)) + (C 0)) (rfl) dX1_writeStream_140 ?_
            refine lv_iload_n hx hb dX1_writeStream_141 rfl (lv_at hl 1 rfl) ?_
            refine z_isub hx hb ((((↑(gr + (mks gr).toNat)) - (↑n)) + (C 0)) - (↑(rd + 2))) (rfl) dX1_writeStream_142 ?_
            refine z_mmax hx hb (by rw [hml]; exact hl.1.symm) hown m79 smax im cmax (Nat.le_of_ble_eq_true rfl) (Nat.le_of_ble_eq_true rfl) (Nat.le_of_ble_eq_true rfl) (Nat.le_of_ble_eq_true rfl) (max gp (↑gr + mks gr - ↑n + C 0 - (↑rd + 2))) (by omega) (by omega) dX1_writeStream_143 ?_
            refine z_put hx hb hts hi1 tyX1 tyX1_ok nmX1 hown hp 0 rfl rfl 3 (by decide) f44 rfl (rfl) (rfl) (Nat.le_of_ble_eq_true rfl) dX1_writeStream_146 (ws' := [oK kq q2 ks (C 0) (max gp (↑gr + mks gr - ↑n + C 0 - (↑rd + 2))) ek kc km kd kl, aI cI ks 163 (upZ (upZ row rd ((mks gr) + 126)) (rd + 1) (dst gr)), aI cI km 160 mks, aI cI kd 160 dst, oP q2 b2 o2 (↑n) (↑org) ent ed, aI cI b2 160 pb]) rfl (fun H locs hp => ?_)
            refine z_iinc (k := 3) (lv' := [(4, .int (iZ (↑(tk + 1)))), (3, .int (iZ (↑(gr + (mks gr).toNat)))), (2, .int (iZ (↑(rd + 2)))), (5, .int (iZ (mks gr))), (1, .int (iZ (↑n))), (0, .ref kq)]) hx hb (↑(tk + 1)) (by omega) dX1_writeStream_149 hl rfl (by decide) rfl (fun ls hl => ?_)
            refine lv_goto (tgt := 29) hx hb dX1_writeStream_152 (by decide) ?_
            exact ih_lp4 f (gr + (mks gr).toNat) (rd + 2) (tk + 1) (upZ (upZ row rd (mks gr + 126)) (rd + 1) (dst gr)) _ _ _ _ (by omega) (by omega) (by omega) (by omega) (by omega) (by rw [wst_c (by omega) (by omega)] at hR; exact hR) (by omega) hp (lv_sub hl [0, 2, 1, 4, 5] rfl)
  exact lp4 _ n 0 0 0 strm (max 0 (C 0 - ((n : Nat) : Int))) _ _ _ (by omega) (by omega) (by omega) (by omega) (by omega) (h_w) (Nat.lt_succ_self _) hp (lv_sub hl [0, 2, 1, 3, 4] rfl)
