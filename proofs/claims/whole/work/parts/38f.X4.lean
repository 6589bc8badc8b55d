abbrev rmX4_apart : Room := { frames := 3, cells := 0, slots := 0, locals := 120 }
set_option maxRecDepth 100000 in
set_option maxHeartbeats 4000000 in
theorem c_X4_apart (l : Launch) (G : va_G) (cI : ClassId) (sz : Nat) (mq mp m1 m2 m3 m4 m5 m6 m7 m8 m9 : Nat) (n org : Nat) (th ent kn gp ln pl st sp po : Int) (pb strm cst tok dst rgt : Nat → Int) (mem : Nat → Int) (h_n : n ≤ 160) (h_b : BB pb 160) (h_kn : rg kn) (h_f : kn ≠ 0 → Fresh pb n ln gp strm) (h_o : org < 256) (h_m : BB mem 256) : Met l yX4_apart wsX4_apart rmX4_apart (zPre G cI [oR mq th (↑n) mp (↑org) ent kn gp ln m1 m2 m3 m4 m5 m6 m7 m8 pl st sp po m9, aI cI mp 160 pb, aI cI m1 400 strm, aI cI m2 161 cst, aI cI m3 161 tok, aI cI m4 161 dst, aI cI m5 161 rgt, aI cI m7 256 mem] sz [.ref mq]) (va_Qi (fun (r : Int32) (u : Int × Int × Int × Int × (Nat → Int) × (Nat → Int) × (Nat → Int) × (Nat → Int) × (Nat → Int)) => u.1 = (if ¬ (org + n ≤ 256) then 1 else if ¬ (↑org + ↑n + u.2.2.2.1 + 60 ≤ 256) then 2 else 0) ∧ rg u.2.1 ∧ (u.2.1 ≠ 0 → Fresh pb n u.2.2.1 u.2.2.2.1 u.2.2.2.2.1) ∧ (org + n ≤ 256 → u.2.1 ≠ 0) ∧ (u.1 = 0 → r = iZ (apN mem (ldZ pb n org) (↑org + ↑n) (↑org + ↑n + u.2.2.2.1 + 60) 256))) (fun (u : Int × Int × Int × Int × (Nat → Int) × (Nat → Int) × (Nat → Int) × (Nat → Int) × (Nat → Int)) t => zB G cI (va_A [oR mq th (↑n) mp (↑org) ent kn gp ln m1 m2 m3 m4 m5 m6 m7 m8 pl st sp po m9, aI cI mp 160 pb, aI cI m1 400 strm, aI cI m2 161 cst, aI cI m3 161 tok, aI cI m4 161 dst, aI cI m5 161 rgt, aI cI m7 256 mem] sz) [oR mq u.1 (↑n) mp (↑org) ent u.2.1 u.2.2.2.1 u.2.2.1 m1 m2 m3 m4 m5 m6 m7 m8 pl st sp po m9, aI cI mp 160 pb, aI cI m1 400 u.2.2.2.2.1, aI cI m2 161 u.2.2.2.2.2.1, aI cI m3 161 u.2.2.2.2.2.2.1, aI cI m4 161 u.2.2.2.2.2.2.2.1, aI cI m5 161 u.2.2.2.2.2.2.2.2, aI cI m7 256 mem] t) (va_A [oR mq th (↑n) mp (↑org) ent kn gp ln m1 m2 m3 m4 m5 m6 m7 m8 pl st sp po m9, aI cI mp 160 pb, aI cI m1 400 strm, aI cI m2 161 cst, aI cI m3 161 tok, aI cI m4 161 dst, aI cI m5 161 rgt, aI cI m7 256 mem] sz)) 0 0 (va_A [oR mq th (↑n) mp (↑org) ent kn gp ln m1 m2 m3 m4 m5 m6 m7 m8 pl st sp po m9, aI cI mp 160 pb, aI cI m1 400 strm, aI cI m2 161 cst, aI cI m3 161 tok, aI cI m4 161 dst, aI cI m5 161 rgt, aI cI m7 256 mem] sz) := by
  refine zm_i (W1 := fun (u : Int × Int × Int × Int × (Nat → Int) × (Nat → Int) × (Nat → Int) × (Nat → Int) × (Nat → Int)) => [oR mq u.1 (↑n) mp (↑org) ent u.2.1 u.2.2.2.1 u.2.2.1 m1 m2 m3 m4 m5 m6 m7 m8 pl st sp po m9, aI cI mp 160 pb, aI cI m1 400 u.2.2.2.2.1, aI cI m2 161 u.2.2.2.2.2.1, aI cI m3 161 u.2.2.2.2.2.2.1, aI cI m4 161 u.2.2.2.2.2.2.2.1, aI cI m5 161 u.2.2.2.2.2.2.2.2, aI cI m7 256 mem]) (cc := cX4_apart) (maxL := 6) (ty := .int) (by decide) rfl (Nat.le_of_ble_eq_true rfl) ?_
  intro p e s m args below meth c A Q ls hsz hx hb hml hown hts hret hp hl
  have hl : lv_has ls 6 [(0, .ref mq)] := hl
  have hi4 : ∀ w ∈ wsX40, w ∈ wsX4_apart := fun w h => List.mem_cons_of_mem _ (List.mem_append_right _ (h))
  have f44 := hts (.fieldLink RX4 44 "SelfOpenerModel" "thrown" "I") (List.mem_of_getElem? (i := 3) rfl)
  have f60 := hts (.fieldLink RX4 60 "SelfOpenerModel" "origin" "I") (List.mem_of_getElem? (i := 1) rfl)
  have f47 := hts (.fieldLink RX4 47 "SelfOpenerModel" "size" "I") (List.mem_of_getElem? (i := 2) rfl)
  have f31 := hts (.fieldLink RX4 31 "SelfOpenerModel" "memory" "[I") (List.mem_of_getElem? (i := 6) rfl)
  have f71 := hts (.fieldLink RX4 71 "SelfOpenerModel" "gap" "I") (List.mem_of_getElem? (i := 5) rfl)
  have f7 := hts (.fieldLink RX4 7 "SelfOpenerModel" "program" "[I") (List.mem_of_getElem? (i := 4) rfl)
  suffices hw : ∀ (H : Heap) (locs : List Loc), Hp G cI A s H locs [oR mq th (↑n) mp (↑org) ent kn gp ln m1 m2 m3 m4 m5 m6 m7 m8 pl st sp po m9, aI cI mp 160 pb, aI cI m1 400 strm, aI cI m2 161 cst, aI cI m3 161 tok, aI cI m4 161 dst, aI cI m5 161 rgt, aI cI m7 256 mem] → W p l e rmX4_apart s m args below meth c H locs 0 0 Q (F0 m 0 ls []) from hw _ _ hp
  clear hp; intro H locs hp
  refine lv_aload_n hx hb dX4_apart_0 rfl (lv_at hl 0 rfl) ?_
  have jn1 : ∀ (t : Int) (u4 : Int × Int × Int × (Nat → Int) × (Nat → Int) × (Nat → Int) × (Nat → Int) × (Nat → Int)) (H : Heap) (locs : List Loc) (ls : Array Slot), (t = (if ¬ (org + n ≤ 256) then 1 else if ¬ (↑org + ↑n + u4.2.2.1 + 60 ≤ 256) then 2 else 0)) → (rg u4.1) → (u4.1 ≠ 0 → Fresh pb n u4.2.1 u4.2.2.1 u4.2.2.2.1) → (org + n ≤ 256 → u4.1 ≠ 0) → Hp G cI A s H locs [oR mq th (↑n) mp (↑org) ent u4.1 u4.2.2.1 u4.2.1 m1 m2 m3 m4 m5 m6 m7 m8 pl st sp po m9, aI cI mp 160 pb, aI cI m1 400 u4.2.2.2.1, aI cI m2 161 u4.2.2.2.2.1, aI cI m3 161 u4.2.2.2.2.2.1, aI cI m4 161 u4.2.2.2.2.2.2.1, aI cI m5 161 u4.2.2.2.2.2.2.2, aI cI m7 256 mem] → lv_has ls 6 [(0, .ref mq)] → W p l e rmX4_apart s m args below meth c H locs 0 0 Q (F0 m 32 ls [.int (iZ (t)), .ref mq]) := by
    intro t u4 H locs ls ht hrg hfr hkn hp hl
    have htb : 0 ≤ t ∧ t ≤ 2 := by rw [ht]; (repeat' split) <;> omega
    refine z_put hx hb hts hi4 tyX4 tyX4_ok nmX4 hown hp 0 rfl rfl 0 (by decide) f44 rfl (rfl) (rfl) (Nat.le_of_ble_eq_true rfl) dX4_apart_32 (ws' := [oR mq t (↑n) mp (↑org) ent u4.1 u4.2.2.1 u4.2.1 m1 m2 m3 m4 m5 m6 m7 m8 pl st sp po m9, aI cI mp 160 pb, aI cI m1 400 u4.2.2.2.1, aI cI m2 161 u4.2.2.2.2.1, aI cI m3 161 u4.2.2.2.2.2.1, aI cI m4 161 u4.2.2.2.2.2.2.1, aI cI m5 161 u4.2.2.2.2.2.2.2, aI cI m7 256 mem]) rfl (fun H locs hp => ?_)
    refine lv_aload_n hx hb dX4_apart_35 rfl (lv_at hl 0 rfl) ?_
    refine z_get hx hb hts hi4 hown hp 0 rfl rfl 0 (by decide) f44 rfl dX4_apart_36 ?_
    refine z_if_le (tgt := 44) hx hb dX4_apart_39 (by decide) (by omega) (fun h6 => ?_) (fun h6 => ?_)
    · skip
      have hti : org + n ≤ 256 ∧ ↑org + ↑n + u4.2.2.1 + 60 ≤ 256 := by revert ht; (repeat' split) <;> omega
      have hpk2 := hfr (hkn hti.1)
      have hfb := Fresh_b h_n h_b hpk2
      have hfb1 := hfb.1
      have hfb2 := hfb.2.1
      refine z_iconst hx hb dX4_apart_44 ?_
      refine lv_istore_n (lv' := [(1, .int (iZ (0))), (0, .ref mq)]) hx hb dX4_apart_45 rfl hl (by decide) rfl (fun ls hl => ?_)
      refine lv_aload_n hx hb dX4_apart_46 rfl (lv_at hl 1 rfl) ?_
      refine z_get hx hb hts hi4 hown hp 0 rfl rfl 3 (by decide) f60 rfl dX4_apart_47 ?_
      refine lv_aload_n hx hb dX4_apart_50 rfl (lv_at hl 1 rfl) ?_
      refine z_get hx hb hts hi4 hown hp 0 rfl rfl 1 (by decide) f47 rfl dX4_apart_51 ?_
      refine z_iadd hx hb ((↑org) + (↑n)) (rfl) dX4_apart_54 ?_
      refine lv_istore_n (lv' := [(2, .int (iZ ((↑org) + (↑n)))), (1, .int (iZ (0))), (0, .ref mq)]) hx hb dX4_apart_55 rfl hl (by decide) rfl (fun ls hl => ?_)
      refine z_iconst hx hb dX4_apart_56 ?_
      refine lv_istore_n (lv' := [(3, .int (iZ (0))), (2, .int (iZ ((↑org) + (↑n)))), (1, .int (iZ (0))), (0, .ref mq)]) hx hb dX4_apart_57 rfl hl (by decide) rfl (fun ls hl => ?_)
      have lp7 : ∀ (N_lp7 : Nat) (i : Nat) (H : Heap) (locs : List Loc) (ls : Array Slot), (i ≤ 256) → (256 - i) < N_lp7 → Hp G cI A s H locs [oR mq t (↑n) mp (↑org) ent u4.1 u4.2.2.1 u4.2.1 m1 m2 m3 m4 m5 m6 m7 m8 pl st sp po m9, aI cI mp 160 pb, aI cI m1 400 u4.2.2.2.1, aI cI m2 161 u4.2.2.2.2.1, aI cI m3 161 u4.2.2.2.2.2.1, aI cI m4 161 u4.2.2.2.2.2.2.1, aI cI m5 161 u4.2.2.2.2.2.2.2, aI cI m7 256 mem] → lv_has ls 6 [(3, .int (iZ (↑i))), (1, .int (iZ (apN mem (ldZ pb n org) (↑org + ↑n) (↑org + ↑n + u4.2.2.1 + 60) i))), (2, .int (iZ ((↑org) + (↑n)))), (0, .ref mq)] → W p l e rmX4_apart s m args below meth c H locs 0 0 Q (F0 m 58 ls []) := by
        intro N_lp7
        induction N_lp7 with
        | zero => intros; exfalso; omega
        | succ N_lp7 ih_lp7 =>
          intro i H locs ls hi hN hp hl
          have hap := apN_b mem (ldZ pb n org) (↑org + ↑n) (↑org + ↑n + u4.2.2.1 + 60) i
          have hc1 := apN_s mem (ldZ pb n org) (↑org + ↑n) (↑org + ↑n + u4.2.2.1 + 60) i
          refine lv_iload_n hx hb dX4_apart_58 rfl (lv_at hl 0 rfl) ?_
          refine z_sipush hx hb dX4_apart_59 (by decide +kernel) ?_
          refine z_icmp_ge (tgt := 150) hx hb dX4_apart_62 (by decide) (by omega) (fun h8 => ?_) (fun h8 => ?_)
          · skip
            obtain rfl : i = 256 := by omega
            refine lv_iload_n hx hb dX4_apart_150 rfl (lv_at hl 1 rfl) ?_
            exact hret _ _ _ _ _ _ _ (t, u4) (⟨ht, hrg, hfr, hkn, fun _ => rfl⟩) hp dX4_apart_151 (rfl) (Nat.le_of_ble_eq_true rfl) (Nat.le_of_ble_eq_true rfl)
          · skip
            have hmb := h_m i (by omega)
            have hlb : 0 ≤ ldZ pb n org i ∧ ldZ pb n org i < 256 := by unfold ldZ; split; exact h_b _ (by omega); omega
            have jn9 : ∀ (du : Int) (H : Heap) (locs : List Loc) (ls : Array Slot), (du = ldZ pb n org i) → Hp G cI A s H locs [oR mq t (↑n) mp (↑org) ent u4.1 u4.2.2.1 u4.2.1 m1 m2 m3 m4 m5 m6 m7 m8 pl st sp po m9, aI cI mp 160 pb, aI cI m1 400 u4.2.2.2.1, aI cI m2 161 u4.2.2.2.2.1, aI cI m3 161 u4.2.2.2.2.2.1, aI cI m4 161 u4.2.2.2.2.2.2.1, aI cI m5 161 u4.2.2.2.2.2.2.2, aI cI m7 256 mem] → lv_has ls 6 [(3, .int (iZ (↑i))), (1, .int (iZ (apN mem (ldZ pb n org) (↑org + ↑n) (↑org + ↑n + u4.2.2.1 + 60) i))), (2, .int (iZ ((↑org) + (↑n)))), (0, .ref mq)] → W p l e rmX4_apart s m args below meth c H locs 0 0 Q (F0 m 93 ls [.int (iZ (du))]) := by
              intro du H locs ls hdu hp hl
              refine lv_istore (lv' := [(4, .int (iZ (du))), (3, .int (iZ (↑i))), (1, .int (iZ (apN mem (ldZ pb n org) (↑org + ↑n) (↑org + ↑n + u4.2.2.1 + 60) i))), (2, .int (iZ ((↑org) + (↑n)))), (0, .ref mq)]) hx hb dX4_apart_93 hl (by decide) rfl (fun ls hl => ?_)
              have jn11 : ∀ (v : Int) (H : Heap) (locs : List Loc) (ls : Array Slot), (v = if (i : Int) < ↑org + ↑n ∨ ↑org + ↑n + u4.2.2.1 + 60 ≤ i then 1 else 0) → Hp G cI A s H locs [oR mq t (↑n) mp (↑org) ent u4.1 u4.2.2.1 u4.2.1 m1 m2 m3 m4 m5 m6 m7 m8 pl st sp po m9, aI cI mp 160 pb, aI cI m1 400 u4.2.2.2.1, aI cI m2 161 u4.2.2.2.2.1, aI cI m3 161 u4.2.2.2.2.2.1, aI cI m4 161 u4.2.2.2.2.2.2.1, aI cI m5 161 u4.2.2.2.2.2.2.2, aI cI m7 256 mem] → lv_has ls 6 [(4, .int (iZ (du))), (3, .int (iZ (↑i))), (1, .int (iZ (apN mem (ldZ pb n org) (↑org + ↑n) (↑org + ↑n + u4.2.2.1 + 60) i))), (2, .int (iZ ((↑org) + (↑n)))), (0, .ref mq)] → W p l e rmX4_apart s m args below meth c H locs 0 0 Q (F0 m 118 ls [.int (iZ (v))]) := by
                intro v H locs ls hv hp hl
                refine lv_istore (lv' := [(5, .int (iZ (v))), (4, .int (iZ (du))), (3, .int (iZ (↑i))), (1, .int (iZ (apN mem (ldZ pb n org) (↑org + ↑n) (↑org + ↑n + u4.2.2.1 + 60) i))), (2, .int (iZ ((↑org) + (↑n)))), (0, .ref mq)]) hx hb dX4_apart_118 hl (by decide) rfl (fun ls hl => ?_)
                have jn13 : ∀ (v2 : Int) (H : Heap) (locs : List Loc) (ls : Array Slot), (v2 = apN mem (ldZ pb n org) (↑org + ↑n) (↑org + ↑n + u4.2.2.1 + 60) (i + 1)) → Hp G cI A s H locs [oR mq t (↑n) mp (↑org) ent u4.1 u4.2.2.1 u4.2.1 m1 m2 m3 m4 m5 m6 m7 m8 pl st sp po m9, aI cI mp 160 pb, aI cI m1 400 u4.2.2.2.1, aI cI m2 161 u4.2.2.2.2.1, aI cI m3 161 u4.2.2.2.2.2.1, aI cI m4 161 u4.2.2.2.2.2.2.1, aI cI m5 161 u4.2.2.2.2.2.2.2, aI cI m7 256 mem] → lv_has ls 6 [(0, .ref mq), (2, .int (iZ (↑org + ↑n))), (3, .int (iZ (↑i)))] → W p l e rmX4_apart s m args below meth c H locs 0 0 Q (F0 m 143 ls [.int (iZ (v2))]) := by
                  intro v2 H locs ls hv2 hp hl
                  subst hv2
                  refine z_top (apN mem (ldZ pb n org) (↑org + ↑n) (↑org + ↑n + u4.2.2.1 + 60) (i + 1)) (rfl) ?_
                  refine lv_istore_n (lv' := [(1, .int (iZ (apN mem (ldZ pb n org) (↑org + ↑n) (↑org + ↑n + u4.2.2.1 + 60) (i + 1)))), (0, .ref mq), (2, .int (iZ (↑org + ↑n))), (3, .int (iZ (↑i)))]) hx hb dX4_apart_143 rfl hl (by decide) rfl (fun ls hl => ?_)
                  refine z_iinc (k := 3) (lv' := [(3, .int (iZ (↑(i + 1)))), (1, .int (iZ (apN mem (ldZ pb n org) (↑org + ↑n) (↑org + ↑n + u4.2.2.1 + 60) (i + 1)))), (0, .ref mq), (2, .int (iZ (↑org + ↑n)))]) hx hb (↑(i + 1)) (by omega) dX4_apart_144 hl rfl (by decide) rfl (fun ls hl => ?_)
                  refine lv_goto (tgt := 58) hx hb dX4_apart_147 (by decide) ?_
                  exact ih_lp7 (i + 1) _ _ _ (by omega) (by omega) hp (lv_sub hl [0, 1, 3, 2] rfl)
                refine lv_iload hx hb dX4_apart_120 (lv_at hl 0 rfl) ?_
                refine z_if_eq (tgt := 142) hx hb dX4_apart_122 (by decide) (by omega) (fun h15 => ?_) (fun h15 => ?_)
                · skip
                  refine lv_iload_n hx hb dX4_apart_142 rfl (lv_at hl 3 rfl) ?_
                  exact jn13 (apN mem (ldZ pb n org) (((org : Nat) : Int) + ((n : Nat) : Int)) (((org : Nat) : Int) + ((n : Nat) : Int) + u4.2.2.1 + 60) i) _ _ _ (by rw [hc1]; split <;> omega) hp (lv_sub hl [5, 4, 2] rfl)
                · skip
                  refine lv_aload_n hx hb dX4_apart_125 rfl (lv_at hl 5 rfl) ?_
                  refine z_get hx hb hts hi4 hown hp 0 rfl rfl 14 (by decide) f31 rfl dX4_apart_126 ?_
                  refine lv_iload_n hx hb dX4_apart_129 rfl (lv_at hl 2 rfl) ?_
                  refine z_iald hx hb hp 7 rfl (i) (by omega) dX4_apart_130 (mem i) (rfl) ?_
                  refine lv_iload hx hb dX4_apart_131 (lv_at hl 1 rfl) ?_
                  refine z_icmp_eq (tgt := 142) hx hb dX4_apart_133 (by decide) (by omega) (fun h16 => ?_) (fun h16 => ?_)
                  · skip
                    refine lv_iload_n hx hb dX4_apart_142 rfl (lv_at hl 3 rfl) ?_
                    exact jn13 (apN mem (ldZ pb n org) (((org : Nat) : Int) + ((n : Nat) : Int)) (((org : Nat) : Int) + ((n : Nat) : Int) + u4.2.2.1 + 60) i) _ _ _ (by rw [hc1]; split <;> omega) hp (lv_sub hl [5, 4, 2] rfl)
                  · skip
                    refine lv_iload_n hx hb dX4_apart_136 rfl (lv_at hl 3 rfl) ?_
                    refine z_iconst hx hb dX4_apart_137 ?_
                    refine z_iadd hx hb ((apN mem (ldZ pb n org) (↑org + ↑n) (↑org + ↑n + u4.2.2.1 + 60) i) + 1) (rfl) dX4_apart_138 ?_
                    refine lv_goto (tgt := 143) hx hb dX4_apart_139 (by decide) ?_
                    exact jn13 ((apN mem (ldZ pb n org) (((org : Nat) : Int) + ((n : Nat) : Int)) (((org : Nat) : Int) + ((n : Nat) : Int) + u4.2.2.1 + 60) i) + 1) _ _ _ (by rw [hc1]; split <;> omega) hp (lv_sub hl [5, 4, 2] rfl)
              refine lv_iload_n hx hb dX4_apart_95 rfl (lv_at hl 1 rfl) ?_
              refine lv_iload_n hx hb dX4_apart_96 rfl (lv_at hl 3 rfl) ?_
              refine z_icmp_lt (tgt := 113) hx hb dX4_apart_97 (by decide) (by omega) (fun h17 => ?_) (fun h17 => ?_)
              · skip
                refine z_iconst hx hb dX4_apart_113 ?_
                refine lv_goto (tgt := 118) hx hb dX4_apart_114 (by decide) ?_
                exact jn11 1 _ _ _ (by omega) hp (lv_sub hl [0, 1, 2, 3, 4] rfl)
              · skip
                refine lv_iload_n hx hb dX4_apart_100 rfl (lv_at hl 1 rfl) ?_
                refine lv_iload_n hx hb dX4_apart_101 rfl (lv_at hl 3 rfl) ?_
                refine lv_aload_n hx hb dX4_apart_102 rfl (lv_at hl 4 rfl) ?_
                refine z_get hx hb hts hi4 hown hp 0 rfl rfl 6 (by decide) f71 rfl dX4_apart_103 ?_
                refine z_iadd hx hb (((↑org) + (↑n)) + u4.2.2.1) (rfl) dX4_apart_106 ?_
                refine z_bipush hx hb dX4_apart_107 (by decide +kernel) ?_
                refine z_iadd hx hb ((((↑org) + (↑n)) + u4.2.2.1) + 60) (rfl) dX4_apart_109 ?_
                refine z_icmp_lt (tgt := 117) hx hb dX4_apart_110 (by decide) (by omega) (fun h18 => ?_) (fun h18 => ?_)
                · skip
                  refine z_iconst hx hb dX4_apart_117 ?_
                  exact jn11 0 _ _ _ (by omega) hp (lv_sub hl [0, 1, 2, 3, 4] rfl)
                · skip
                  refine z_iconst hx hb dX4_apart_113 ?_
                  refine lv_goto (tgt := 118) hx hb dX4_apart_114 (by decide) ?_
                  exact jn11 1 _ _ _ (by omega) hp (lv_sub hl [0, 1, 2, 3, 4] rfl)
            refine lv_iload_n hx hb dX4_apart_65 rfl (lv_at hl 0 rfl) ?_
            refine lv_aload_n hx hb dX4_apart_66 rfl (lv_at hl 3 rfl) ?_
            refine z_get hx hb hts hi4 hown hp 0 rfl rfl 3 (by decide) f60 rfl dX4_apart_67 ?_
            refine z_icmp_lt (tgt := 92) hx hb dX4_apart_70 (by decide) (by omega) (fun h19 => ?_) (fun h19 => ?_)
            · skip
              refine z_iconst hx hb dX4_apart_92 ?_
              exact jn9 0 _ _ _ (by unfold ldZ; (repeat' split) <;> first | rfl | omega) hp (lv_sub hl [0, 1, 2, 3] rfl)
            · skip
              refine lv_iload_n hx hb dX4_apart_73 rfl (lv_at hl 0 rfl) ?_
              refine lv_iload_n hx hb dX4_apart_74 rfl (lv_at hl 2 rfl) ?_
              refine z_icmp_ge (tgt := 92) hx hb dX4_apart_75 (by decide) (by omega) (fun h20 => ?_) (fun h20 => ?_)
              · skip
                refine z_iconst hx hb dX4_apart_92 ?_
                exact jn9 0 _ _ _ (by unfold ldZ; (repeat' split) <;> first | rfl | omega) hp (lv_sub hl [0, 1, 2, 3] rfl)
              · skip
                refine lv_aload_n hx hb dX4_apart_78 rfl (lv_at hl 3 rfl) ?_
                refine z_get hx hb hts hi4 hown hp 0 rfl rfl 2 (by decide) f7 rfl dX4_apart_79 ?_
                refine lv_iload_n hx hb dX4_apart_82 rfl (lv_at hl 0 rfl) ?_
                refine lv_aload_n hx hb dX4_apart_83 rfl (lv_at hl 3 rfl) ?_
                refine z_get hx hb hts hi4 hown hp 0 rfl rfl 3 (by decide) f60 rfl dX4_apart_84 ?_
                refine z_isub hx hb ((↑i) - (↑org)) (rfl) dX4_apart_87 ?_
                refine z_iald hx hb hp 1 rfl (i - org) (by omega) dX4_apart_88 (pb (i - org)) (rfl) ?_
                refine lv_goto (tgt := 93) hx hb dX4_apart_89 (by decide) ?_
                exact jn9 (pb (i - org)) _ _ _ (by unfold ldZ; (repeat' split) <;> first | rfl | omega) hp (lv_sub hl [0, 1, 2, 3] rfl)
      exact lp7 _ 0 _ _ _ (by omega) (Nat.lt_succ_self _) hp (lv_sub hl [0, 2, 1, 3] rfl)
    · skip
      refine z_iconst hx hb dX4_apart_42 ?_
      exact hret _ _ _ _ _ _ _ (t, u4) (⟨ht, hrg, hfr, hkn, fun q => by dsimp only at q; omega⟩) hp dX4_apart_43 (rfl) (Nat.le_of_ble_eq_true rfl) (Nat.le_of_ble_eq_true rfl)
  refine lv_aload_n hx hb dX4_apart_1 rfl (lv_at hl 0 rfl) ?_
  refine z_get hx hb hts hi4 hown hp 0 rfl rfl 3 (by decide) f60 rfl dX4_apart_2 ?_
  refine lv_aload_n hx hb dX4_apart_5 rfl (lv_at hl 0 rfl) ?_
  refine z_get hx hb hts hi4 hown hp 0 rfl rfl 1 (by decide) f47 rfl dX4_apart_6 ?_
  refine z_iadd hx hb ((↑org) + (↑n)) (rfl) dX4_apart_9 ?_
  refine z_sipush hx hb dX4_apart_10 (by decide +kernel) ?_
  refine z_icmp_le (tgt := 20) hx hb dX4_apart_13 (by decide) (by omega) (fun h21 => ?_) (fun h21 => ?_)
  · skip
    refine lv_aload_n hx hb dX4_apart_20 rfl (lv_at hl 0 rfl) ?_
    refine zc_i (wr := [aI cI m7 256 mem]) (W0 := [oR mq th (↑n) mp (↑org) ent kn gp ln m1 m2 m3 m4 m5 m6 m7 m8 pl st sp po m9, aI cI mp 160 pb, aI cI m1 400 strm, aI cI m2 161 cst, aI cI m3 161 tok, aI cI m4 161 dst, aI cI m5 161 rgt]) (wl2 := fun (u : Int × Int × Int × (Nat → Int) × (Nat → Int) × (Nat → Int) × (Nat → Int) × (Nat → Int)) => [oR mq th (↑n) mp (↑org) ent u.1 u.2.2.1 u.2.1 m1 m2 m3 m4 m5 m6 m7 m8 pl st sp po m9, aI cI mp 160 pb, aI cI m1 400 u.2.2.2.1, aI cI m2 161 u.2.2.2.2.1, aI cI m3 161 u.2.2.2.2.2.1, aI cI m4 161 u.2.2.2.2.2.2.1, aI cI m5 161 u.2.2.2.2.2.2.2, aI cI m7 256 mem]) (As := []) (rest := [.ref mq]) hx hb hml hown hts hp (c_X4_isPackable l G cI H.size mq mp m1 m2 m3 m4 m5 m6 m7 m8 m9 n org th ent kn gp ln pl st sp po pb strm cst tok dst rgt (by omega) (h_b) (h_kn) (h_f) (by omega)) zPre_blind (z_pre hp [0, 1, 2, 3, 4, 5, 6] rfl (by decide) [.ref mq]) (cwV 0 hts gX4_apart_X4_isPackable rfl rfl rfl (by decide +kernel) ⟨Nat.le_of_ble_eq_true rfl, Nat.le_of_ble_eq_true rfl⟩) [0, 1, 2, 3, 4, 5, 6] [7] [1, 2, 3, 4, 5, 6, 7, 0] rfl rfl ⟨by decide, by decide, by decide⟩ (fun _ => rfl) 0 4 rfl rfl rfl rfl hl.1 rfl (Nat.le_of_ble_eq_true rfl) dX4_apart_21 ⟨Nat.le_of_ble_eq_true rfl, Nat.le_of_ble_eq_true rfl⟩ (fun rv u4 H locs hq22 hp => ?_)
    have hpk1 : u4.1 ≠ 0 ∧ rg u4.1 := hq22.1
    have hpk2 : Fresh pb n u4.2.1 u4.2.2.1 u4.2.2.2.1 := hq22.2.1
    have hfb := Fresh_b h_n h_b hpk2
    have hfb1 := hfb.1
    have hfb2 := hfb.2.1
    obtain rfl : rv = iZ (if ↑org + ↑n + u4.2.2.1 + 60 ≤ 256 then 1 else 0) := hq22.2.2
    refine z_if_ne (tgt := 31) hx hb dX4_apart_24 (by decide) (by omega) (fun h23 => ?_) (fun h23 => ?_)
    · skip
      refine z_iconst hx hb dX4_apart_31 ?_
      exact jn1 0 u4 _ _ _ (by (repeat' split) <;> omega) (hpk1.2) (fun _ => hpk2) (fun _ => hpk1.1) hp (lv_sub hl [0] rfl)
    · skip
      refine z_iconst hx hb dX4_apart_27 ?_
      refine lv_goto (tgt := 32) hx hb dX4_apart_28 (by decide) ?_
      exact jn1 2 u4 _ _ _ (by (repeat' split) <;> omega) (hpk1.2) (fun _ => hpk2) (fun _ => hpk1.1) hp (lv_sub hl [0] rfl)
  · skip
    refine z_iconst hx hb dX4_apart_16 ?_
    refine lv_goto (tgt := 32) hx hb dX4_apart_17 (by decide) ?_
    exact jn1 1 (kn, ln, gp, strm, cst, tok, dst, rgt) _ _ _ (by rw [if_pos (by omega)]) (h_kn) (h_f) (fun q => by omega) hp (lv_sub hl [0] rfl)
