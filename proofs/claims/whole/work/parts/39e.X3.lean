abbrev rmX3_apart : Room := { frames := 7, cells := 1, slots := 6, locals := 160 }
set_option maxRecDepth 100000 in
set_option maxHeartbeats 4000000 in
theorem c_X3_apart (l : Launch) (G : va_G) (cI : ClassId) (t : Nat) (hst : l.stackTraces = false) (sz : Nat) (sq q0 : Nat) (kq ks kc km kd kl : Nat) (q2 b2 o2 : Nat) (strm cst mks dst lks pb : Nat → Int) (n org : Nat) (ln gp ek ent ed : Int) (a0 b0 c0 : Nat) (mem regs kept : Nat → Int) (pl st sp po : Int) (h_n : n ≤ 160) (h_b : BB pb 160) (h_e : rg ek ∧ rg ed) (h_f : ek = ed → Fresh pb n ln gp strm) (h_o : org < 256) (h_m : BB mem 256) : vx_Met l yX3_apart wsX3_apart rmX3_apart (zPreC t G cI [oS sq kq q2 q0, oK kq q2 ks ln gp ek kc km kd kl, aI cI ks 163 strm, aI cI kc 161 cst, aI cI km 160 mks, aI cI kd 160 dst, aI cI kl 160 lks, oP q2 b2 o2 (↑n) (↑org) ent ed, aI cI b2 160 pb, oM q0 a0 b0 c0 pl st sp po, aI cI a0 256 mem] sz [.ref sq]) (va_Qi (fun (r : Int32) (u : Int × Int × (Nat → Int) × (Nat → Int) × (Nat → Int) × (Nat → Int) × (Nat → Int)) => Fresh pb n u.1 u.2.1 u.2.2.1 ∧ (org + n ≤ 256 ∧ ↑org + ↑n + u.2.1 + 60 ≤ 256) ∧ r = iZ (apN mem (ldZ pb n org) (↑org + ↑n) (↑org + ↑n + u.2.1 + 60) 256)) (fun (u : Int × Int × (Nat → Int) × (Nat → Int) × (Nat → Int) × (Nat → Int) × (Nat → Int)) t => zB G cI (va_A [oS sq kq q2 q0, oK kq q2 ks ln gp ek kc km kd kl, aI cI ks 163 strm, aI cI kc 161 cst, aI cI km 160 mks, aI cI kd 160 dst, aI cI kl 160 lks, oP q2 b2 o2 (↑n) (↑org) ent ed, aI cI b2 160 pb, oM q0 a0 b0 c0 pl st sp po, aI cI a0 256 mem] sz) [oS sq kq q2 q0, oK kq q2 ks u.1 u.2.1 ed kc km kd kl, aI cI ks 163 u.2.2.1, aI cI kc 161 u.2.2.2.1, aI cI km 160 u.2.2.2.2.1, aI cI kd 160 u.2.2.2.2.2.1, aI cI kl 160 u.2.2.2.2.2.2, oP q2 b2 o2 (↑n) (↑org) ent ed, aI cI b2 160 pb, oM q0 a0 b0 c0 pl st sp po, aI cI a0 256 mem] t) (va_A [oS sq kq q2 q0, oK kq q2 ks ln gp ek kc km kd kl, aI cI ks 163 strm, aI cI kc 161 cst, aI cI km 160 mks, aI cI kd 160 dst, aI cI kl 160 lks, oP q2 b2 o2 (↑n) (↑org) ent ed, aI cI b2 160 pb, oM q0 a0 b0 c0 pl st sp po, aI cI a0 256 mem] sz)) (vx_X (fun _ => True) (fun X (u : Int × Int × Int × (Nat → Int) × (Nat → Int) × (Nat → Int) × (Nat → Int) × (Nat → Int)) t => ((u.1 = ek ∨ u.1 = ed) ∧ (u.1 = ed → Fresh pb n u.2.1 u.2.2.1 u.2.2.2.1) ∧ ((X = nIS ∧ ¬ org + n ≤ 256) ∨ (X = nUO ∧ org + n ≤ 256 ∧ u.1 = ed ∧ ¬ ↑org + ↑n + u.2.2.1 + 60 ≤ 256))) ∧ zB G cI (va_A [oS sq kq q2 q0, oK kq q2 ks ln gp ek kc km kd kl, aI cI ks 163 strm, aI cI kc 161 cst, aI cI km 160 mks, aI cI kd 160 dst, aI cI kl 160 lks, oP q2 b2 o2 (↑n) (↑org) ent ed, aI cI b2 160 pb, oM q0 a0 b0 c0 pl st sp po, aI cI a0 256 mem] sz) [oS sq kq q2 q0, oK kq q2 ks u.2.1 u.2.2.1 u.1 kc km kd kl, aI cI ks 163 u.2.2.2.1, aI cI kc 161 u.2.2.2.2.1, aI cI km 160 u.2.2.2.2.2.1, aI cI kd 160 u.2.2.2.2.2.2.1, aI cI kl 160 u.2.2.2.2.2.2.2, oP q2 b2 o2 (↑n) (↑org) ent ed, aI cI b2 160 pb, oM q0 a0 b0 c0 pl st sp po, aI cI a0 256 mem] t) (va_A [oS sq kq q2 q0, oK kq q2 ks ln gp ek kc km kd kl, aI cI ks 163 strm, aI cI kc 161 cst, aI cI km 160 mks, aI cI kd 160 dst, aI cI kl 160 lks, oP q2 b2 o2 (↑n) (↑org) ent ed, aI cI b2 160 pb, oM q0 a0 b0 c0 pl st sp po, aI cI a0 256 mem] sz)) 1 6 (va_A [oS sq kq q2 q0, oK kq q2 ks ln gp ek kc km kd kl, aI cI ks 163 strm, aI cI kc 161 cst, aI cI km 160 mks, aI cI kd 160 dst, aI cI kl 160 lks, oP q2 b2 o2 (↑n) (↑org) ent ed, aI cI b2 160 pb, oM q0 a0 b0 c0 pl st sp po, aI cI a0 256 mem] sz) := by
  refine zm_xi (W1 := fun (u : Int × Int × (Nat → Int) × (Nat → Int) × (Nat → Int) × (Nat → Int) × (Nat → Int)) => [oS sq kq q2 q0, oK kq q2 ks u.1 u.2.1 ed kc km kd kl, aI cI ks 163 u.2.2.1, aI cI kc 161 u.2.2.2.1, aI cI km 160 u.2.2.2.2.1, aI cI kd 160 u.2.2.2.2.2.1, aI cI kl 160 u.2.2.2.2.2.2, oP q2 b2 o2 (((n : Nat) : Int)) (((org : Nat) : Int)) ent ed, aI cI b2 160 pb, oM q0 a0 b0 c0 pl st sp po, aI cI a0 256 mem]) (WX := fun (u : Int × Int × Int × (Nat → Int) × (Nat → Int) × (Nat → Int) × (Nat → Int) × (Nat → Int)) => [oS sq kq q2 q0, oK kq q2 ks u.2.1 u.2.2.1 u.1 kc km kd kl, aI cI ks 163 u.2.2.2.1, aI cI kc 161 u.2.2.2.2.1, aI cI km 160 u.2.2.2.2.2.1, aI cI kd 160 u.2.2.2.2.2.2.1, aI cI kl 160 u.2.2.2.2.2.2.2, oP q2 b2 o2 (((n : Nat) : Int)) (((org : Nat) : Int)) ent ed, aI cI b2 160 pb, oM q0 a0 b0 c0 pl st sp po, aI cI a0 256 mem]) (cc := cX3_apart) (maxL := 6) (ty := .int) hst rfl rfl (by decide) rfl (Nat.le_of_ble_eq_true rfl) ?_
  intro p e s m args below meth c A Q ls hsz hx hb hml hown hts hC hret hthr hout hp hl
  have hl : lv_has ls 6 [(0, .ref sq)] := hl
  have hi3 : ∀ w ∈ wsX30, w ∈ wsX3_apart := fun w h => List.mem_cons_of_mem _ (List.mem_append_left _ (List.mem_append_left _ (List.mem_append_left _ (List.mem_append_left _ (List.mem_append_left _ (List.mem_append_right _ (h)))))))
  have f20 := hts (.fieldLink RX3 20 "SelfOpener" "program" "LSelfOpener$Program;") (List.mem_of_getElem? (i := 5) rfl)
  have f10 := hts (.fieldLink RX3 10 "SelfOpener" "packing" "LSelfOpener$Packing;") (List.mem_of_getElem? (i := 6) rfl)
  have hi2 : ∀ w ∈ wsX20, w ∈ wsX3_apart := fun w h => List.mem_cons_of_mem _ (List.mem_append_left _ (List.mem_append_left _ (List.mem_append_left _ (List.mem_append_left _ (List.mem_append_right _ (h))))))
  have f64 := hts (.fieldLink RX3 64 "SelfOpener$Program" "origin" "I") (List.mem_of_getElem? (i := 7) rfl)
  have f40 := hts (.fieldLink RX3 40 "SelfOpener$Program" "size" "I") (List.mem_of_getElem? (i := 8) rfl)
  have f24 := hts (.fieldLink RX3 24 "SelfOpener" "machine" "LSelfOpener$Machine;") (List.mem_of_getElem? (i := 9) rfl)
  have hi0 : ∀ w ∈ wsX00, w ∈ wsX3_apart := fun w h => List.mem_cons_of_mem _ (List.mem_append_left _ (List.mem_append_left _ (List.mem_append_left _ (List.mem_append_right _ (h)))))
  have f135 := hts (.fieldLink RX3 135 "SelfOpener$Machine" "memory" "[I") (List.mem_of_getElem? (i := 10) rfl)
  have l100 := hts (.classLink RX3 100 "java/lang/UnsupportedOperationException") (List.mem_of_getElem? (i := 3) rfl)
  have ini100 := hts (.initialized "java/lang/UnsupportedOperationException") (List.mem_of_getElem? (i := 4) rfl)
  have l89 := hts (.classLink RX3 89 "java/lang/IllegalStateException") (List.mem_of_getElem? (i := 1) rfl)
  have ini89 := hts (.initialized "java/lang/IllegalStateException") (List.mem_of_getElem? (i := 2) rfl)
  suffices hw : ∀ (H : Heap) (locs : List Loc), Hp G cI A s H locs [oS sq kq q2 q0, oK kq q2 ks ln gp ek kc km kd kl, aI cI ks 163 strm, aI cI kc 161 cst, aI cI km 160 mks, aI cI kd 160 dst, aI cI kl 160 lks, oP q2 b2 o2 (↑n) (↑org) ent ed, aI cI b2 160 pb, oM q0 a0 b0 c0 pl st sp po, aI cI a0 256 mem] → W p l e rmX3_apart s m args below meth c H locs 0 0 Q (F0 m 0 ls []) from hw _ _ hp
  clear hp; intro H locs hp
  refine lv_aload_n hx hb dX3_apart_0 rfl (lv_at hl 0 rfl) ?_
  refine z_get hx hb hts hi3 hown hp 0 rfl rfl 1 (by decide) f20 rfl dX3_apart_1 ?_
  refine zc_i (wr := [oS sq kq q2 q0, oK kq q2 ks ln gp ek kc km kd kl, aI cI ks 163 strm, aI cI kc 161 cst, aI cI km 160 mks, aI cI kd 160 dst, aI cI kl 160 lks, aI cI b2 160 pb, oM q0 a0 b0 c0 pl st sp po, aI cI a0 256 mem]) (W0 := [oP q2 b2 o2 (↑n) (↑org) ent ed]) (wl2 := fun (u : Unit) => [oS sq kq q2 q0, oK kq q2 ks ln gp ek kc km kd kl, aI cI ks 163 strm, aI cI kc 161 cst, aI cI km 160 mks, aI cI kd 160 dst, aI cI kl 160 lks, oP q2 b2 o2 (↑n) (↑org) ent ed, aI cI b2 160 pb, oM q0 a0 b0 c0 pl st sp po, aI cI a0 256 mem]) (As := []) (rest := []) hx hb hml hown hts hp (c_X2_fits l G cI H.size q2 b2 o2 n org ent ed (by omega) (by omega)) zPre_blind (z_pre hp [7] rfl (by decide) [.ref q2]) (cwV 0 hts gX3_apart_X2_fits rfl rfl rfl (by decide +kernel) ⟨Nat.le_of_ble_eq_true rfl, Nat.le_of_ble_eq_true rfl⟩) [7] [0, 1, 2, 3, 4, 5, 6, 8, 9, 10] [0, 1, 2, 3, 4, 5, 6, 10, 7, 8, 9] rfl rfl ⟨by decide, by decide, by decide⟩ (fun _ => rfl) 7 2 rfl rfl rfl rfl hl.1 rfl (Nat.le_of_ble_eq_true rfl) dX3_apart_4 ⟨Nat.le_of_ble_eq_true rfl, Nat.le_of_ble_eq_true rfl⟩ (fun rv u H locs hq1 hp => ?_)
  obtain rfl : rv = iZ (if org + n ≤ 256 then 1 else 0) := hq1
  refine z_if_ne (tgt := 18) hx hb dX3_apart_7 (by decide) (by omega) (fun h2 => ?_) (fun h2 => ?_)
  · skip
    refine lv_aload_n hx hb dX3_apart_18 rfl (lv_at hl 0 rfl) ?_
    refine z_get hx hb hts hi3 hown hp 0 rfl rfl 0 (by decide) f10 rfl dX3_apart_19 ?_
    refine zc_v (wr := [oS sq kq q2 q0, oM q0 a0 b0 c0 pl st sp po, aI cI a0 256 mem]) (W0 := [oK kq q2 ks ln gp ek kc km kd kl, aI cI ks 163 strm, aI cI kc 161 cst, aI cI km 160 mks, aI cI kd 160 dst, aI cI kl 160 lks, oP q2 b2 o2 (↑n) (↑org) ent ed, aI cI b2 160 pb]) (wl2 := fun (u : Int × Int × (Nat → Int) × (Nat → Int) × (Nat → Int) × (Nat → Int) × (Nat → Int)) => [oS sq kq q2 q0, oK kq q2 ks u.1 u.2.1 ed kc km kd kl, aI cI ks 163 u.2.2.1, aI cI kc 161 u.2.2.2.1, aI cI km 160 u.2.2.2.2.1, aI cI kd 160 u.2.2.2.2.2.1, aI cI kl 160 u.2.2.2.2.2.2, oP q2 b2 o2 (↑n) (↑org) ent ed, aI cI b2 160 pb, oM q0 a0 b0 c0 pl st sp po, aI cI a0 256 mem]) (As := []) (rest := []) hx hb hml hown hts hp (c_X1_refresh l G cI H.size kq ks kc km kd kl q2 b2 o2 strm cst mks dst lks pb n org ln gp ek ent ed (by omega) (h_b) (by omega) (h_f)) zPre_blind (z_pre hp [1, 2, 3, 4, 5, 6, 7, 8] rfl (by decide) [.ref kq]) (cwV 0 hts gX3_apart_X1_refresh rfl rfl rfl (by decide +kernel) ⟨Nat.le_of_ble_eq_true rfl, Nat.le_of_ble_eq_true rfl⟩) [1, 2, 3, 4, 5, 6, 7, 8] [0, 9, 10] [0, 3, 4, 5, 6, 7, 8, 9, 10, 1, 2] rfl rfl ⟨by decide, by decide, by decide⟩ (fun _ => rfl) 1 1 rfl rfl rfl rfl hl.1 rfl (Nat.le_of_ble_eq_true rfl) dX3_apart_22 ⟨Nat.le_of_ble_eq_true rfl, Nat.le_of_ble_eq_true rfl⟩ (fun u4 H locs hq3 hp => ?_)
    have hf : Fresh pb n u4.1 u4.2.1 u4.2.2.1 := hq3
    have hfb := Fresh_b h_n h_b hf
    have hfb1 := hfb.1
    have hfb2 := hfb.2.1
    refine lv_aload_n hx hb dX3_apart_25 rfl (lv_at hl 0 rfl) ?_
    refine z_get hx hb hts hi3 hown hp 0 rfl rfl 0 (by decide) f10 rfl dX3_apart_26 ?_
    refine zc_i (wr := [oS sq kq q2 q0, aI cI ks 163 u4.2.2.1, aI cI kc 161 u4.2.2.2.1, aI cI km 160 u4.2.2.2.2.1, aI cI kd 160 u4.2.2.2.2.2.1, aI cI kl 160 u4.2.2.2.2.2.2, aI cI b2 160 pb, oM q0 a0 b0 c0 pl st sp po, aI cI a0 256 mem]) (W0 := [oK kq q2 ks u4.1 u4.2.1 ed kc km kd kl, oP q2 b2 o2 (↑n) (↑org) ent ed]) (wl2 := fun (u : Unit) => [oS sq kq q2 q0, oK kq q2 ks u4.1 u4.2.1 ed kc km kd kl, aI cI ks 163 u4.2.2.1, aI cI kc 161 u4.2.2.2.1, aI cI km 160 u4.2.2.2.2.1, aI cI kd 160 u4.2.2.2.2.2.1, aI cI kl 160 u4.2.2.2.2.2.2, oP q2 b2 o2 (↑n) (↑org) ent ed, aI cI b2 160 pb, oM q0 a0 b0 c0 pl st sp po, aI cI a0 256 mem]) (As := []) (rest := []) hx hb hml hown hts hp (c_X1_fits l G cI H.size kq ks kc km kd kl q2 b2 o2 n org u4.1 u4.2.1 ed ent ed (by omega) (by omega) (by omega)) zPre_blind (z_pre hp [1, 7] rfl (by decide) [.ref kq]) (cwV 0 hts gX3_apart_X1_fits rfl rfl rfl (by decide +kernel) ⟨Nat.le_of_ble_eq_true rfl, Nat.le_of_ble_eq_true rfl⟩) [1, 7] [0, 2, 3, 4, 5, 6, 8, 9, 10] [0, 9, 1, 2, 3, 4, 5, 10, 6, 7, 8] rfl rfl ⟨by decide, by decide, by decide⟩ (fun _ => rfl) 1 1 rfl rfl rfl rfl hl.1 rfl (Nat.le_of_ble_eq_true rfl) dX3_apart_29 ⟨Nat.le_of_ble_eq_true rfl, Nat.le_of_ble_eq_true rfl⟩ (fun rv u H locs hq4 hp => ?_)
    obtain rfl : rv = iZ (if ↑org + ↑n + u4.2.1 + 60 ≤ 256 then 1 else 0) := hq4
    refine z_if_ne (tgt := 43) hx hb dX3_apart_32 (by decide) (by omega) (fun h5 => ?_) (fun h5 => ?_)
    · skip
      refine lv_aload_n hx hb dX3_apart_43 rfl (lv_at hl 0 rfl) ?_
      refine z_get hx hb hts hi3 hown hp 0 rfl rfl 1 (by decide) f20 rfl dX3_apart_44 ?_
      refine z_get hx hb hts hi2 hown hp 7 rfl rfl 3 (by decide) f64 rfl dX3_apart_47 ?_
      refine lv_aload_n hx hb dX3_apart_50 rfl (lv_at hl 0 rfl) ?_
      refine z_get hx hb hts hi3 hown hp 0 rfl rfl 1 (by decide) f20 rfl dX3_apart_51 ?_
      refine z_get hx hb hts hi2 hown hp 7 rfl rfl 2 (by decide) f40 rfl dX3_apart_54 ?_
      refine z_iadd hx hb ((↑org) + (↑n)) (rfl) dX3_apart_57 ?_
      refine lv_istore_n (lv' := [(1, .int (iZ ((↑org) + (↑n)))), (0, .ref sq)]) hx hb dX3_apart_58 rfl hl (by decide) rfl (fun ls hl => ?_)
      refine lv_aload_n hx hb dX3_apart_59 rfl (lv_at hl 1 rfl) ?_
      refine z_get hx hb hts hi3 hown hp 0 rfl rfl 0 (by decide) f10 rfl dX3_apart_60 ?_
      refine zc_i (wr := [oS sq kq q2 q0, aI cI ks 163 u4.2.2.1, aI cI kc 161 u4.2.2.2.1, aI cI km 160 u4.2.2.2.2.1, aI cI kd 160 u4.2.2.2.2.2.1, aI cI kl 160 u4.2.2.2.2.2.2, aI cI b2 160 pb, oM q0 a0 b0 c0 pl st sp po, aI cI a0 256 mem]) (W0 := [oK kq q2 ks u4.1 u4.2.1 ed kc km kd kl, oP q2 b2 o2 (↑n) (↑org) ent ed]) (wl2 := fun (u : Unit) => [oS sq kq q2 q0, oK kq q2 ks u4.1 u4.2.1 ed kc km kd kl, aI cI ks 163 u4.2.2.1, aI cI kc 161 u4.2.2.2.1, aI cI km 160 u4.2.2.2.2.1, aI cI kd 160 u4.2.2.2.2.2.1, aI cI kl 160 u4.2.2.2.2.2.2, oP q2 b2 o2 (↑n) (↑org) ent ed, aI cI b2 160 pb, oM q0 a0 b0 c0 pl st sp po, aI cI a0 256 mem]) (As := []) (rest := []) hx hb hml hown hts hp (c_X1_layoutEnd l G cI H.size kq ks kc km kd kl q2 b2 o2 n org u4.1 u4.2.1 ed ent ed (by omega) (by omega) (by omega)) zPre_blind (z_pre hp [1, 7] rfl (by decide) [.ref kq]) (cwV 0 hts gX3_apart_X1_layoutEnd rfl rfl rfl (by decide +kernel) ⟨Nat.le_of_ble_eq_true rfl, Nat.le_of_ble_eq_true rfl⟩) [1, 7] [0, 2, 3, 4, 5, 6, 8, 9, 10] [0, 9, 1, 2, 3, 4, 5, 10, 6, 7, 8] rfl rfl ⟨by decide, by decide, by decide⟩ (fun _ => rfl) 1 1 rfl rfl rfl rfl hl.1 rfl (Nat.le_of_ble_eq_true rfl) dX3_apart_63 ⟨Nat.le_of_ble_eq_true rfl, Nat.le_of_ble_eq_true rfl⟩ (fun rv u H locs hq6 hp => ?_)
      obtain rfl : rv = iZ (↑org + ↑n + u4.2.1 + 60) := hq6
      refine lv_istore_n (lv' := [(2, .int (iZ (↑org + ↑n + u4.2.1 + 60))), (1, .int (iZ ((↑org) + (↑n)))), (0, .ref sq)]) hx hb dX3_apart_66 rfl hl (by decide) rfl (fun ls hl => ?_)
      refine z_iconst hx hb dX3_apart_67 ?_
      refine lv_istore_n (lv' := [(3, .int (iZ (0))), (2, .int (iZ (↑org + ↑n + u4.2.1 + 60))), (1, .int (iZ ((↑org) + (↑n)))), (0, .ref sq)]) hx hb dX3_apart_68 rfl hl (by decide) rfl (fun ls hl => ?_)
      refine z_iconst hx hb dX3_apart_69 ?_
      refine lv_istore (lv' := [(4, .int (iZ (0))), (3, .int (iZ (0))), (2, .int (iZ (↑org + ↑n + u4.2.1 + 60))), (1, .int (iZ ((↑org) + (↑n)))), (0, .ref sq)]) hx hb dX3_apart_70 hl (by decide) rfl (fun ls hl => ?_)
      have lp7 : ∀ (N_lp7 : Nat) (i : Nat) (H : Heap) (locs : List Loc) (ls : Array Slot), (i ≤ 256) → (256 - i) < N_lp7 → Hp G cI A s H locs [oS sq kq q2 q0, oK kq q2 ks u4.1 u4.2.1 ed kc km kd kl, aI cI ks 163 u4.2.2.1, aI cI kc 161 u4.2.2.2.1, aI cI km 160 u4.2.2.2.2.1, aI cI kd 160 u4.2.2.2.2.2.1, aI cI kl 160 u4.2.2.2.2.2.2, oP q2 b2 o2 (↑n) (↑org) ent ed, aI cI b2 160 pb, oM q0 a0 b0 c0 pl st sp po, aI cI a0 256 mem] → lv_has ls 6 [(4, .int (iZ (↑i))), (3, .int (iZ (apN mem (ldZ pb n org) (↑org + ↑n) (↑org + ↑n + u4.2.1 + 60) i))), (2, .int (iZ (↑org + ↑n + u4.2.1 + 60))), (1, .int (iZ ((↑org) + (↑n)))), (0, .ref sq)] → W p l e rmX3_apart s m args below meth c H locs 0 0 Q (F0 m 72 ls []) := by
        intro N_lp7
        induction N_lp7 with
        | zero => intros; exfalso; omega
        | succ N_lp7 ih_lp7 =>
          intro i H locs ls hi hN hp hl
          have hap := apN_b mem (ldZ pb n org) (↑org + ↑n) (↑org + ↑n + u4.2.1 + 60) i
          refine lv_iload hx hb dX3_apart_72 (lv_at hl 0 rfl) ?_
          refine z_sipush hx hb dX3_apart_74 (by decide +kernel) ?_
          refine z_icmp_ge (tgt := 135) hx hb dX3_apart_77 (by decide) (by omega) (fun h8 => ?_) (fun h8 => ?_)
          · skip
            obtain rfl : i = 256 := by omega
            refine lv_iload_n hx hb dX3_apart_135 rfl (lv_at hl 1 rfl) ?_
            exact hret _ _ _ _ _ _ _ u4 (⟨hf, by omega, rfl⟩) hp dX3_apart_136 (rfl) (Nat.le_of_ble_eq_true rfl) (Nat.le_of_ble_eq_true rfl)
          · skip
            have hmb := h_m i (by omega)
            have hlb : 0 ≤ ldZ pb n org i ∧ ldZ pb n org i < 256 := by unfold ldZ; split; exact h_b _ (by omega); omega
            have hc1 := apN_s mem (ldZ pb n org) (↑org + ↑n) (↑org + ↑n + u4.2.1 + 60) i
            have jn9 : ∀ (v : Int) (H : Heap) (locs : List Loc) (ls : Array Slot), (v = if (i : Int) < ↑org + ↑n ∨ ↑org + ↑n + u4.2.1 + 60 ≤ i then 1 else 0) → Hp G cI A s H locs [oS sq kq q2 q0, oK kq q2 ks u4.1 u4.2.1 ed kc km kd kl, aI cI ks 163 u4.2.2.1, aI cI kc 161 u4.2.2.2.1, aI cI km 160 u4.2.2.2.2.1, aI cI kd 160 u4.2.2.2.2.2.1, aI cI kl 160 u4.2.2.2.2.2.2, oP q2 b2 o2 (↑n) (↑org) ent ed, aI cI b2 160 pb, oM q0 a0 b0 c0 pl st sp po, aI cI a0 256 mem] → lv_has ls 6 [(4, .int (iZ (↑i))), (3, .int (iZ (apN mem (ldZ pb n org) (↑org + ↑n) (↑org + ↑n + u4.2.1 + 60) i))), (2, .int (iZ (↑org + ↑n + u4.2.1 + 60))), (1, .int (iZ ((↑org) + (↑n)))), (0, .ref sq)] → W p l e rmX3_apart s m args below meth c H locs 0 0 Q (F0 m 97 ls [.int (iZ (v))]) := by
              intro v H locs ls hv hp hl
              refine lv_istore (lv' := [(5, .int (iZ (v))), (4, .int (iZ (↑i))), (3, .int (iZ (apN mem (ldZ pb n org) (↑org + ↑n) (↑org + ↑n + u4.2.1 + 60) i))), (2, .int (iZ (↑org + ↑n + u4.2.1 + 60))), (1, .int (iZ ((↑org) + (↑n)))), (0, .ref sq)]) hx hb dX3_apart_97 hl (by decide) rfl (fun ls hl => ?_)
              have jn11 : ∀ (v2 : Int) (H : Heap) (locs : List Loc) (ls : Array Slot), (v2 = apN mem (ldZ pb n org) (↑org + ↑n) (↑org + ↑n + u4.2.1 + 60) (i + 1)) → Hp G cI A s H locs [oS sq kq q2 q0, oK kq q2 ks u4.1 u4.2.1 ed kc km kd kl, aI cI ks 163 u4.2.2.1, aI cI kc 161 u4.2.2.2.1, aI cI km 160 u4.2.2.2.2.1, aI cI kd 160 u4.2.2.2.2.2.1, aI cI kl 160 u4.2.2.2.2.2.2, oP q2 b2 o2 (↑n) (↑org) ent ed, aI cI b2 160 pb, oM q0 a0 b0 c0 pl st sp po, aI cI a0 256 mem] → lv_has ls 6 [(0, .ref sq), (1, .int (iZ (↑org + ↑n))), (2, .int (iZ (↑org + ↑n + u4.2.1 + 60))), (4, .int (iZ (↑i))), (3, .int (iZ (v2)))] → W p l e rmX3_apart s m args below meth c H locs 0 0 Q (F0 m 129 ls []) := by
                intro v2 H locs ls hv2 hp hl
                refine z_iinc (k := 3) (lv' := [(4, .int (iZ (↑(i + 1)))), (0, .ref sq), (1, .int (iZ (↑org + ↑n))), (2, .int (iZ (↑org + ↑n + u4.2.1 + 60))), (3, .int (iZ (v2)))]) hx hb (↑(i + 1)) (by omega) dX3_apart_129 hl rfl (by decide) rfl (fun ls hl => ?_)
                subst hv2
                skip
                refine lv_goto (tgt := 72) hx hb dX3_apart_132 (by decide) ?_
                exact ih_lp7 (i + 1) _ _ _ (by omega) (by omega) hp (lv_sub hl [0, 4, 3, 2, 1] rfl)
              refine lv_iload hx hb dX3_apart_99 (lv_at hl 0 rfl) ?_
              refine z_if_eq (tgt := 129) hx hb dX3_apart_101 (by decide) (by omega) (fun h13 => ?_) (fun h13 => ?_)
              · skip
                exact jn11 (apN mem (ldZ pb n org) (((org : Nat) : Int) + ((n : Nat) : Int)) (((org : Nat) : Int) + ((n : Nat) : Int) + u4.2.1 + 60) i) _ _ _ (by rw [hc1]; split <;> omega) hp (lv_sub hl [5, 4, 3, 1, 2] rfl)
              · skip
                refine lv_aload_n hx hb dX3_apart_104 rfl (lv_at hl 5 rfl) ?_
                refine z_get hx hb hts hi3 hown hp 0 rfl rfl 2 (by decide) f24 rfl dX3_apart_105 ?_
                refine z_get hx hb hts hi0 hown hp 9 rfl rfl 0 (by decide) f135 rfl dX3_apart_108 ?_
                refine lv_iload hx hb dX3_apart_111 (lv_at hl 1 rfl) ?_
                refine z_iald hx hb hp 10 rfl (i) (by omega) dX3_apart_113 (mem i) (rfl) ?_
                refine lv_aload_n hx hb dX3_apart_114 rfl (lv_at hl 5 rfl) ?_
                refine z_get hx hb hts hi3 hown hp 0 rfl rfl 1 (by decide) f20 rfl dX3_apart_115 ?_
                refine lv_iload hx hb dX3_apart_118 (lv_at hl 1 rfl) ?_
                refine zc_i (wr := [oS sq kq q2 q0, oK kq q2 ks u4.1 u4.2.1 ed kc km kd kl, aI cI ks 163 u4.2.2.1, aI cI kc 161 u4.2.2.2.1, aI cI km 160 u4.2.2.2.2.1, aI cI kd 160 u4.2.2.2.2.2.1, aI cI kl 160 u4.2.2.2.2.2.2, oM q0 a0 b0 c0 pl st sp po, aI cI a0 256 mem]) (W0 := [oP q2 b2 o2 (↑n) (↑org) ent ed, aI cI b2 160 pb]) (wl2 := fun (u : Unit) => [oS sq kq q2 q0, oK kq q2 ks u4.1 u4.2.1 ed kc km kd kl, aI cI ks 163 u4.2.2.1, aI cI kc 161 u4.2.2.2.1, aI cI km 160 u4.2.2.2.2.1, aI cI kd 160 u4.2.2.2.2.2.1, aI cI kl 160 u4.2.2.2.2.2.2, oP q2 b2 o2 (↑n) (↑org) ent ed, aI cI b2 160 pb, oM q0 a0 b0 c0 pl st sp po, aI cI a0 256 mem]) (As := [.int (iZ (↑i))]) (rest := [.int (iZ (mem i))]) hx hb hml hown hts hp (c_X2_loadedAt l G cI H.size q2 b2 o2 pb n org ent ed i (by omega) (by omega) (by omega)) zPre_blind (z_pre hp [7, 8] rfl (by decide) [.ref q2, .int (iZ (↑i))]) (cwV 1 hts gX3_apart_X2_loadedAt rfl rfl rfl (by decide +kernel) ⟨Nat.le_of_ble_eq_true rfl, Nat.le_of_ble_eq_true rfl⟩) [7, 8] [0, 1, 2, 3, 4, 5, 6, 9, 10] [0, 1, 2, 3, 4, 5, 6, 9, 10, 7, 8] rfl rfl ⟨by decide, by decide, by decide⟩ (fun _ => rfl) 7 2 rfl rfl rfl rfl hl.1 rfl (Nat.le_of_ble_eq_true rfl) dX3_apart_120 ⟨Nat.le_of_ble_eq_true rfl, Nat.le_of_ble_eq_true rfl⟩ (fun rv u H locs hq14 hp => ?_)
                have hld : ldZ pb n org i = if org ≤ i ∧ i < org + n then pb (i - org) else 0 := rfl
                obtain rfl : rv = iZ (if org ≤ i ∧ i < org + n then pb (i - org) else 0) := hq14
                refine z_icmp_eq (tgt := 129) hx hb dX3_apart_123 (by decide) (by omega) (fun h15 => ?_) (fun h15 => ?_)
                · skip
                  exact jn11 (apN mem (ldZ pb n org) (((org : Nat) : Int) + ((n : Nat) : Int)) (((org : Nat) : Int) + ((n : Nat) : Int) + u4.2.1 + 60) i) _ _ _ (by rw [hc1]; split <;> omega) hp (lv_sub hl [5, 4, 3, 1, 2] rfl)
                · skip
                  refine z_iinc (k := 2) (lv' := [(3, .int (iZ (apN mem (ldZ pb n org) (↑org + ↑n) (↑org + ↑n + u4.2.1 + 60) i + 1))), (5, .int (iZ (v))), (4, .int (iZ (↑i))), (2, .int (iZ (↑org + ↑n + u4.2.1 + 60))), (1, .int (iZ ((↑org) + (↑n)))), (0, .ref sq)]) hx hb (apN mem (ldZ pb n org) (↑org + ↑n) (↑org + ↑n + u4.2.1 + 60) i + 1) (rfl) dX3_apart_126 hl rfl (by decide) rfl (fun ls hl => ?_)
                  exact jn11 (apN mem (ldZ pb n org) (((org : Nat) : Int) + ((n : Nat) : Int)) (((org : Nat) : Int) + ((n : Nat) : Int) + u4.2.1 + 60) i + 1) _ _ _ (by rw [hc1]; split <;> omega) hp (lv_sub hl [5, 4, 3, 2, 0] rfl)
            refine lv_iload hx hb dX3_apart_80 (lv_at hl 0 rfl) ?_
            refine lv_iload_n hx hb dX3_apart_82 rfl (lv_at hl 3 rfl) ?_
            refine z_icmp_lt (tgt := 92) hx hb dX3_apart_83 (by decide) (by omega) (fun h16 => ?_) (fun h16 => ?_)
            · skip
              refine z_iconst hx hb dX3_apart_92 ?_
              refine lv_goto (tgt := 97) hx hb dX3_apart_93 (by decide) ?_
              exact jn9 1 _ _ _ (by omega) hp (lv_sub hl [0, 1, 2, 3, 4] rfl)
            · skip
              refine lv_iload hx hb dX3_apart_86 (lv_at hl 0 rfl) ?_
              refine lv_iload_n hx hb dX3_apart_88 rfl (lv_at hl 2 rfl) ?_
              refine z_icmp_lt (tgt := 96) hx hb dX3_apart_89 (by decide) (by omega) (fun h17 => ?_) (fun h17 => ?_)
              · skip
                refine z_iconst hx hb dX3_apart_96 ?_
                exact jn9 0 _ _ _ (by omega) hp (lv_sub hl [0, 1, 2, 3, 4] rfl)
              · skip
                refine z_iconst hx hb dX3_apart_92 ?_
                refine lv_goto (tgt := 97) hx hb dX3_apart_93 (by decide) ?_
                exact jn9 1 _ _ _ (by omega) hp (lv_sub hl [0, 1, 2, 3, 4] rfl)
      exact lp7 _ 0 _ _ _ (by omega) (Nat.lt_succ_self _) hp (lv_sub hl [0, 1, 2, 3, 4] rfl)
    · skip
      exact hthr _ _ _ _ _ _ _ "java/lang/UnsupportedOperationException" 100 102 (ed, u4) (⟨Or.inr rfl, fun _ => hf, Or.inr ⟨rfl, by omega, rfl, by dsimp only; omega⟩⟩) hp hl.1 (by decide) l100 ini100 (fun w h => hts w (List.mem_cons_of_mem _ (List.mem_append_right _ (h)))) (by decide +kernel) (by decide +kernel) dX3_apart_35 dX3_apart_38 dX3_apart_39 dX3_apart_42 (Nat.le_of_ble_eq_true rfl) (Nat.le_of_ble_eq_true rfl) (Nat.le_of_ble_eq_true rfl) (Nat.le_of_ble_eq_true rfl) (Nat.le_of_ble_eq_true rfl)
  · skip
    exact hthr _ _ _ _ _ _ _ "java/lang/IllegalStateException" 89 91 (ek, ln, gp, strm, cst, mks, dst, lks) (⟨Or.inl rfl, h_f, Or.inl ⟨rfl, by omega⟩⟩) hp hl.1 (by decide) l89 ini89 (fun w h => hts w (List.mem_cons_of_mem _ (List.mem_append_left _ (List.mem_append_right _ (h))))) (by decide +kernel) (by decide +kernel) dX3_apart_10 dX3_apart_13 dX3_apart_14 dX3_apart_17 (Nat.le_of_ble_eq_true rfl) (Nat.le_of_ble_eq_true rfl) (Nat.le_of_ble_eq_true rfl) (Nat.le_of_ble_eq_true rfl) (Nat.le_of_ble_eq_true rfl)
