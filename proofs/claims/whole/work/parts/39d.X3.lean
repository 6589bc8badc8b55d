abbrev rmX3_load : Room := { frames := 7, cells := 1, slots := 6, locals := 150 }
set_option maxRecDepth 100000 in
set_option maxHeartbeats 4000000 in
theorem c_X3_load (l : Launch) (G : va_G) (cI : ClassId) (t : Nat) (hst : l.stackTraces = false) (sz : Nat) (sq kq q2 q0 : Nat) (b2 o2 : Nat) (pb : Nat → Int) (n org : Nat) (ent ed : Int) (a0 b0 c0 : Nat) (mem regs kept : Nat → Int) (pl st sp po : Int) (h_n : n ≤ 160) (h_o : org < 256) : vx_Met l yX3_load wsX3_load rmX3_load (zPreC t G cI [oS sq kq q2 q0, oP q2 b2 o2 (↑n) (↑org) ent ed, aI cI b2 160 pb, oM q0 a0 b0 c0 pl st sp po, aI cI a0 256 mem, aI cI b0 8 regs, aI cI c0 32 kept] sz [.ref sq]) (va_Qv (fun (u : Unit) => org + n ≤ 256) (fun (u : Unit) t => zB G cI (va_A [oS sq kq q2 q0, oP q2 b2 o2 (↑n) (↑org) ent ed, aI cI b2 160 pb, oM q0 a0 b0 c0 pl st sp po, aI cI a0 256 mem, aI cI b0 8 regs, aI cI c0 32 kept] sz) [oS sq kq q2 q0, oP q2 b2 o2 (↑n) (↑org) ent ed, aI cI b2 160 pb, oM q0 a0 b0 c0 ent 0 0 0, aI cI a0 256 (cpZ pb (fun _ => 0) 0 org n), aI cI b0 8 (fun _ => 0), aI cI c0 32 kept] t) (va_A [oS sq kq q2 q0, oP q2 b2 o2 (↑n) (↑org) ent ed, aI cI b2 160 pb, oM q0 a0 b0 c0 pl st sp po, aI cI a0 256 mem, aI cI b0 8 regs, aI cI c0 32 kept] sz)) (vx_X (fun _ => True) (fun X (u : Unit) t => (X = nIS ∧ ¬ org + n ≤ 256) ∧ zB G cI (va_A [oS sq kq q2 q0, oP q2 b2 o2 (↑n) (↑org) ent ed, aI cI b2 160 pb, oM q0 a0 b0 c0 pl st sp po, aI cI a0 256 mem, aI cI b0 8 regs, aI cI c0 32 kept] sz) [oS sq kq q2 q0, oP q2 b2 o2 (↑n) (↑org) ent ed, aI cI b2 160 pb, oM q0 a0 b0 c0 pl st sp po, aI cI a0 256 mem, aI cI b0 8 regs, aI cI c0 32 kept] t) (va_A [oS sq kq q2 q0, oP q2 b2 o2 (↑n) (↑org) ent ed, aI cI b2 160 pb, oM q0 a0 b0 c0 pl st sp po, aI cI a0 256 mem, aI cI b0 8 regs, aI cI c0 32 kept] sz)) 1 6 (va_A [oS sq kq q2 q0, oP q2 b2 o2 (↑n) (↑org) ent ed, aI cI b2 160 pb, oM q0 a0 b0 c0 pl st sp po, aI cI a0 256 mem, aI cI b0 8 regs, aI cI c0 32 kept] sz) := by
  refine zm_xv (W1 := fun (u : Unit) => [oS sq kq q2 q0, oP q2 b2 o2 (((n : Nat) : Int)) (((org : Nat) : Int)) ent ed, aI cI b2 160 pb, oM q0 a0 b0 c0 ent 0 0 0, aI cI a0 256 (cpZ pb (fun _ => 0) 0 org n), aI cI b0 8 (fun _ => 0), aI cI c0 32 kept]) (WX := fun (u : Unit) => [oS sq kq q2 q0, oP q2 b2 o2 (((n : Nat) : Int)) (((org : Nat) : Int)) ent ed, aI cI b2 160 pb, oM q0 a0 b0 c0 pl st sp po, aI cI a0 256 mem, aI cI b0 8 regs, aI cI c0 32 kept]) (cc := cX3_load) (maxL := 1) hst rfl rfl (by decide) rfl (Nat.le_of_ble_eq_true rfl) ?_
  intro p e s m args below meth c A Q ls hsz hx hb hml hown hts hC hret hthr hout hp hl
  have hl : lv_has ls 1 [(0, .ref sq)] := hl
  have hi3 : ∀ w ∈ wsX30, w ∈ wsX3_load := fun w h => List.mem_cons_of_mem _ (List.mem_append_left _ (List.mem_append_left _ (List.mem_append_left _ (List.mem_append_right _ (h)))))
  have f20 := hts (.fieldLink RX3 20 "SelfOpener" "program" "LSelfOpener$Program;") (List.mem_of_getElem? (i := 3) rfl)
  have f24 := hts (.fieldLink RX3 24 "SelfOpener" "machine" "LSelfOpener$Machine;") (List.mem_of_getElem? (i := 4) rfl)
  have hi2 : ∀ w ∈ wsX20, w ∈ wsX3_load := fun w h => List.mem_cons_of_mem _ (List.mem_append_left _ (List.mem_append_left _ (List.mem_append_right _ (h))))
  have f67 := hts (.fieldLink RX3 67 "SelfOpener$Program" "entry" "I") (List.mem_of_getElem? (i := 5) rfl)
  have f64 := hts (.fieldLink RX3 64 "SelfOpener$Program" "origin" "I") (List.mem_of_getElem? (i := 6) rfl)
  have f44 := hts (.fieldLink RX3 44 "SelfOpener$Program" "bytes" "[I") (List.mem_of_getElem? (i := 7) rfl)
  have f40 := hts (.fieldLink RX3 40 "SelfOpener$Program" "size" "I") (List.mem_of_getElem? (i := 8) rfl)
  have l89 := hts (.classLink RX3 89 "java/lang/IllegalStateException") (List.mem_of_getElem? (i := 1) rfl)
  have ini89 := hts (.initialized "java/lang/IllegalStateException") (List.mem_of_getElem? (i := 2) rfl)
  suffices hw : ∀ (H : Heap) (locs : List Loc), Hp G cI A s H locs [oS sq kq q2 q0, oP q2 b2 o2 (↑n) (↑org) ent ed, aI cI b2 160 pb, oM q0 a0 b0 c0 pl st sp po, aI cI a0 256 mem, aI cI b0 8 regs, aI cI c0 32 kept] → W p l e rmX3_load s m args below meth c H locs 0 0 Q (F0 m 0 ls []) from hw _ _ hp
  clear hp; intro H locs hp
  refine lv_aload_n hx hb dX3_load_0 rfl (lv_at hl 0 rfl) ?_
  refine z_get hx hb hts hi3 hown hp 0 rfl rfl 1 (by decide) f20 rfl dX3_load_1 ?_
  refine zc_i (wr := [oS sq kq q2 q0, aI cI b2 160 pb, oM q0 a0 b0 c0 pl st sp po, aI cI a0 256 mem, aI cI b0 8 regs, aI cI c0 32 kept]) (W0 := [oP q2 b2 o2 (↑n) (↑org) ent ed]) (wl2 := fun (u : Unit) => [oS sq kq q2 q0, oP q2 b2 o2 (↑n) (↑org) ent ed, aI cI b2 160 pb, oM q0 a0 b0 c0 pl st sp po, aI cI a0 256 mem, aI cI b0 8 regs, aI cI c0 32 kept]) (As := []) (rest := []) hx hb hml hown hts hp (c_X2_fits l G cI H.size q2 b2 o2 n org ent ed (by omega) (by omega)) zPre_blind (z_pre hp [1] rfl (by decide) [.ref q2]) (cwV 0 hts gX3_load_X2_fits rfl rfl rfl (by decide +kernel) ⟨Nat.le_of_ble_eq_true rfl, Nat.le_of_ble_eq_true rfl⟩) [1] [0, 2, 3, 4, 5, 6] [0, 6, 1, 2, 3, 4, 5] rfl rfl ⟨by decide, by decide, by decide⟩ (fun _ => rfl) 1 2 rfl rfl rfl rfl hl.1 rfl (Nat.le_of_ble_eq_true rfl) dX3_load_4 ⟨Nat.le_of_ble_eq_true rfl, Nat.le_of_ble_eq_true rfl⟩ (fun rv u H locs hq1 hp => ?_)
  obtain rfl : rv = iZ (if org + n ≤ 256 then 1 else 0) := hq1
  refine z_if_ne (tgt := 18) hx hb dX3_load_7 (by decide) (by omega) (fun h2 => ?_) (fun h2 => ?_)
  · skip
    refine lv_aload_n hx hb dX3_load_18 rfl (lv_at hl 0 rfl) ?_
    refine z_get hx hb hts hi3 hown hp 0 rfl rfl 2 (by decide) f24 rfl dX3_load_19 ?_
    refine lv_aload_n hx hb dX3_load_22 rfl (lv_at hl 0 rfl) ?_
    refine z_get hx hb hts hi3 hown hp 0 rfl rfl 1 (by decide) f20 rfl dX3_load_23 ?_
    refine z_get hx hb hts hi2 hown hp 1 rfl rfl 4 (by decide) f67 rfl dX3_load_26 ?_
    refine zc_v (wr := [oS sq kq q2 q0, oP q2 b2 o2 (↑n) (↑org) ent ed, aI cI b2 160 pb]) (W0 := [oM q0 a0 b0 c0 pl st sp po, aI cI a0 256 mem, aI cI b0 8 regs, aI cI c0 32 kept]) (wl2 := fun (u : Unit) => [oS sq kq q2 q0, oP q2 b2 o2 (↑n) (↑org) ent ed, aI cI b2 160 pb, oM q0 a0 b0 c0 ent 0 0 0, aI cI a0 256 (fun _ => 0), aI cI b0 8 (fun _ => 0), aI cI c0 32 kept]) (As := [.int (iZ (ent))]) (rest := []) hx hb hml hown hts hp (c_X0_clear l G cI H.size q0 a0 b0 c0 mem regs kept pl st sp po ent) zPre_blind (z_pre hp [3, 4, 5, 6] rfl (by decide) [.ref q0, .int (iZ (ent))]) (cwV 1 hts gX3_load_X0_clear rfl rfl rfl (by decide +kernel) ⟨Nat.le_of_ble_eq_true rfl, Nat.le_of_ble_eq_true rfl⟩) [3, 4, 5, 6] [0, 1, 2] [0, 1, 2, 3, 4, 5, 6] rfl rfl ⟨by decide, by decide, by decide⟩ (fun _ => rfl) 3 0 rfl rfl rfl rfl hl.1 rfl (Nat.le_of_ble_eq_true rfl) dX3_load_29 ⟨Nat.le_of_ble_eq_true rfl, Nat.le_of_ble_eq_true rfl⟩ (fun u H locs hq3 hp => ?_)
    refine lv_aload_n hx hb dX3_load_32 rfl (lv_at hl 0 rfl) ?_
    refine z_get hx hb hts hi3 hown hp 0 rfl rfl 2 (by decide) f24 rfl dX3_load_33 ?_
    refine lv_aload_n hx hb dX3_load_36 rfl (lv_at hl 0 rfl) ?_
    refine z_get hx hb hts hi3 hown hp 0 rfl rfl 1 (by decide) f20 rfl dX3_load_37 ?_
    refine z_get hx hb hts hi2 hown hp 1 rfl rfl 3 (by decide) f64 rfl dX3_load_40 ?_
    refine lv_aload_n hx hb dX3_load_43 rfl (lv_at hl 0 rfl) ?_
    refine z_get hx hb hts hi3 hown hp 0 rfl rfl 1 (by decide) f20 rfl dX3_load_44 ?_
    refine z_get hx hb hts hi2 hown hp 1 rfl rfl 0 (by decide) f44 rfl dX3_load_47 ?_
    refine lv_aload_n hx hb dX3_load_50 rfl (lv_at hl 0 rfl) ?_
    refine z_get hx hb hts hi3 hown hp 0 rfl rfl 1 (by decide) f20 rfl dX3_load_51 ?_
    refine z_get hx hb hts hi2 hown hp 1 rfl rfl 2 (by decide) f40 rfl dX3_load_54 ?_
    refine zc_v (wr := [oS sq kq q2 q0, oP q2 b2 o2 (↑n) (↑org) ent ed, aI cI b0 8 (fun _ => 0), aI cI c0 32 kept]) (W0 := [oM q0 a0 b0 c0 ent 0 0 0, aI cI a0 256 (fun _ => 0), aI cI b2 160 pb]) (wl2 := fun (u : Unit) => [oS sq kq q2 q0, oP q2 b2 o2 (↑n) (↑org) ent ed, aI cI b2 160 pb, oM q0 a0 b0 c0 ent 0 0 0, aI cI a0 256 (cpZ pb (fun _ => 0) 0 org n), aI cI b0 8 (fun _ => 0), aI cI c0 32 kept]) (As := [.int (iZ (↑org)), .ref b2, .int (iZ (↑n))]) (rest := []) hx hb hml hown hts hp (c_X0_write l G cI H.size q0 a0 b0 c0 b2 160 org n (fun _ => 0) pb ent 0 0 0 (by omega) (by omega)) zPre_blind (z_pre hp [3, 4, 2] rfl (by decide) [.ref q0, .int (iZ (↑org)), .ref b2, .int (iZ (↑n))]) (cwV 3 hts gX3_load_X0_write rfl rfl rfl (by decide +kernel) ⟨Nat.le_of_ble_eq_true rfl, Nat.le_of_ble_eq_true rfl⟩) [3, 4, 2] [0, 1, 5, 6] [0, 1, 6, 4, 5, 2, 3] rfl rfl ⟨by decide, by decide, by decide⟩ (fun _ => rfl) 3 0 rfl rfl rfl rfl hl.1 rfl (Nat.le_of_ble_eq_true rfl) dX3_load_57 ⟨Nat.le_of_ble_eq_true rfl, Nat.le_of_ble_eq_true rfl⟩ (fun u H locs hq4 hp => ?_)
    exact hret _ _ _ _ _ _ () (by omega) hp dX3_load_60 (Nat.le_of_ble_eq_true rfl) (Nat.le_of_ble_eq_true rfl)
  · skip
    exact hthr _ _ _ _ _ _ _ "java/lang/IllegalStateException" 89 91 () (⟨rfl, by omega⟩) hp hl.1 (by decide) l89 ini89 (fun w h => hts w (List.mem_cons_of_mem _ (List.mem_append_right _ (h)))) (by decide +kernel) (by decide +kernel) dX3_load_10 dX3_load_13 dX3_load_14 dX3_load_17 (Nat.le_of_ble_eq_true rfl) (Nat.le_of_ble_eq_true rfl) (Nat.le_of_ble_eq_true rfl) (Nat.le_of_ble_eq_true rfl) (Nat.le_of_ble_eq_true rfl)
abbrev rmX3_loadPacked : Room := { frames := 7, cells := 1, slots := 6, locals := 160 }
set_option maxRecDepth 100000 in
set_option maxHeartbeats 4000000 in
theorem c_X3_loadPacked (l : Launch) (G : va_G) (cI : ClassId) (t : Nat) (hst : l.stackTraces = false) (sz : Nat) (sq q0 : Nat) (kq ks kc km kd kl : Nat) (q2 b2 o2 : Nat) (strm cst mks dst lks pb : Nat → Int) (n org : Nat) (ln gp ek ent ed : Int) (a0 b0 c0 : Nat) (mem regs kept : Nat → Int) (pl st sp po : Int) (h_n : n ≤ 160) (h_b : BB pb 160) (h_e : rg ek ∧ rg ed) (h_f : ek = ed → Fresh pb n ln gp strm) (h_o : org < 256) : vx_Met l yX3_loadPacked wsX3_loadPacked rmX3_loadPacked (zPreC t G cI [oS sq kq q2 q0, oK kq q2 ks ln gp ek kc km kd kl, aI cI ks 163 strm, aI cI kc 161 cst, aI cI km 160 mks, aI cI kd 160 dst, aI cI kl 160 lks, oP q2 b2 o2 (↑n) (↑org) ent ed, aI cI b2 160 pb, oM q0 a0 b0 c0 pl st sp po, aI cI a0 256 mem, aI cI b0 8 regs, aI cI c0 32 kept] sz [.ref sq]) (va_Qi (fun (r : Int32) (u : Int × Int × (Nat → Int) × (Nat → Int) × (Nat → Int) × (Nat → Int) × (Nat → Int)) => Fresh pb n u.1 u.2.1 u.2.2.1 ∧ ↑org + ↑n + u.2.1 + 60 ≤ 256 ∧ r = iZ (↑n + u.2.1 + 60)) (fun (u : Int × Int × (Nat → Int) × (Nat → Int) × (Nat → Int) × (Nat → Int) × (Nat → Int)) t => zB G cI (va_A [oS sq kq q2 q0, oK kq q2 ks ln gp ek kc km kd kl, aI cI ks 163 strm, aI cI kc 161 cst, aI cI km 160 mks, aI cI kd 160 dst, aI cI kl 160 lks, oP q2 b2 o2 (↑n) (↑org) ent ed, aI cI b2 160 pb, oM q0 a0 b0 c0 pl st sp po, aI cI a0 256 mem, aI cI b0 8 regs, aI cI c0 32 kept] sz) [oS sq kq q2 q0, oK kq q2 ks u.1 u.2.1 ed kc km kd kl, aI cI ks 163 u.2.2.1, aI cI kc 161 u.2.2.2.1, aI cI km 160 u.2.2.2.2.1, aI cI kd 160 u.2.2.2.2.2.1, aI cI kl 160 u.2.2.2.2.2.2, oP q2 b2 o2 (↑n) (↑org) ent ed, aI cI b2 160 pb, oM q0 a0 b0 c0 (↑(org + n + u.2.1.toNat)) 0 0 0, aI cI a0 256 (stubRow (cpZ u.2.2.1 (fun _ => 0) 0 (org + n + u.2.1.toNat - u.1.toNat) u.1.toNat) (org + n + u.2.1.toNat) (↑(org + n + u.2.1.toNat - u.1.toNat)) ↑org ent), aI cI b0 8 (fun _ => 0), aI cI c0 32 kept] t) (va_A [oS sq kq q2 q0, oK kq q2 ks ln gp ek kc km kd kl, aI cI ks 163 strm, aI cI kc 161 cst, aI cI km 160 mks, aI cI kd 160 dst, aI cI kl 160 lks, oP q2 b2 o2 (↑n) (↑org) ent ed, aI cI b2 160 pb, oM q0 a0 b0 c0 pl st sp po, aI cI a0 256 mem, aI cI b0 8 regs, aI cI c0 32 kept] sz)) (vx_X (fun _ => True) (fun X (u : Int × Int × (Nat → Int) × (Nat → Int) × (Nat → Int) × (Nat → Int) × (Nat → Int)) t => (X = nUO ∧ Fresh pb n u.1 u.2.1 u.2.2.1 ∧ ¬ ↑org + ↑n + u.2.1 + 60 ≤ 256) ∧ zB G cI (va_A [oS sq kq q2 q0, oK kq q2 ks ln gp ek kc km kd kl, aI cI ks 163 strm, aI cI kc 161 cst, aI cI km 160 mks, aI cI kd 160 dst, aI cI kl 160 lks, oP q2 b2 o2 (↑n) (↑org) ent ed, aI cI b2 160 pb, oM q0 a0 b0 c0 pl st sp po, aI cI a0 256 mem, aI cI b0 8 regs, aI cI c0 32 kept] sz) [oS sq kq q2 q0, oK kq q2 ks u.1 u.2.1 ed kc km kd kl, aI cI ks 163 u.2.2.1, aI cI kc 161 u.2.2.2.1, aI cI km 160 u.2.2.2.2.1, aI cI kd 160 u.2.2.2.2.2.1, aI cI kl 160 u.2.2.2.2.2.2, oP q2 b2 o2 (↑n) (↑org) ent ed, aI cI b2 160 pb, oM q0 a0 b0 c0 pl st sp po, aI cI a0 256 mem, aI cI b0 8 regs, aI cI c0 32 kept] t) (va_A [oS sq kq q2 q0, oK kq q2 ks ln gp ek kc km kd kl, aI cI ks 163 strm, aI cI kc 161 cst, aI cI km 160 mks, aI cI kd 160 dst, aI cI kl 160 lks, oP q2 b2 o2 (↑n) (↑org) ent ed, aI cI b2 160 pb, oM q0 a0 b0 c0 pl st sp po, aI cI a0 256 mem, aI cI b0 8 regs, aI cI c0 32 kept] sz)) 1 6 (va_A [oS sq kq q2 q0, oK kq q2 ks ln gp ek kc km kd kl, aI cI ks 163 strm, aI cI kc 161 cst, aI cI km 160 mks, aI cI kd 160 dst, aI cI kl 160 lks, oP q2 b2 o2 (↑n) (↑org) ent ed, aI cI b2 160 pb, oM q0 a0 b0 c0 pl st sp po, aI cI a0 256 mem, aI cI b0 8 regs, aI cI c0 32 kept] sz) := by
  refine zm_xi (W1 := fun (u : Int × Int × (Nat → Int) × (Nat → Int) × (Nat → Int) × (Nat → Int) × (Nat → Int)) => [oS sq kq q2 q0, oK kq q2 ks u.1 u.2.1 ed kc km kd kl, aI cI ks 163 u.2.2.1, aI cI kc 161 u.2.2.2.1, aI cI km 160 u.2.2.2.2.1, aI cI kd 160 u.2.2.2.2.2.1, aI cI kl 160 u.2.2.2.2.2.2, oP q2 b2 o2 (((n : Nat) : Int)) (((org : Nat) : Int)) ent ed, aI cI b2 160 pb, oM q0 a0 b0 c0 (((org + n + u.2.1.toNat : Nat) : Int)) 0 0 0, aI cI a0 256 (stubRow (cpZ u.2.2.1 (fun _ => 0) 0 (org + n + u.2.1.toNat - u.1.toNat) u.1.toNat) (org + n + u.2.1.toNat) (((org + n + u.2.1.toNat - u.1.toNat : Nat) : Int)) ((org : Nat) : Int) ent), aI cI b0 8 (fun _ => 0), aI cI c0 32 kept]) (WX := fun (u : Int × Int × (Nat → Int) × (Nat → Int) × (Nat → Int) × (Nat → Int) × (Nat → Int)) => [oS sq kq q2 q0, oK kq q2 ks u.1 u.2.1 ed kc km kd kl, aI cI ks 163 u.2.2.1, aI cI kc 161 u.2.2.2.1, aI cI km 160 u.2.2.2.2.1, aI cI kd 160 u.2.2.2.2.2.1, aI cI kl 160 u.2.2.2.2.2.2, oP q2 b2 o2 (((n : Nat) : Int)) (((org : Nat) : Int)) ent ed, aI cI b2 160 pb, oM q0 a0 b0 c0 pl st sp po, aI cI a0 256 mem, aI cI b0 8 regs, aI cI c0 32 kept]) (cc := cX3_loadPacked) (maxL := 3) (ty := .int) hst rfl rfl (by decide) rfl (Nat.le_of_ble_eq_true rfl) ?_
  intro p e s m args below meth c A Q ls hsz hx hb hml hown hts hC hret hthr hout hp hl
  have hl : lv_has ls 3 [(0, .ref sq)] := hl
  have hi3 : ∀ w ∈ wsX30, w ∈ wsX3_loadPacked := fun w h => List.mem_cons_of_mem _ (List.mem_append_left _ (List.mem_append_left _ (List.mem_append_left _ (List.mem_append_left _ (List.mem_append_right _ (h))))))
  have f10 := hts (.fieldLink RX3 10 "SelfOpener" "packing" "LSelfOpener$Packing;") (List.mem_of_getElem? (i := 3) rfl)
  have hi1 : ∀ w ∈ wsX10, w ∈ wsX3_loadPacked := fun w h => List.mem_cons_of_mem _ (List.mem_append_left _ (List.mem_append_left _ (List.mem_append_left _ (List.mem_append_right _ (h)))))
  have f73 := hts (.fieldLink RX3 73 "SelfOpener$Packing" "length" "I") (List.mem_of_getElem? (i := 4) rfl)
  have f24 := hts (.fieldLink RX3 24 "SelfOpener" "machine" "LSelfOpener$Machine;") (List.mem_of_getElem? (i := 5) rfl)
  have f76 := hts (.fieldLink RX3 76 "SelfOpener$Packing" "stream" "[I") (List.mem_of_getElem? (i := 6) rfl)
  have f20 := hts (.fieldLink RX3 20 "SelfOpener" "program" "LSelfOpener$Program;") (List.mem_of_getElem? (i := 7) rfl)
  have hi2 : ∀ w ∈ wsX20, w ∈ wsX3_loadPacked := fun w h => List.mem_cons_of_mem _ (List.mem_append_left _ (List.mem_append_left _ (List.mem_append_right _ (h))))
  have f64 := hts (.fieldLink RX3 64 "SelfOpener$Program" "origin" "I") (List.mem_of_getElem? (i := 8) rfl)
  have f67 := hts (.fieldLink RX3 67 "SelfOpener$Program" "entry" "I") (List.mem_of_getElem? (i := 9) rfl)
  have l100 := hts (.classLink RX3 100 "java/lang/UnsupportedOperationException") (List.mem_of_getElem? (i := 1) rfl)
  have ini100 := hts (.initialized "java/lang/UnsupportedOperationException") (List.mem_of_getElem? (i := 2) rfl)
  suffices hw : ∀ (H : Heap) (locs : List Loc), Hp G cI A s H locs [oS sq kq q2 q0, oK kq q2 ks ln gp ek kc km kd kl, aI cI ks 163 strm, aI cI kc 161 cst, aI cI km 160 mks, aI cI kd 160 dst, aI cI kl 160 lks, oP q2 b2 o2 (↑n) (↑org) ent ed, aI cI b2 160 pb, oM q0 a0 b0 c0 pl st sp po, aI cI a0 256 mem, aI cI b0 8 regs, aI cI c0 32 kept] → W p l e rmX3_loadPacked s m args below meth c H locs 0 0 Q (F0 m 0 ls []) from hw _ _ hp
  clear hp; intro H locs hp
  refine lv_aload_n hx hb dX3_loadPacked_0 rfl (lv_at hl 0 rfl) ?_
  refine z_get hx hb hts hi3 hown hp 0 rfl rfl 0 (by decide) f10 rfl dX3_loadPacked_1 ?_
  refine zc_v (wr := [oS sq kq q2 q0, oM q0 a0 b0 c0 pl st sp po, aI cI a0 256 mem, aI cI b0 8 regs, aI cI c0 32 kept]) (W0 := [oK kq q2 ks ln gp ek kc km kd kl, aI cI ks 163 strm, aI cI kc 161 cst, aI cI km 160 mks, aI cI kd 160 dst, aI cI kl 160 lks, oP q2 b2 o2 (↑n) (↑org) ent ed, aI cI b2 160 pb]) (wl2 := fun (u : Int × Int × (Nat → Int) × (Nat → Int) × (Nat → Int) × (Nat → Int) × (Nat → Int)) => [oS sq kq q2 q0, oK kq q2 ks u.1 u.2.1 ed kc km kd kl, aI cI ks 163 u.2.2.1, aI cI kc 161 u.2.2.2.1, aI cI km 160 u.2.2.2.2.1, aI cI kd 160 u.2.2.2.2.2.1, aI cI kl 160 u.2.2.2.2.2.2, oP q2 b2 o2 (↑n) (↑org) ent ed, aI cI b2 160 pb, oM q0 a0 b0 c0 pl st sp po, aI cI a0 256 mem, aI cI b0 8 regs, aI cI c0 32 kept]) (As := []) (rest := []) hx hb hml hown hts hp (c_X1_refresh l G cI H.size kq ks kc km kd kl q2 b2 o2 strm cst mks dst lks pb n org ln gp ek ent ed (by omega) (h_b) (by omega) (h_f)) zPre_blind (z_pre hp [1, 2, 3, 4, 5, 6, 7, 8] rfl (by decide) [.ref kq]) (cwV 0 hts gX3_loadPacked_X1_refresh rfl rfl rfl (by decide +kernel) ⟨Nat.le_of_ble_eq_true rfl, Nat.le_of_ble_eq_true rfl⟩) [1, 2, 3, 4, 5, 6, 7, 8] [0, 9, 10, 11, 12] [0, 5, 6, 7, 8, 9, 10, 11, 12, 1, 2, 3, 4] rfl rfl ⟨by decide, by decide, by decide⟩ (fun _ => rfl) 1 1 rfl rfl rfl rfl hl.1 rfl (Nat.le_of_ble_eq_true rfl) dX3_loadPacked_4 ⟨Nat.le_of_ble_eq_true rfl, Nat.le_of_ble_eq_true rfl⟩ (fun u4 H locs hq1 hp => ?_)
  have hf : Fresh pb n u4.1 u4.2.1 u4.2.2.1 := hq1
  have hfb := Fresh_b h_n h_b hf
  have hfb1 := hfb.1
  have hfb2 := hfb.2.1
  refine lv_aload_n hx hb dX3_loadPacked_7 rfl (lv_at hl 0 rfl) ?_
  refine z_get hx hb hts hi3 hown hp 0 rfl rfl 0 (by decide) f10 rfl dX3_loadPacked_8 ?_
  refine zc_i (wr := [oS sq kq q2 q0, aI cI ks 163 u4.2.2.1, aI cI kc 161 u4.2.2.2.1, aI cI km 160 u4.2.2.2.2.1, aI cI kd 160 u4.2.2.2.2.2.1, aI cI kl 160 u4.2.2.2.2.2.2, aI cI b2 160 pb, oM q0 a0 b0 c0 pl st sp po, aI cI a0 256 mem, aI cI b0 8 regs, aI cI c0 32 kept]) (W0 := [oK kq q2 ks u4.1 u4.2.1 ed kc km kd kl, oP q2 b2 o2 (↑n) (↑org) ent ed]) (wl2 := fun (u : Unit) => [oS sq kq q2 q0, oK kq q2 ks u4.1 u4.2.1 ed kc km kd kl, aI cI ks 163 u4.2.2.1, aI cI kc 161 u4.2.2.2.1, aI cI km 160 u4.2.2.2.2.1, aI cI kd 160 u4.2.2.2.2.2.1, aI cI kl 160 u4.2.2.2.2.2.2, oP q2 b2 o2 (↑n) (↑org) ent ed, aI cI b2 160 pb, oM q0 a0 b0 c0 pl st sp po, aI cI a0 256 mem, aI cI b0 8 regs, aI cI c0 32 kept]) (As := []) (rest := []) hx hb hml hown hts hp (c_X1_fits l G cI H.size kq ks kc km kd kl q2 b2 o2 n org u4.1 u4.2.1 ed ent ed (by omega) (by omega) (by omega)) zPre_blind (z_pre hp [1, 7] rfl (by decide) [.ref kq]) (cwV 0 hts gX3_loadPacked_X1_fits rfl rfl rfl (by decide +kernel) ⟨Nat.le_of_ble_eq_true rfl, Nat.le_of_ble_eq_true rfl⟩) [1, 7] [0, 2, 3, 4, 5, 6, 8, 9, 10, 11, 12] [0, 11, 1, 2, 3, 4, 5, 12, 6, 7, 8, 9, 10] rfl rfl ⟨by decide, by decide, by decide⟩ (fun _ => rfl) 1 1 rfl rfl rfl rfl hl.1 rfl (Nat.le_of_ble_eq_true rfl) dX3_loadPacked_11 ⟨Nat.le_of_ble_eq_true rfl, Nat.le_of_ble_eq_true rfl⟩ (fun rv u H locs hq2 hp => ?_)
  obtain rfl : rv = iZ (if ↑org + ↑n + u4.2.1 + 60 ≤ 256 then 1 else 0) := hq2
  refine z_if_ne (tgt := 25) hx hb dX3_loadPacked_14 (by decide) (by omega) (fun h3 => ?_) (fun h3 => ?_)
  · skip
    refine lv_aload_n hx hb dX3_loadPacked_25 rfl (lv_at hl 0 rfl) ?_
    refine z_get hx hb hts hi3 hown hp 0 rfl rfl 0 (by decide) f10 rfl dX3_loadPacked_26 ?_
    refine zc_i (wr := [oS sq kq q2 q0, aI cI ks 163 u4.2.2.1, aI cI kc 161 u4.2.2.2.1, aI cI km 160 u4.2.2.2.2.1, aI cI kd 160 u4.2.2.2.2.2.1, aI cI kl 160 u4.2.2.2.2.2.2, aI cI b2 160 pb, oM q0 a0 b0 c0 pl st sp po, aI cI a0 256 mem, aI cI b0 8 regs, aI cI c0 32 kept]) (W0 := [oK kq q2 ks u4.1 u4.2.1 ed kc km kd kl, oP q2 b2 o2 (↑n) (↑org) ent ed]) (wl2 := fun (u : Unit) => [oS sq kq q2 q0, oK kq q2 ks u4.1 u4.2.1 ed kc km kd kl, aI cI ks 163 u4.2.2.1, aI cI kc 161 u4.2.2.2.1, aI cI km 160 u4.2.2.2.2.1, aI cI kd 160 u4.2.2.2.2.2.1, aI cI kl 160 u4.2.2.2.2.2.2, oP q2 b2 o2 (↑n) (↑org) ent ed, aI cI b2 160 pb, oM q0 a0 b0 c0 pl st sp po, aI cI a0 256 mem, aI cI b0 8 regs, aI cI c0 32 kept]) (As := []) (rest := []) hx hb hml hown hts hp (c_X1_stubAddress l G cI H.size kq ks kc km kd kl q2 b2 o2 n org u4.1 u4.2.1 ed ent ed (by omega) (by omega) (by omega)) zPre_blind (z_pre hp [1, 7] rfl (by decide) [.ref kq]) (cwV 0 hts gX3_loadPacked_X1_stubAddress rfl rfl rfl (by decide +kernel) ⟨Nat.le_of_ble_eq_true rfl, Nat.le_of_ble_eq_true rfl⟩) [1, 7] [0, 2, 3, 4, 5, 6, 8, 9, 10, 11, 12] [0, 11, 1, 2, 3, 4, 5, 12, 6, 7, 8, 9, 10] rfl rfl ⟨by decide, by decide, by decide⟩ (fun _ => rfl) 1 1 rfl rfl rfl rfl hl.1 rfl (Nat.le_of_ble_eq_true rfl) dX3_loadPacked_29 ⟨Nat.le_of_ble_eq_true rfl, Nat.le_of_ble_eq_true rfl⟩ (fun rv u H locs hq4 hp => ?_)
    obtain rfl : rv = iZ (↑org + ↑n + u4.2.1) := hq4
    refine z_top (↑(org + n + u4.2.1.toNat)) (by omega) ?_
    refine lv_istore_n (lv' := [(1, .int (iZ (↑(org + n + u4.2.1.toNat)))), (0, .ref sq)]) hx hb dX3_loadPacked_32 rfl hl (by decide) rfl (fun ls hl => ?_)
    refine lv_iload_n hx hb dX3_loadPacked_33 rfl (lv_at hl 0 rfl) ?_
    refine lv_aload_n hx hb dX3_loadPacked_34 rfl (lv_at hl 1 rfl) ?_
    refine z_get hx hb hts hi3 hown hp 0 rfl rfl 0 (by decide) f10 rfl dX3_loadPacked_35 ?_
    refine z_get hx hb hts hi1 hown hp 1 rfl rfl 2 (by decide) f73 rfl dX3_loadPacked_38 ?_
    refine z_isub hx hb (↑((org + n + u4.2.1.toNat) - u4.1.toNat)) (by omega) dX3_loadPacked_41 ?_
    refine lv_istore_n (lv' := [(2, .int (iZ (↑((org + n + u4.2.1.toNat) - u4.1.toNat)))), (1, .int (iZ (↑(org + n + u4.2.1.toNat)))), (0, .ref sq)]) hx hb dX3_loadPacked_42 rfl hl (by decide) rfl (fun ls hl => ?_)
    refine lv_aload_n hx hb dX3_loadPacked_43 rfl (lv_at hl 2 rfl) ?_
    refine z_get hx hb hts hi3 hown hp 0 rfl rfl 2 (by decide) f24 rfl dX3_loadPacked_44 ?_
    refine lv_iload_n hx hb dX3_loadPacked_47 rfl (lv_at hl 1 rfl) ?_
    refine zc_v (wr := [oS sq kq q2 q0, oK kq q2 ks u4.1 u4.2.1 ed kc km kd kl, aI cI ks 163 u4.2.2.1, aI cI kc 161 u4.2.2.2.1, aI cI km 160 u4.2.2.2.2.1, aI cI kd 160 u4.2.2.2.2.2.1, aI cI kl 160 u4.2.2.2.2.2.2, oP q2 b2 o2 (↑n) (↑org) ent ed, aI cI b2 160 pb]) (W0 := [oM q0 a0 b0 c0 pl st sp po, aI cI a0 256 mem, aI cI b0 8 regs, aI cI c0 32 kept]) (wl2 := fun (u : Unit) => [oS sq kq q2 q0, oK kq q2 ks u4.1 u4.2.1 ed kc km kd kl, aI cI ks 163 u4.2.2.1, aI cI kc 161 u4.2.2.2.1, aI cI km 160 u4.2.2.2.2.1, aI cI kd 160 u4.2.2.2.2.2.1, aI cI kl 160 u4.2.2.2.2.2.2, oP q2 b2 o2 (↑n) (↑org) ent ed, aI cI b2 160 pb, oM q0 a0 b0 c0 (↑(org + n + u4.2.1.toNat)) 0 0 0, aI cI a0 256 (fun _ => 0), aI cI b0 8 (fun _ => 0), aI cI c0 32 kept]) (As := [.int (iZ (↑(org + n + u4.2.1.toNat)))]) (rest := []) hx hb hml hown hts hp (c_X0_clear l G cI H.size q0 a0 b0 c0 mem regs kept pl st sp po (↑(org + n + u4.2.1.toNat))) zPre_blind (z_pre hp [9, 10, 11, 12] rfl (by decide) [.ref q0, .int (iZ (↑(org + n + u4.2.1.toNat)))]) (cwV 1 hts gX3_loadPacked_X0_clear rfl rfl rfl (by decide +kernel) ⟨Nat.le_of_ble_eq_true rfl, Nat.le_of_ble_eq_true rfl⟩) [9, 10, 11, 12] [0, 1, 2, 3, 4, 5, 6, 7, 8] [0, 1, 2, 3, 4, 5, 6, 7, 8, 9, 10, 11, 12] rfl rfl ⟨by decide, by decide, by decide⟩ (fun _ => rfl) 9 0 rfl rfl rfl rfl hl.1 rfl (Nat.le_of_ble_eq_true rfl) dX3_loadPacked_48 ⟨Nat.le_of_ble_eq_true rfl, Nat.le_of_ble_eq_true rfl⟩ (fun u H locs hq5 hp => ?_)
    refine lv_aload_n hx hb dX3_loadPacked_51 rfl (lv_at hl 2 rfl) ?_
    refine z_get hx hb hts hi3 hown hp 0 rfl rfl 2 (by decide) f24 rfl dX3_loadPacked_52 ?_
    refine lv_iload_n hx hb dX3_loadPacked_55 rfl (lv_at hl 0 rfl) ?_
    refine z_top (↑((org + n + u4.2.1.toNat) - u4.1.toNat)) (by omega) ?_
    refine lv_aload_n hx hb dX3_loadPacked_56 rfl (lv_at hl 2 rfl) ?_
    refine z_get hx hb hts hi3 hown hp 0 rfl rfl 0 (by decide) f10 rfl dX3_loadPacked_57 ?_
    refine z_get hx hb hts hi1 hown hp 1 rfl rfl 1 (by decide) f76 rfl dX3_loadPacked_60 ?_
    refine lv_aload_n hx hb dX3_loadPacked_63 rfl (lv_at hl 2 rfl) ?_
    refine z_get hx hb hts hi3 hown hp 0 rfl rfl 0 (by decide) f10 rfl dX3_loadPacked_64 ?_
    refine z_get hx hb hts hi1 hown hp 1 rfl rfl 2 (by decide) f73 rfl dX3_loadPacked_67 ?_
    refine z_top (↑(u4.1.toNat)) (by omega) ?_
    refine zc_v (wr := [oS sq kq q2 q0, oK kq q2 ks u4.1 u4.2.1 ed kc km kd kl, aI cI kc 161 u4.2.2.2.1, aI cI km 160 u4.2.2.2.2.1, aI cI kd 160 u4.2.2.2.2.2.1, aI cI kl 160 u4.2.2.2.2.2.2, oP q2 b2 o2 (↑n) (↑org) ent ed, aI cI b2 160 pb, aI cI b0 8 (fun _ => 0), aI cI c0 32 kept]) (W0 := [oM q0 a0 b0 c0 (↑(org + n + u4.2.1.toNat)) 0 0 0, aI cI a0 256 (fun _ => 0), aI cI ks 163 u4.2.2.1]) (wl2 := fun (u : Unit) => [oS sq kq q2 q0, oK kq q2 ks u4.1 u4.2.1 ed kc km kd kl, aI cI ks 163 u4.2.2.1, aI cI kc 161 u4.2.2.2.1, aI cI km 160 u4.2.2.2.2.1, aI cI kd 160 u4.2.2.2.2.2.1, aI cI kl 160 u4.2.2.2.2.2.2, oP q2 b2 o2 (↑n) (↑org) ent ed, aI cI b2 160 pb, oM q0 a0 b0 c0 (↑(org + n + u4.2.1.toNat)) 0 0 0, aI cI a0 256 (cpZ u4.2.2.1 (fun _ => 0) 0 ((org + n + u4.2.1.toNat) - u4.1.toNat) u4.1.toNat), aI cI b0 8 (fun _ => 0), aI cI c0 32 kept]) (As := [.int (iZ (↑((org + n + u4.2.1.toNat) - u4.1.toNat))), .ref ks, .int (iZ (↑(u4.1.toNat)))]) (rest := []) hx hb hml hown hts hp (c_X0_write l G cI H.size q0 a0 b0 c0 ks 163 ((org + n + u4.2.1.toNat) - u4.1.toNat) u4.1.toNat (fun _ => 0) u4.2.2.1 (↑(org + n + u4.2.1.toNat)) 0 0 0 (by omega) (by omega)) zPre_blind (z_pre hp [9, 10, 2] rfl (by decide) [.ref q0, .int (iZ (↑((org + n + u4.2.1.toNat) - u4.1.toNat))), .ref ks, .int (iZ (↑(u4.1.toNat)))]) (cwV 3 hts gX3_loadPacked_X0_write rfl rfl rfl (by decide +kernel) ⟨Nat.le_of_ble_eq_true rfl, Nat.le_of_ble_eq_true rfl⟩) [9, 10, 2] [0, 1, 3, 4, 5, 6, 7, 8, 11, 12] [0, 1, 12, 2, 3, 4, 5, 6, 7, 10, 11, 8, 9] rfl rfl ⟨by decide, by decide, by decide⟩ (fun _ => rfl) 9 0 rfl rfl rfl rfl hl.1 rfl (Nat.le_of_ble_eq_true rfl) dX3_loadPacked_70 ⟨Nat.le_of_ble_eq_true rfl, Nat.le_of_ble_eq_true rfl⟩ (fun u H locs hq6 hp => ?_)
    refine lv_aload_n hx hb dX3_loadPacked_73 rfl (lv_at hl 2 rfl) ?_
    refine z_get hx hb hts hi3 hown hp 0 rfl rfl 2 (by decide) f24 rfl dX3_loadPacked_74 ?_
    refine lv_iload_n hx hb dX3_loadPacked_77 rfl (lv_at hl 1 rfl) ?_
    refine lv_iload_n hx hb dX3_loadPacked_78 rfl (lv_at hl 0 rfl) ?_
    refine lv_aload_n hx hb dX3_loadPacked_79 rfl (lv_at hl 2 rfl) ?_
    refine z_get hx hb hts hi3 hown hp 0 rfl rfl 1 (by decide) f20 rfl dX3_loadPacked_80 ?_
    refine z_get hx hb hts hi2 hown hp 7 rfl rfl 3 (by decide) f64 rfl dX3_loadPacked_83 ?_
    refine lv_aload_n hx hb dX3_loadPacked_86 rfl (lv_at hl 2 rfl) ?_
    refine z_get hx hb hts hi3 hown hp 0 rfl rfl 1 (by decide) f20 rfl dX3_loadPacked_87 ?_
    refine z_get hx hb hts hi2 hown hp 7 rfl rfl 4 (by decide) f67 rfl dX3_loadPacked_90 ?_
    refine zc_v (wr := [oS sq kq q2 q0, oK kq q2 ks u4.1 u4.2.1 ed kc km kd kl, aI cI ks 163 u4.2.2.1, aI cI kc 161 u4.2.2.2.1, aI cI km 160 u4.2.2.2.2.1, aI cI kd 160 u4.2.2.2.2.2.1, aI cI kl 160 u4.2.2.2.2.2.2, oP q2 b2 o2 (↑n) (↑org) ent ed, aI cI b2 160 pb, aI cI b0 8 (fun _ => 0), aI cI c0 32 kept]) (W0 := [oM q0 a0 b0 c0 (↑(org + n + u4.2.1.toNat)) 0 0 0, aI cI a0 256 (cpZ u4.2.2.1 (fun _ => 0) 0 ((org + n + u4.2.1.toNat) - u4.1.toNat) u4.1.toNat)]) (wl2 := fun (u : Unit) => [oS sq kq q2 q0, oK kq q2 ks u4.1 u4.2.1 ed kc km kd kl, aI cI ks 163 u4.2.2.1, aI cI kc 161 u4.2.2.2.1, aI cI km 160 u4.2.2.2.2.1, aI cI kd 160 u4.2.2.2.2.2.1, aI cI kl 160 u4.2.2.2.2.2.2, oP q2 b2 o2 (↑n) (↑org) ent ed, aI cI b2 160 pb, oM q0 a0 b0 c0 (↑(org + n + u4.2.1.toNat)) 0 0 0, aI cI a0 256 (stubRow (cpZ u4.2.2.1 (fun _ => 0) 0 ((org + n + u4.2.1.toNat) - u4.1.toNat) u4.1.toNat) ((org + n + u4.2.1.toNat)) (↑((org + n + u4.2.1.toNat) - u4.1.toNat)) (↑org) ent), aI cI b0 8 (fun _ => 0), aI cI c0 32 kept]) (As := [.int (iZ (↑(org + n + u4.2.1.toNat))), .int (iZ (↑((org + n + u4.2.1.toNat) - u4.1.toNat))), .int (iZ (↑org)), .int (iZ (ent))]) (rest := []) hx hb hml hown hts hp (c_X0_writeStub l G cI t H.size q0 a0 b0 c0 (cpZ u4.2.2.1 (fun _ => 0) 0 ((org + n + u4.2.1.toNat) - u4.1.toNat) u4.1.toNat) (↑(org + n + u4.2.1.toNat)) 0 0 0 ((org + n + u4.2.1.toNat)) (↑((org + n + u4.2.1.toNat) - u4.1.toNat)) (↑org) ent (by omega)) zPreC_blind (z_preC hC hp [9, 10] rfl (by decide) [.ref q0, .int (iZ (↑(org + n + u4.2.1.toNat))), .int (iZ (↑((org + n + u4.2.1.toNat) - u4.1.toNat))), .int (iZ (↑org)), .int (iZ (ent))]) (cwV 4 hts gX3_loadPacked_X0_writeStub rfl rfl rfl (by decide +kernel) ⟨Nat.le_of_ble_eq_true rfl, Nat.le_of_ble_eq_true rfl⟩) [9, 10] [0, 1, 2, 3, 4, 5, 6, 7, 8, 11, 12] [0, 1, 2, 3, 4, 5, 6, 7, 8, 11, 12, 9, 10] rfl rfl ⟨by decide, by decide, by decide⟩ (fun _ => rfl) 9 0 rfl rfl rfl rfl hl.1 rfl (Nat.le_of_ble_eq_true rfl) dX3_loadPacked_93 ⟨Nat.le_of_ble_eq_true rfl, Nat.le_of_ble_eq_true rfl⟩ (fun u H locs hq7 hp => ?_)
    refine lv_aload_n hx hb dX3_loadPacked_96 rfl (lv_at hl 2 rfl) ?_
    refine z_get hx hb hts hi3 hown hp 0 rfl rfl 0 (by decide) f10 rfl dX3_loadPacked_97 ?_
    refine zc_i (wr := [oS sq kq q2 q0, aI cI ks 163 u4.2.2.1, aI cI kc 161 u4.2.2.2.1, aI cI km 160 u4.2.2.2.2.1, aI cI kd 160 u4.2.2.2.2.2.1, aI cI kl 160 u4.2.2.2.2.2.2, aI cI b2 160 pb, oM q0 a0 b0 c0 (↑(org + n + u4.2.1.toNat)) 0 0 0, aI cI a0 256 (stubRow (cpZ u4.2.2.1 (fun _ => 0) 0 ((org + n + u4.2.1.toNat) - u4.1.toNat) u4.1.toNat) ((org + n + u4.2.1.toNat)) (↑((org + n + u4.2.1.toNat) - u4.1.toNat)) (↑org) ent), aI cI b0 8 (fun _ => 0), aI cI c0 32 kept]) (W0 := [oK kq q2 ks u4.1 u4.2.1 ed kc km kd kl, oP q2 b2 o2 (↑n) (↑org) ent ed]) (wl2 := fun (u : Unit) => [oS sq kq q2 q0, oK kq q2 ks u4.1 u4.2.1 ed kc km kd kl, aI cI ks 163 u4.2.2.1, aI cI kc 161 u4.2.2.2.1, aI cI km 160 u4.2.2.2.2.1, aI cI kd 160 u4.2.2.2.2.2.1, aI cI kl 160 u4.2.2.2.2.2.2, oP q2 b2 o2 (↑n) (↑org) ent ed, aI cI b2 160 pb, oM q0 a0 b0 c0 (↑(org + n + u4.2.1.toNat)) 0 0 0, aI cI a0 256 (stubRow (cpZ u4.2.2.1 (fun _ => 0) 0 ((org + n + u4.2.1.toNat) - u4.1.toNat) u4.1.toNat) ((org + n + u4.2.1.toNat)) (↑((org + n + u4.2.1.toNat) - u4.1.toNat)) (↑org) ent), aI cI b0 8 (fun _ => 0), aI cI c0 32 kept]) (As := []) (rest := []) hx hb hml hown hts hp (c_X1_layoutEnd l G cI H.size kq ks kc km kd kl q2 b2 o2 n org u4.1 u4.2.1 ed ent ed (by omega) (by omega) (by omega)) zPre_blind (z_pre hp [1, 7] rfl (by decide) [.ref kq]) (cwV 0 hts gX3_loadPacked_X1_layoutEnd rfl rfl rfl (by decide +kernel) ⟨Nat.le_of_ble_eq_true rfl, Nat.le_of_ble_eq_true rfl⟩) [1, 7] [0, 2, 3, 4, 5, 6, 8, 9, 10, 11, 12] [0, 11, 1, 2, 3, 4, 5, 12, 6, 7, 8, 9, 10] rfl rfl ⟨by decide, by decide, by decide⟩ (fun _ => rfl) 1 1 rfl rfl rfl rfl hl.1 rfl (Nat.le_of_ble_eq_true rfl) dX3_loadPacked_100 ⟨Nat.le_of_ble_eq_true rfl, Nat.le_of_ble_eq_true rfl⟩ (fun rv u H locs hq8 hp => ?_)
    obtain rfl : rv = iZ (↑org + ↑n + u4.2.1 + 60) := hq8
    refine lv_aload_n hx hb dX3_loadPacked_103 rfl (lv_at hl 2 rfl) ?_
    refine z_get hx hb hts hi3 hown hp 0 rfl rfl 1 (by decide) f20 rfl dX3_loadPacked_104 ?_
    refine z_get hx hb hts hi2 hown hp 7 rfl rfl 3 (by decide) f64 rfl dX3_loadPacked_107 ?_
    refine z_isub hx hb (↑n + u4.2.1 + 60) (by omega) dX3_loadPacked_110 ?_
    exact hret _ _ _ _ _ _ _ u4 (⟨hf, by omega, rfl⟩) hp dX3_loadPacked_111 (rfl) (Nat.le_of_ble_eq_true rfl) (Nat.le_of_ble_eq_true rfl)
  · skip
    exact hthr _ _ _ _ _ _ _ "java/lang/UnsupportedOperationException" 100 102 u4 (⟨rfl, hf, by omega⟩) hp hl.1 (by decide) l100 ini100 (fun w h => hts w (List.mem_cons_of_mem _ (List.mem_append_right _ (h)))) (by decide +kernel) (by decide +kernel) dX3_loadPacked_17 dX3_loadPacked_20 dX3_loadPacked_21 dX3_loadPacked_24 (Nat.le_of_ble_eq_true rfl) (Nat.le_of_ble_eq_true rfl) (Nat.le_of_ble_eq_true rfl) (Nat.le_of_ble_eq_true rfl) (Nat.le_of_ble_eq_true rfl)
abbrev rmX3_run : Room := { frames := 7, cells := 1, slots := 6, locals := 150 }
set_option maxRecDepth 100000 in
set_option maxHeartbeats 4000000 in
theorem c_X3_run (l : Launch) (G : va_G) (cI : ClassId) (t : Nat) (hst : l.stackTraces = false) (sz : Nat) (sq kq q2 : Nat) (q0 a0 b0 c0 : Nat) (w : MS) (b k til : Int) (h_w : MB w b) (h_bb : b < 2147400000) (h_k : rg k) (h_t : rg til) : vx_Met l yX3_run wsX3_run rmX3_run (zPreC t G cI [oS sq kq q2 q0, oM q0 a0 b0 c0 w.2.2.2.1 w.2.2.2.2.1 w.2.2.2.2.2.1 w.2.2.2.2.2.2, aI cI a0 256 w.1, aI cI b0 8 w.2.1, aI cI c0 32 w.2.2.1] sz [.ref sq, .int (iZ (k)), .int (iZ (til))]) (va_Qi (fun (r : Int32) (u : Unit) => ((0 ≤ k ∧ k ≤ 4000) ∧ -1 ≤ til ∧ til ≤ 255) ∧ r = iZ (↑(mrun til k.toNat w).1)) (fun (u : Unit) t => zB G cI (va_A [oS sq kq q2 q0, oM q0 a0 b0 c0 w.2.2.2.1 w.2.2.2.2.1 w.2.2.2.2.2.1 w.2.2.2.2.2.2, aI cI a0 256 w.1, aI cI b0 8 w.2.1, aI cI c0 32 w.2.2.1] sz) [oS sq kq q2 q0, oM q0 a0 b0 c0 ((mrun til k.toNat w).2.2.2.2.1) ((mrun til k.toNat w).2.2.2.2.2.1) ((mrun til k.toNat w).2.2.2.2.2.2.1) ((mrun til k.toNat w).2.2.2.2.2.2.2), aI cI a0 256 ((mrun til k.toNat w).2.1), aI cI b0 8 ((mrun til k.toNat w).2.2.1), aI cI c0 32 ((mrun til k.toNat w).2.2.2.1)] t) (va_A [oS sq kq q2 q0, oM q0 a0 b0 c0 w.2.2.2.1 w.2.2.2.2.1 w.2.2.2.2.2.1 w.2.2.2.2.2.2, aI cI a0 256 w.1, aI cI b0 8 w.2.1, aI cI c0 32 w.2.2.1] sz)) (vx_X (fun _ => True) (fun X (u : Unit) t => (X = nIA ∧ ¬ ((0 ≤ k ∧ k ≤ 4000) ∧ -1 ≤ til ∧ til ≤ 255)) ∧ zB G cI (va_A [oS sq kq q2 q0, oM q0 a0 b0 c0 w.2.2.2.1 w.2.2.2.2.1 w.2.2.2.2.2.1 w.2.2.2.2.2.2, aI cI a0 256 w.1, aI cI b0 8 w.2.1, aI cI c0 32 w.2.2.1] sz) [oS sq kq q2 q0, oM q0 a0 b0 c0 w.2.2.2.1 w.2.2.2.2.1 w.2.2.2.2.2.1 w.2.2.2.2.2.2, aI cI a0 256 w.1, aI cI b0 8 w.2.1, aI cI c0 32 w.2.2.1] t) (va_A [oS sq kq q2 q0, oM q0 a0 b0 c0 w.2.2.2.1 w.2.2.2.2.1 w.2.2.2.2.2.1 w.2.2.2.2.2.2, aI cI a0 256 w.1, aI cI b0 8 w.2.1, aI cI c0 32 w.2.2.1] sz)) 1 6 (va_A [oS sq kq q2 q0, oM q0 a0 b0 c0 w.2.2.2.1 w.2.2.2.2.1 w.2.2.2.2.2.1 w.2.2.2.2.2.2, aI cI a0 256 w.1, aI cI b0 8 w.2.1, aI cI c0 32 w.2.2.1] sz) := by
  refine zm_xi (W1 := fun (u : Unit) => [oS sq kq q2 q0, oM q0 a0 b0 c0 ((mrun til k.toNat w).2.2.2.2.1) ((mrun til k.toNat w).2.2.2.2.2.1) ((mrun til k.toNat w).2.2.2.2.2.2.1) ((mrun til k.toNat w).2.2.2.2.2.2.2), aI cI a0 256 ((mrun til k.toNat w).2.1), aI cI b0 8 ((mrun til k.toNat w).2.2.1), aI cI c0 32 ((mrun til k.toNat w).2.2.2.1)]) (WX := fun (u : Unit) => [oS sq kq q2 q0, oM q0 a0 b0 c0 w.2.2.2.1 w.2.2.2.2.1 w.2.2.2.2.2.1 w.2.2.2.2.2.2, aI cI a0 256 w.1, aI cI b0 8 w.2.1, aI cI c0 32 w.2.2.1]) (cc := cX3_run) (maxL := 4) (ty := .int) hst rfl rfl (by decide) rfl (Nat.le_of_ble_eq_true rfl) ?_
  intro p e s m args below meth c A Q ls hsz hx hb hml hown hts hC hret hthr hout hp hl
  have hl : lv_has ls 4 [(0, .ref sq), (1, .int (iZ (k))), (2, .int (iZ (til)))] := hl
  have l54 := hts (.classLink RX3 54 "java/lang/IllegalArgumentException") (List.mem_of_getElem? (i := 1) rfl)
  have ini54 := hts (.initialized "java/lang/IllegalArgumentException") (List.mem_of_getElem? (i := 2) rfl)
  have hi3 : ∀ w ∈ wsX30, w ∈ wsX3_run := fun w h => List.mem_cons_of_mem _ (List.mem_append_left _ (List.mem_append_left _ (List.mem_append_right _ (h))))
  have f24 := hts (.fieldLink RX3 24 "SelfOpener" "machine" "LSelfOpener$Machine;") (List.mem_of_getElem? (i := 3) rfl)
  have hi0 : ∀ w ∈ wsX00, w ∈ wsX3_run := fun w h => List.mem_cons_of_mem _ (List.mem_append_left _ (List.mem_append_right _ (h)))
  have f117 := hts (.fieldLink RX3 117 "SelfOpener$Machine" "place" "I") (List.mem_of_getElem? (i := 4) rfl)
  suffices hw : ∀ (H : Heap) (locs : List Loc), Hp G cI A s H locs [oS sq kq q2 q0, oM q0 a0 b0 c0 w.2.2.2.1 w.2.2.2.2.1 w.2.2.2.2.2.1 w.2.2.2.2.2.2, aI cI a0 256 w.1, aI cI b0 8 w.2.1, aI cI c0 32 w.2.2.1] → W p l e rmX3_run s m args below meth c H locs 0 0 Q (F0 m 0 ls []) from hw _ _ hp
  clear hp; intro H locs hp
  refine lv_iload_n hx hb dX3_run_0 rfl (lv_at hl 1 rfl) ?_
  refine z_if_lt (tgt := 23) hx hb dX3_run_1 (by decide) (by omega) (fun h1 => ?_) (fun h1 => ?_)
  · skip
    exact hthr _ _ _ _ _ _ _ "java/lang/IllegalArgumentException" 54 56 () (⟨rfl, by omega⟩) hp hl.1 (by decide) l54 ini54 (fun w h => hts w (List.mem_cons_of_mem _ (List.mem_append_right _ (h)))) (by decide +kernel) (by decide +kernel) dX3_run_23 dX3_run_26 dX3_run_27 dX3_run_30 (Nat.le_of_ble_eq_true rfl) (Nat.le_of_ble_eq_true rfl) (Nat.le_of_ble_eq_true rfl) (Nat.le_of_ble_eq_true rfl) (Nat.le_of_ble_eq_true rfl)
  · skip
    refine lv_iload_n hx hb dX3_run_4 rfl (lv_at hl 1 rfl) ?_
    refine z_sipush hx hb dX3_run_5 (by decide +kernel) ?_
    refine z_icmp_gt (tgt := 23) hx hb dX3_run_8 (by decide) (by omega) (fun h2 => ?_) (fun h2 => ?_)
    · skip
      exact hthr _ _ _ _ _ _ _ "java/lang/IllegalArgumentException" 54 56 () (⟨rfl, by omega⟩) hp hl.1 (by decide) l54 ini54 (fun w h => hts w (List.mem_cons_of_mem _ (List.mem_append_right _ (h)))) (by decide +kernel) (by decide +kernel) dX3_run_23 dX3_run_26 dX3_run_27 dX3_run_30 (Nat.le_of_ble_eq_true rfl) (Nat.le_of_ble_eq_true rfl) (Nat.le_of_ble_eq_true rfl) (Nat.le_of_ble_eq_true rfl) (Nat.le_of_ble_eq_true rfl)
    · skip
      refine lv_iload_n hx hb dX3_run_11 rfl (lv_at hl 2 rfl) ?_
      refine z_iconst hx hb dX3_run_12 ?_
      refine z_icmp_lt (tgt := 23) hx hb dX3_run_13 (by decide) (by omega) (fun h3 => ?_) (fun h3 => ?_)
      · skip
        exact hthr _ _ _ _ _ _ _ "java/lang/IllegalArgumentException" 54 56 () (⟨rfl, by omega⟩) hp hl.1 (by decide) l54 ini54 (fun w h => hts w (List.mem_cons_of_mem _ (List.mem_append_right _ (h)))) (by decide +kernel) (by decide +kernel) dX3_run_23 dX3_run_26 dX3_run_27 dX3_run_30 (Nat.le_of_ble_eq_true rfl) (Nat.le_of_ble_eq_true rfl) (Nat.le_of_ble_eq_true rfl) (Nat.le_of_ble_eq_true rfl) (Nat.le_of_ble_eq_true rfl)
      · skip
        refine lv_iload_n hx hb dX3_run_16 rfl (lv_at hl 2 rfl) ?_
        refine z_sipush hx hb dX3_run_17 (by decide +kernel) ?_
        refine z_icmp_le (tgt := 31) hx hb dX3_run_20 (by decide) (by omega) (fun h4 => ?_) (fun h4 => ?_)
        · skip
          obtain ⟨R, hR0⟩ : ∃ z, z = mrun til k.toNat w := ⟨_, rfl⟩
          rw [← hR0] at hret
          refine z_iconst hx hb dX3_run_31 ?_
          refine lv_istore_n (lv' := [(3, .int (iZ (0))), (0, .ref sq), (1, .int (iZ (k))), (2, .int (iZ (til)))]) hx hb dX3_run_32 rfl hl (by decide) rfl (fun ls hl => ?_)
          have jn5 : ∀ (i : Nat) (v : MS) (H : Heap) (locs : List Loc) (ls : Array Slot), ((i, v) = R) → Hp G cI A s H locs [oS sq kq q2 q0, oM q0 a0 b0 c0 v.2.2.2.1 v.2.2.2.2.1 v.2.2.2.2.2.1 v.2.2.2.2.2.2, aI cI a0 256 v.1, aI cI b0 8 v.2.1, aI cI c0 32 v.2.2.1] → lv_has ls 4 [(0, .ref sq), (3, .int (iZ (↑i)))] → W p l e rmX3_run s m args below meth c H locs 0 0 Q (F0 m 72 ls []) := by
            intro i v H locs ls hR hp hl
            cases hR
            refine lv_iload_n hx hb dX3_run_72 rfl (lv_at hl 1 rfl) ?_
            exact hret _ _ _ _ _ _ _ () (⟨by omega, rfl⟩) hp dX3_run_73 (rfl) (Nat.le_of_ble_eq_true rfl) (Nat.le_of_ble_eq_true rfl)
          have lp7 : ∀ (N_lp7 : Nat) (f i : Nat) (v : MS) (H : Heap) (locs : List Loc) (ls : Array Slot), (i + f = k.toNat) → ((i + (mrun til f v).1, (mrun til f v).2) = R) → (MB v (b + ↑i)) → f < N_lp7 → Hp G cI A s H locs [oS sq kq q2 q0, oM q0 a0 b0 c0 v.2.2.2.1 v.2.2.2.2.1 v.2.2.2.2.2.1 v.2.2.2.2.2.2, aI cI a0 256 v.1, aI cI b0 8 v.2.1, aI cI c0 32 v.2.2.1] → lv_has ls 4 [(3, .int (iZ (↑i))), (0, .ref sq), (1, .int (iZ (k))), (2, .int (iZ (til)))] → W p l e rmX3_run s m args below meth c H locs 0 0 Q (F0 m 33 ls []) := by
            intro N_lp7
            induction N_lp7 with
            | zero => intros; exfalso; omega
            | succ N_lp7 ih_lp7 =>
              intro f i v H locs ls hi hR hv hN hp hl
              have hv4 := hv.2.2.2.1
              have hv5 := hv.2.2.2.2.1
              refine lv_iload_n hx hb dX3_run_33 rfl (lv_at hl 0 rfl) ?_
              refine lv_iload_n hx hb dX3_run_34 rfl (lv_at hl 2 rfl) ?_
              refine z_icmp_ge (tgt := 72) hx hb dX3_run_35 (by decide) (by omega) (fun h8 => ?_) (fun h8 => ?_)
              · skip
                exact jn5 i v _ _ _ (by rw [mrun_stop (by omega)] at hR; exact hR) hp (lv_sub hl [1, 0] rfl)
              · skip
                refine lv_aload_n hx hb dX3_run_38 rfl (lv_at hl 1 rfl) ?_
                refine z_get hx hb hts hi3 hown hp 0 rfl rfl 2 (by decide) f24 rfl dX3_run_39 ?_
                refine zc_i (wr := [oS sq kq q2 q0, aI cI a0 256 v.1, aI cI b0 8 v.2.1, aI cI c0 32 v.2.2.1]) (W0 := [oM q0 a0 b0 c0 v.2.2.2.1 v.2.2.2.2.1 v.2.2.2.2.2.1 v.2.2.2.2.2.2]) (wl2 := fun (u : Unit) => [oS sq kq q2 q0, oM q0 a0 b0 c0 v.2.2.2.1 v.2.2.2.2.1 v.2.2.2.2.2.1 v.2.2.2.2.2.2, aI cI a0 256 v.1, aI cI b0 8 v.2.1, aI cI c0 32 v.2.2.1]) (As := []) (rest := []) hx hb hml hown hts hp (c_X0_runs l G cI H.size q0 a0 b0 c0 v.2.2.2.1 v.2.2.2.2.1 v.2.2.2.2.2.1 v.2.2.2.2.2.2 (by omega)) zPre_blind (z_pre hp [1] rfl (by decide) [.ref q0]) (cwV 0 hts gX3_run_X0_runs rfl rfl rfl (by decide +kernel) ⟨Nat.le_of_ble_eq_true rfl, Nat.le_of_ble_eq_true rfl⟩) [1] [0, 2, 3, 4] [0, 4, 1, 2, 3] rfl rfl ⟨by decide, by decide, by decide⟩ (fun _ => rfl) 1 0 rfl rfl rfl rfl hl.1 rfl (Nat.le_of_ble_eq_true rfl) dX3_run_42 ⟨Nat.le_of_ble_eq_true rfl, Nat.le_of_ble_eq_true rfl⟩ (fun rv u H locs hq9 hp => ?_)
                obtain rfl : rv = iZ (if v.2.2.2.2.1 = 0 then 1 else 0) := hq9
                refine z_if_eq (tgt := 72) hx hb dX3_run_45 (by decide) (by omega) (fun h10 => ?_) (fun h10 => ?_)
                · skip
                  exact jn5 i v _ _ _ (by rw [mrun_stop (by omega)] at hR; exact hR) hp (lv_sub hl [1, 0] rfl)
                · skip
                  refine lv_aload_n hx hb dX3_run_48 rfl (lv_at hl 1 rfl) ?_
                  refine z_get hx hb hts hi3 hown hp 0 rfl rfl 2 (by decide) f24 rfl dX3_run_49 ?_
                  refine z_get hx hb hts hi0 hown hp 1 rfl rfl 3 (by decide) f117 rfl dX3_run_52 ?_
                  refine lv_iload_n hx hb dX3_run_55 rfl (lv_at hl 3 rfl) ?_
                  refine z_icmp_eq (tgt := 72) hx hb dX3_run_56 (by decide) (by omega) (fun h11 => ?_) (fun h11 => ?_)
                  · skip
                    exact jn5 i v _ _ _ (by rw [mrun_stop (by omega)] at hR; exact hR) hp (lv_sub hl [1, 0] rfl)
                  · skip
                    obtain ⟨f, rfl⟩ : ∃ f9, f = f9 + 1 := ⟨f - 1, by omega⟩
                    refine lv_aload_n hx hb dX3_run_59 rfl (lv_at hl 1 rfl) ?_
                    refine z_get hx hb hts hi3 hown hp 0 rfl rfl 2 (by decide) f24 rfl dX3_run_60 ?_
                    refine zc_v (wr := [oS sq kq q2 q0]) (W0 := [oM q0 a0 b0 c0 v.2.2.2.1 v.2.2.2.2.1 v.2.2.2.2.2.1 v.2.2.2.2.2.2, aI cI a0 256 v.1, aI cI b0 8 v.2.1, aI cI c0 32 v.2.2.1]) (wl2 := fun (u : Unit) => [oS sq kq q2 q0, oM q0 a0 b0 c0 ((mstep v).2.2.2.1) ((mstep v).2.2.2.2.1) ((mstep v).2.2.2.2.2.1) ((mstep v).2.2.2.2.2.2), aI cI a0 256 ((mstep v).1), aI cI b0 8 ((mstep v).2.1), aI cI c0 32 ((mstep v).2.2.1)]) (As := []) (rest := []) hx hb hml hown hts hp (c_X0_step l G cI H.size q0 a0 b0 c0 v (b + ↑i) (hv) (by omega)) zPre_blind (z_pre hp [1, 2, 3, 4] rfl (by decide) [.ref q0]) (cwV 0 hts gX3_run_X0_step rfl rfl rfl (by decide +kernel) ⟨Nat.le_of_ble_eq_true rfl, Nat.le_of_ble_eq_true rfl⟩) [1, 2, 3, 4] [0] [0, 1, 2, 3, 4] rfl rfl ⟨by decide, by decide, by decide⟩ (fun _ => rfl) 1 0 rfl rfl rfl rfl hl.1 rfl (Nat.le_of_ble_eq_true rfl) dX3_run_63 ⟨Nat.le_of_ble_eq_true rfl, Nat.le_of_ble_eq_true rfl⟩ (fun u H locs hq12 hp => ?_)
                    refine z_iinc (k := 0) (lv' := [(3, .int (iZ (↑(i + 1)))), (0, .ref sq), (1, .int (iZ (k))), (2, .int (iZ (til)))]) hx hb (↑(i + 1)) (by omega) dX3_run_66 hl rfl (by decide) rfl (fun ls hl => ?_)
                    refine lv_goto (tgt := 33) hx hb dX3_run_69 (by decide) ?_
                    exact ih_lp7 f (i + 1) (mstep v) _ _ _ (by omega) (by rw [mrun_go (by omega)] at hR; rw [← hR]; congr 1; omega) (by rw [show b + ((i + 1 : Nat) : Int) = b + ↑i + 1 by omega]; exact mstep_b hv) (by omega) hp (lv_sub hl [0, 1, 2, 3] rfl)
          exact lp7 _ k.toNat 0 w _ _ _ (by omega) (by rw [Nat.zero_add, hR0]) (by rw [show b + ((0 : Nat) : Int) = b by omega]; exact h_w) (Nat.lt_succ_self _) hp (lv_sub hl [0, 1, 2, 3] rfl)
        · skip
          exact hthr _ _ _ _ _ _ _ "java/lang/IllegalArgumentException" 54 56 () (⟨rfl, by omega⟩) hp hl.1 (by decide) l54 ini54 (fun w h => hts w (List.mem_cons_of_mem _ (List.mem_append_right _ (h)))) (by decide +kernel) (by decide +kernel) dX3_run_23 dX3_run_26 dX3_run_27 dX3_run_30 (Nat.le_of_ble_eq_true rfl) (Nat.le_of_ble_eq_true rfl) (Nat.le_of_ble_eq_true rfl) (Nat.le_of_ble_eq_true rfl) (Nat.le_of_ble_eq_true rfl)
abbrev rmX3_look : Room := { frames := 6, cells := 1, slots := 6, locals := 89 }
set_option maxRecDepth 100000 in
set_option maxHeartbeats 4000000 in
theorem c_X3_look (l : Launch) (G : va_G) (cI : ClassId) (t : Nat) (hst : l.stackTraces = false) (sz : Nat) (sq kq q2 q0 : Nat) (a0 b0 c0 : Nat) (regs : Nat → Int) (pl st sp po k : Int) (h_k : rg k) : vx_Met l yX3_look wsX3_look rmX3_look (zPreC t G cI [oS sq kq q2 q0, oM q0 a0 b0 c0 pl st sp po, aI cI b0 8 regs] sz [.ref sq, .int (iZ (k))]) (va_Qi (fun (r : Int32) (u : Unit) => (0 ≤ k ∧ k < 12) ∧ r = iZ (lookZ regs pl st sp po k)) (fun (u : Unit) t => zB G cI (va_A [oS sq kq q2 q0, oM q0 a0 b0 c0 pl st sp po, aI cI b0 8 regs] sz) [oS sq kq q2 q0, oM q0 a0 b0 c0 pl st sp po, aI cI b0 8 regs] t) (va_A [oS sq kq q2 q0, oM q0 a0 b0 c0 pl st sp po, aI cI b0 8 regs] sz)) (vx_X (fun _ => True) (fun X (u : Unit) t => (X = nOB ∧ ¬ (0 ≤ k ∧ k < 12)) ∧ zB G cI (va_A [oS sq kq q2 q0, oM q0 a0 b0 c0 pl st sp po, aI cI b0 8 regs] sz) [oS sq kq q2 q0, oM q0 a0 b0 c0 pl st sp po, aI cI b0 8 regs] t) (va_A [oS sq kq q2 q0, oM q0 a0 b0 c0 pl st sp po, aI cI b0 8 regs] sz)) 1 6 (va_A [oS sq kq q2 q0, oM q0 a0 b0 c0 pl st sp po, aI cI b0 8 regs] sz) := by
  refine zm_xi (W1 := fun (u : Unit) => [oS sq kq q2 q0, oM q0 a0 b0 c0 pl st sp po, aI cI b0 8 regs]) (WX := fun (u : Unit) => [oS sq kq q2 q0, oM q0 a0 b0 c0 pl st sp po, aI cI b0 8 regs]) (cc := cX3_look) (maxL := 2) (ty := .int) hst rfl rfl (by decide) rfl (Nat.le_of_ble_eq_true rfl) ?_
  intro p e s m args below meth c A Q ls hsz hx hb hml hown hts hC hret hthr hout hp hl
  have hl : lv_has ls 2 [(0, .ref sq), (1, .int (iZ (k)))] := hl
  have hi3 : ∀ w ∈ wsX30, w ∈ wsX3_look := fun w h => List.mem_cons_of_mem _ (List.mem_append_left _ (List.mem_append_left _ (List.mem_append_right _ (h))))
  have f24 := hts (.fieldLink RX3 24 "SelfOpener" "machine" "LSelfOpener$Machine;") (List.mem_of_getElem? (i := 3) rfl)
  have hi0 : ∀ w ∈ wsX00, w ∈ wsX3_look := fun w h => List.mem_cons_of_mem _ (List.mem_append_left _ (List.mem_append_right _ (h)))
  have f117 := hts (.fieldLink RX3 117 "SelfOpener$Machine" "place" "I") (List.mem_of_getElem? (i := 5) rfl)
  have f126 := hts (.fieldLink RX3 126 "SelfOpener$Machine" "state" "I") (List.mem_of_getElem? (i := 6) rfl)
  have f129 := hts (.fieldLink RX3 129 "SelfOpener$Machine" "steps" "I") (List.mem_of_getElem? (i := 7) rfl)
  have f132 := hts (.fieldLink RX3 132 "SelfOpener$Machine" "putOut" "I") (List.mem_of_getElem? (i := 8) rfl)
  have l48 := hts (.classLink RX3 48 "java/lang/IndexOutOfBoundsException") (List.mem_of_getElem? (i := 1) rfl)
  have ini48 := hts (.initialized "java/lang/IndexOutOfBoundsException") (List.mem_of_getElem? (i := 2) rfl)
  have f123 := hts (.fieldLink RX3 123 "SelfOpener$Machine" "registers" "[I") (List.mem_of_getElem? (i := 4) rfl)
  suffices hw : ∀ (H : Heap) (locs : List Loc), Hp G cI A s H locs [oS sq kq q2 q0, oM q0 a0 b0 c0 pl st sp po, aI cI b0 8 regs] → W p l e rmX3_look s m args below meth c H locs 0 0 Q (F0 m 0 ls []) from hw _ _ hp
  clear hp; intro H locs hp
  refine lv_iload_n hx hb dX3_look_0 rfl (lv_at hl 1 rfl) ?_
  refine z_if_lt (tgt := 20) hx hb dX3_look_1 (by decide) (by omega) (fun h1 => ?_) (fun h1 => ?_)
  · skip
    refine lv_iload_n hx hb dX3_look_20 rfl (lv_at hl 1 rfl) ?_
    by_cases hk2 : k = 8
    · skip
      refine z_top (8) hk2 ?_
      refine z_tsI (off := 31) (tgt := 52) hx hb dX3_look_21 (by decide) (by decide) (by decide) (by decide +kernel) (by decide) ?_
      refine lv_aload_n hx hb dX3_look_52 rfl (lv_at hl 0 rfl) ?_
      refine z_get hx hb hts hi3 hown hp 0 rfl rfl 2 (by decide) f24 rfl dX3_look_53 ?_
      refine z_get hx hb hts hi0 hown hp 1 rfl rfl 3 (by decide) f117 rfl dX3_look_56 ?_
      exact hret _ _ _ _ _ _ _ () (⟨by omega, congrArg iZ (by unfold lookZ; (repeat' split) <;> first | rfl | omega)⟩) hp dX3_look_59 (rfl) (Nat.le_of_ble_eq_true rfl) (Nat.le_of_ble_eq_true rfl)
    by_cases hk3 : k = 9
    · skip
      refine z_top (9) hk3 ?_
      refine z_tsI (off := 39) (tgt := 60) hx hb dX3_look_21 (by decide) (by decide) (by decide) (by decide +kernel) (by decide) ?_
      refine lv_aload_n hx hb dX3_look_60 rfl (lv_at hl 0 rfl) ?_
      refine z_get hx hb hts hi3 hown hp 0 rfl rfl 2 (by decide) f24 rfl dX3_look_61 ?_
      refine z_get hx hb hts hi0 hown hp 1 rfl rfl 4 (by decide) f126 rfl dX3_look_64 ?_
      exact hret _ _ _ _ _ _ _ () (⟨by omega, congrArg iZ (by unfold lookZ; (repeat' split) <;> first | rfl | omega)⟩) hp dX3_look_67 (rfl) (Nat.le_of_ble_eq_true rfl) (Nat.le_of_ble_eq_true rfl)
    by_cases hk4 : k = 10
    · skip
      refine z_top (10) hk4 ?_
      refine z_tsI (off := 47) (tgt := 68) hx hb dX3_look_21 (by decide) (by decide) (by decide) (by decide +kernel) (by decide) ?_
      refine lv_aload_n hx hb dX3_look_68 rfl (lv_at hl 0 rfl) ?_
      refine z_get hx hb hts hi3 hown hp 0 rfl rfl 2 (by decide) f24 rfl dX3_look_69 ?_
      refine z_get hx hb hts hi0 hown hp 1 rfl rfl 5 (by decide) f129 rfl dX3_look_72 ?_
      exact hret _ _ _ _ _ _ _ () (⟨by omega, congrArg iZ (by unfold lookZ; (repeat' split) <;> first | rfl | omega)⟩) hp dX3_look_75 (rfl) (Nat.le_of_ble_eq_true rfl) (Nat.le_of_ble_eq_true rfl)
    by_cases hk5 : k = 11
    · skip
      refine z_top (11) hk5 ?_
      refine z_tsI (off := 55) (tgt := 76) hx hb dX3_look_21 (by decide) (by decide) (by decide) (by decide +kernel) (by decide) ?_
      refine lv_aload_n hx hb dX3_look_76 rfl (lv_at hl 0 rfl) ?_
      refine z_get hx hb hts hi3 hown hp 0 rfl rfl 2 (by decide) f24 rfl dX3_look_77 ?_
      refine z_get hx hb hts hi0 hown hp 1 rfl rfl 6 (by decide) f132 rfl dX3_look_80 ?_
      exact hret _ _ _ _ _ _ _ () (⟨by omega, congrArg iZ (by unfold lookZ; (repeat' split) <;> first | rfl | omega)⟩) hp dX3_look_83 (rfl) (Nat.le_of_ble_eq_true rfl) (Nat.le_of_ble_eq_true rfl)
    refine z_tsO (tgt := 84) hx hb dX3_look_21 (by assumption) (by omega) (by decide) ?_
    exact hthr _ _ _ _ _ _ _ "java/lang/IndexOutOfBoundsException" 48 50 () (⟨rfl, by omega⟩) hp hl.1 (by decide) l48 ini48 (fun w h => hts w (List.mem_cons_of_mem _ (List.mem_append_right _ (h)))) (by decide +kernel) (by decide +kernel) dX3_look_84 dX3_look_87 dX3_look_88 dX3_look_91 (Nat.le_of_ble_eq_true rfl) (Nat.le_of_ble_eq_true rfl) (Nat.le_of_ble_eq_true rfl) (Nat.le_of_ble_eq_true rfl) (Nat.le_of_ble_eq_true rfl)
  · skip
    refine lv_iload_n hx hb dX3_look_4 rfl (lv_at hl 1 rfl) ?_
    refine z_bipush hx hb dX3_look_5 (by decide +kernel) ?_
    refine z_icmp_ge (tgt := 20) hx hb dX3_look_7 (by decide) (by omega) (fun h6 => ?_) (fun h6 => ?_)
    · skip
      refine lv_iload_n hx hb dX3_look_20 rfl (lv_at hl 1 rfl) ?_
      by_cases hk7 : k = 8
      · skip
        refine z_top (8) hk7 ?_
        refine z_tsI (off := 31) (tgt := 52) hx hb dX3_look_21 (by decide) (by decide) (by decide) (by decide +kernel) (by decide) ?_
        refine lv_aload_n hx hb dX3_look_52 rfl (lv_at hl 0 rfl) ?_
        refine z_get hx hb hts hi3 hown hp 0 rfl rfl 2 (by decide) f24 rfl dX3_look_53 ?_
        refine z_get hx hb hts hi0 hown hp 1 rfl rfl 3 (by decide) f117 rfl dX3_look_56 ?_
        exact hret _ _ _ _ _ _ _ () (⟨by omega, congrArg iZ (by unfold lookZ; (repeat' split) <;> first | rfl | omega)⟩) hp dX3_look_59 (rfl) (Nat.le_of_ble_eq_true rfl) (Nat.le_of_ble_eq_true rfl)
      by_cases hk8 : k = 9
      · skip
        refine z_top (9) hk8 ?_
        refine z_tsI (off := 39) (tgt := 60) hx hb dX3_look_21 (by decide) (by decide) (by decide) (by decide +kernel) (by decide) ?_
        refine lv_aload_n hx hb dX3_look_60 rfl (lv_at hl 0 rfl) ?_
        refine z_get hx hb hts hi3 hown hp 0 rfl rfl 2 (by decide) f24 rfl dX3_look_61 ?_
        refine z_get hx hb hts hi0 hown hp 1 rfl rfl 4 (by decide) f126 rfl dX3_look_64 ?_
        exact hret _ _ _ _ _ _ _ () (⟨by omega, congrArg iZ (by unfold lookZ; (repeat' split) <;> first | rfl | omega)⟩) hp dX3_look_67 (rfl) (Nat.le_of_ble_eq_true rfl) (Nat.le_of_ble_eq_true rfl)
      by_cases hk9 : k = 10
      · skip
        refine z_top (10) hk9 ?_
        refine z_tsI (off := 47) (tgt := 68) hx hb dX3_look_21 (by decide) (by decide) (by decide) (by decide +kernel) (by decide) ?_
        refine lv_aload_n hx hb dX3_look_68 rfl (lv_at hl 0 rfl) ?_
        refine z_get hx hb hts hi3 hown hp 0 rfl rfl 2 (by decide) f24 rfl dX3_look_69 ?_
        refine z_get hx hb hts hi0 hown hp 1 rfl rfl 5 (by decide) f129 rfl dX3_look_72 ?_
        exact hret _ _ _ _ _ _ _ () (⟨by omega, congrArg iZ (by unfold lookZ; (repeat' split) <;> first | rfl | omega)⟩) hp dX3_look_75 (rfl) (Nat.le_of_ble_eq_true rfl) (Nat.le_of_ble_eq_true rfl)
      by_cases hk10 : k = 11
      · skip
        refine z_top (11) hk10 ?_
        refine z_tsI (off := 55) (tgt := 76) hx hb dX3_look_21 (by decide) (by decide) (by decide) (by decide +kernel) (by decide) ?_
        refine lv_aload_n hx hb dX3_look_76 rfl (lv_at hl 0 rfl) ?_
        refine z_get hx hb hts hi3 hown hp 0 rfl rfl 2 (by decide) f24 rfl dX3_look_77 ?_
        refine z_get hx hb hts hi0 hown hp 1 rfl rfl 6 (by decide) f132 rfl dX3_look_80 ?_
        exact hret _ _ _ _ _ _ _ () (⟨by omega, congrArg iZ (by unfold lookZ; (repeat' split) <;> first | rfl | omega)⟩) hp dX3_look_83 (rfl) (Nat.le_of_ble_eq_true rfl) (Nat.le_of_ble_eq_true rfl)
      refine z_tsO (tgt := 84) hx hb dX3_look_21 (by assumption) (by omega) (by decide) ?_
      exact hthr _ _ _ _ _ _ _ "java/lang/IndexOutOfBoundsException" 48 50 () (⟨rfl, by omega⟩) hp hl.1 (by decide) l48 ini48 (fun w h => hts w (List.mem_cons_of_mem _ (List.mem_append_right _ (h)))) (by decide +kernel) (by decide +kernel) dX3_look_84 dX3_look_87 dX3_look_88 dX3_look_91 (Nat.le_of_ble_eq_true rfl) (Nat.le_of_ble_eq_true rfl) (Nat.le_of_ble_eq_true rfl) (Nat.le_of_ble_eq_true rfl) (Nat.le_of_ble_eq_true rfl)
    · skip
      refine lv_aload_n hx hb dX3_look_10 rfl (lv_at hl 0 rfl) ?_
      refine z_get hx hb hts hi3 hown hp 0 rfl rfl 2 (by decide) f24 rfl dX3_look_11 ?_
      refine z_get hx hb hts hi0 hown hp 1 rfl rfl 1 (by decide) f123 rfl dX3_look_14 ?_
      refine lv_iload_n hx hb dX3_look_17 rfl (lv_at hl 1 rfl) ?_
      refine z_iald hx hb hp 2 rfl (k.toNat) (by omega) dX3_look_18 (regs k.toNat) (rfl) ?_
      exact hret _ _ _ _ _ _ _ () (⟨by omega, congrArg iZ (by unfold lookZ; (repeat' split) <;> first | rfl | omega)⟩) hp dX3_look_19 (rfl) (Nat.le_of_ble_eq_true rfl) (Nat.le_of_ble_eq_true rfl)
abbrev rmX3_memory : Room := { frames := 6, cells := 1, slots := 6, locals := 89 }
set_option maxRecDepth 100000 in
set_option maxHeartbeats 4000000 in
theorem c_X3_memory (l : Launch) (G : va_G) (cI : ClassId) (t : Nat) (hst : l.stackTraces = false) (sz : Nat) (sq kq q2 q0 : Nat) (a0 b0 c0 : Nat) (mem : Nat → Int) (pl st sp po i : Int) (h_i : rg i) : vx_Met l yX3_memory wsX3_memory rmX3_memory (zPreC t G cI [oS sq kq q2 q0, oM q0 a0 b0 c0 pl st sp po, aI cI a0 256 mem] sz [.ref sq, .int (iZ (i))]) (va_Qi (fun (r : Int32) (u : Unit) => (0 ≤ i ∧ i < 256) ∧ r = iZ (mem i.toNat)) (fun (u : Unit) t => zB G cI (va_A [oS sq kq q2 q0, oM q0 a0 b0 c0 pl st sp po, aI cI a0 256 mem] sz) [oS sq kq q2 q0, oM q0 a0 b0 c0 pl st sp po, aI cI a0 256 mem] t) (va_A [oS sq kq q2 q0, oM q0 a0 b0 c0 pl st sp po, aI cI a0 256 mem] sz)) (vx_X (fun _ => True) (fun X (u : Unit) t => (X = nOB ∧ ¬ (0 ≤ i ∧ i < 256)) ∧ zB G cI (va_A [oS sq kq q2 q0, oM q0 a0 b0 c0 pl st sp po, aI cI a0 256 mem] sz) [oS sq kq q2 q0, oM q0 a0 b0 c0 pl st sp po, aI cI a0 256 mem] t) (va_A [oS sq kq q2 q0, oM q0 a0 b0 c0 pl st sp po, aI cI a0 256 mem] sz)) 1 6 (va_A [oS sq kq q2 q0, oM q0 a0 b0 c0 pl st sp po, aI cI a0 256 mem] sz) := by
  refine zm_xi (W1 := fun (u : Unit) => [oS sq kq q2 q0, oM q0 a0 b0 c0 pl st sp po, aI cI a0 256 mem]) (WX := fun (u : Unit) => [oS sq kq q2 q0, oM q0 a0 b0 c0 pl st sp po, aI cI a0 256 mem]) (cc := cX3_memory) (maxL := 2) (ty := .int) hst rfl rfl (by decide) rfl (Nat.le_of_ble_eq_true rfl) ?_
  intro p e s m args below meth c A Q ls hsz hx hb hml hown hts hC hret hthr hout hp hl
  have hl : lv_has ls 2 [(0, .ref sq), (1, .int (iZ (i)))] := hl
  have hi3 : ∀ w ∈ wsX30, w ∈ wsX3_memory := fun w h => List.mem_cons_of_mem _ (List.mem_append_left _ (List.mem_append_left _ (List.mem_append_right _ (h))))
  have f24 := hts (.fieldLink RX3 24 "SelfOpener" "machine" "LSelfOpener$Machine;") (List.mem_of_getElem? (i := 3) rfl)
  have hi0 : ∀ w ∈ wsX00, w ∈ wsX3_memory := fun w h => List.mem_cons_of_mem _ (List.mem_append_left _ (List.mem_append_right _ (h)))
  have f135 := hts (.fieldLink RX3 135 "SelfOpener$Machine" "memory" "[I") (List.mem_of_getElem? (i := 4) rfl)
  have l48 := hts (.classLink RX3 48 "java/lang/IndexOutOfBoundsException") (List.mem_of_getElem? (i := 1) rfl)
  have ini48 := hts (.initialized "java/lang/IndexOutOfBoundsException") (List.mem_of_getElem? (i := 2) rfl)
  suffices hw : ∀ (H : Heap) (locs : List Loc), Hp G cI A s H locs [oS sq kq q2 q0, oM q0 a0 b0 c0 pl st sp po, aI cI a0 256 mem] → W p l e rmX3_memory s m args below meth c H locs 0 0 Q (F0 m 0 ls []) from hw _ _ hp
  clear hp; intro H locs hp
  refine lv_iload_n hx hb dX3_memory_0 rfl (lv_at hl 1 rfl) ?_
  refine zs_i (wr := [oS sq kq q2 q0, oM q0 a0 b0 c0 pl st sp po, aI cI a0 256 mem]) (W0 := []) (wl2 := fun (u : Unit) => [oS sq kq q2 q0, oM q0 a0 b0 c0 pl st sp po, aI cI a0 256 mem]) (As := [.int (iZ (i))]) (rest := []) hx hb hml hown hts hp (c_X3_isByte l G cI H.size i (by omega)) zPre_blind (z_pre hp [] rfl (by decide) [.int (iZ (i))]) (va_cwS 1 hts gX3_memory_X3_isByte rfl rfl rfl (by decide +kernel) ⟨Nat.le_of_ble_eq_true rfl, Nat.le_of_ble_eq_true rfl⟩) [] [0, 1, 2] [0, 1, 2] rfl rfl ⟨by decide, by decide, by decide⟩ (fun _ => rfl) rfl hl.1 rfl (Nat.le_of_ble_eq_true rfl) dX3_memory_1 ⟨Nat.le_of_ble_eq_true rfl, Nat.le_of_ble_eq_true rfl⟩ (fun rv u H locs hq1 hp => ?_)
  obtain rfl : rv = iZ (if 0 ≤ i ∧ i < 256 then 1 else 0) := hq1
  refine z_if_ne (tgt := 15) hx hb dX3_memory_4 (by decide) (by omega) (fun h2 => ?_) (fun h2 => ?_)
  · skip
    refine lv_aload_n hx hb dX3_memory_15 rfl (lv_at hl 0 rfl) ?_
    refine z_get hx hb hts hi3 hown hp 0 rfl rfl 2 (by decide) f24 rfl dX3_memory_16 ?_
    refine z_get hx hb hts hi0 hown hp 1 rfl rfl 0 (by decide) f135 rfl dX3_memory_19 ?_
    refine lv_iload_n hx hb dX3_memory_22 rfl (lv_at hl 1 rfl) ?_
    refine z_iald hx hb hp 2 rfl (i.toNat) (by omega) dX3_memory_23 (mem i.toNat) (rfl) ?_
    exact hret _ _ _ _ _ _ _ () (⟨by omega, rfl⟩) hp dX3_memory_24 (rfl) (Nat.le_of_ble_eq_true rfl) (Nat.le_of_ble_eq_true rfl)
  · skip
    exact hthr _ _ _ _ _ _ _ "java/lang/IndexOutOfBoundsException" 48 50 () (⟨rfl, by omega⟩) hp hl.1 (by decide) l48 ini48 (fun w h => hts w (List.mem_cons_of_mem _ (List.mem_append_right _ (h)))) (by decide +kernel) (by decide +kernel) dX3_memory_7 dX3_memory_10 dX3_memory_11 dX3_memory_14 (Nat.le_of_ble_eq_true rfl) (Nat.le_of_ble_eq_true rfl) (Nat.le_of_ble_eq_true rfl) (Nat.le_of_ble_eq_true rfl) (Nat.le_of_ble_eq_true rfl)
abbrev rmX3_out : Room := { frames := 6, cells := 1, slots := 6, locals := 89 }
set_option maxRecDepth 100000 in
set_option maxHeartbeats 4000000 in
theorem c_X3_out (l : Launch) (G : va_G) (cI : ClassId) (t : Nat) (hst : l.stackTraces = false) (sz : Nat) (sq kq q2 q0 : Nat) (a0 b0 c0 : Nat) (kept : Nat → Int) (pl st sp po i : Int) (h_i : rg i) (h_p : 0 ≤ po ∧ po < 2147483648) : vx_Met l yX3_out wsX3_out rmX3_out (zPreC t G cI [oS sq kq q2 q0, oM q0 a0 b0 c0 pl st sp po, aI cI c0 32 kept] sz [.ref sq, .int (iZ (i))]) (va_Qi (fun (r : Int32) (u : Unit) => (0 ≤ i ∧ i < po ∧ po - 32 ≤ i) ∧ r = iZ (kept (i % 32).toNat)) (fun (u : Unit) t => zB G cI (va_A [oS sq kq q2 q0, oM q0 a0 b0 c0 pl st sp po, aI cI c0 32 kept] sz) [oS sq kq q2 q0, oM q0 a0 b0 c0 pl st sp po, aI cI c0 32 kept] t) (va_A [oS sq kq q2 q0, oM q0 a0 b0 c0 pl st sp po, aI cI c0 32 kept] sz)) (vx_X (fun _ => True) (fun X (u : Unit) t => (X = nOB ∧ ¬ (0 ≤ i ∧ i < po ∧ po - 32 ≤ i)) ∧ zB G cI (va_A [oS sq kq q2 q0, oM q0 a0 b0 c0 pl st sp po, aI cI c0 32 kept] sz) [oS sq kq q2 q0, oM q0 a0 b0 c0 pl st sp po, aI cI c0 32 kept] t) (va_A [oS sq kq q2 q0, oM q0 a0 b0 c0 pl st sp po, aI cI c0 32 kept] sz)) 1 6 (va_A [oS sq kq q2 q0, oM q0 a0 b0 c0 pl st sp po, aI cI c0 32 kept] sz) := by
  refine zm_xi (W1 := fun (u : Unit) => [oS sq kq q2 q0, oM q0 a0 b0 c0 pl st sp po, aI cI c0 32 kept]) (WX := fun (u : Unit) => [oS sq kq q2 q0, oM q0 a0 b0 c0 pl st sp po, aI cI c0 32 kept]) (cc := cX3_out) (maxL := 2) (ty := .int) hst rfl rfl (by decide) rfl (Nat.le_of_ble_eq_true rfl) ?_
  intro p e s m args below meth c A Q ls hsz hx hb hml hown hts hC hret hthr hout hp hl
  have hl : lv_has ls 2 [(0, .ref sq), (1, .int (iZ (i)))] := hl
  have hi3 : ∀ w ∈ wsX30, w ∈ wsX3_out := fun w h => List.mem_cons_of_mem _ (List.mem_append_left _ (List.mem_append_left _ (List.mem_append_right _ (h))))
  have f24 := hts (.fieldLink RX3 24 "SelfOpener" "machine" "LSelfOpener$Machine;") (List.mem_of_getElem? (i := 3) rfl)
  have hi0 : ∀ w ∈ wsX00, w ∈ wsX3_out := fun w h => List.mem_cons_of_mem _ (List.mem_append_left _ (List.mem_append_right _ (h)))
  have f141 := hts (.fieldLink RX3 141 "SelfOpener$Machine" "kept" "[I") (List.mem_of_getElem? (i := 4) rfl)
  have l48 := hts (.classLink RX3 48 "java/lang/IndexOutOfBoundsException") (List.mem_of_getElem? (i := 1) rfl)
  have ini48 := hts (.initialized "java/lang/IndexOutOfBoundsException") (List.mem_of_getElem? (i := 2) rfl)
  suffices hw : ∀ (H : Heap) (locs : List Loc), Hp G cI A s H locs [oS sq kq q2 q0, oM q0 a0 b0 c0 pl st sp po, aI cI c0 32 kept] → W p l e rmX3_out s m args below meth c H locs 0 0 Q (F0 m 0 ls []) from hw _ _ hp
  clear hp; intro H locs hp
  refine lv_aload_n hx hb dX3_out_0 rfl (lv_at hl 0 rfl) ?_
  refine z_get hx hb hts hi3 hown hp 0 rfl rfl 2 (by decide) f24 rfl dX3_out_1 ?_
  refine lv_iload_n hx hb dX3_out_4 rfl (lv_at hl 1 rfl) ?_
  refine zc_i (wr := [oS sq kq q2 q0, aI cI c0 32 kept]) (W0 := [oM q0 a0 b0 c0 pl st sp po]) (wl2 := fun (u : Unit) => [oS sq kq q2 q0, oM q0 a0 b0 c0 pl st sp po, aI cI c0 32 kept]) (As := [.int (iZ (i))]) (rest := []) hx hb hml hown hts hp (c_X0_keeps l G cI H.size q0 a0 b0 c0 pl st sp po i (by omega) (by omega)) zPre_blind (z_pre hp [1] rfl (by decide) [.ref q0, .int (iZ (i))]) (cwV 1 hts gX3_out_X0_keeps rfl rfl rfl (by decide +kernel) ⟨Nat.le_of_ble_eq_true rfl, Nat.le_of_ble_eq_true rfl⟩) [1] [0, 2] [0, 2, 1] rfl rfl ⟨by decide, by decide, by decide⟩ (fun _ => rfl) 1 0 rfl rfl rfl rfl hl.1 rfl (Nat.le_of_ble_eq_true rfl) dX3_out_5 ⟨Nat.le_of_ble_eq_true rfl, Nat.le_of_ble_eq_true rfl⟩ (fun rv u H locs hq1 hp => ?_)
  obtain rfl : rv = iZ (if 0 ≤ i ∧ i < po ∧ po - 32 ≤ i then 1 else 0) := hq1
  refine z_if_ne (tgt := 19) hx hb dX3_out_8 (by decide) (by omega) (fun h2 => ?_) (fun h2 => ?_)
  · skip
    refine lv_aload_n hx hb dX3_out_19 rfl (lv_at hl 0 rfl) ?_
    refine z_get hx hb hts hi3 hown hp 0 rfl rfl 2 (by decide) f24 rfl dX3_out_20 ?_
    refine z_get hx hb hts hi0 hown hp 1 rfl rfl 2 (by decide) f141 rfl dX3_out_23 ?_
    refine lv_iload_n hx hb dX3_out_26 rfl (lv_at hl 1 rfl) ?_
    refine z_bipush hx hb dX3_out_27 (by decide +kernel) ?_
    refine z_irem hx hb (i % 32) (by omega) dX3_out_29 ?_
    refine z_iald hx hb hp 2 rfl ((i % 32).toNat) (by omega) dX3_out_30 (kept ((i % 32).toNat)) (rfl) ?_
    exact hret _ _ _ _ _ _ _ () (⟨by omega, rfl⟩) hp dX3_out_31 (rfl) (Nat.le_of_ble_eq_true rfl) (Nat.le_of_ble_eq_true rfl)
  · skip
    exact hthr _ _ _ _ _ _ _ "java/lang/IndexOutOfBoundsException" 48 50 () (⟨rfl, by omega⟩) hp hl.1 (by decide) l48 ini48 (fun w h => hts w (List.mem_cons_of_mem _ (List.mem_append_right _ (h)))) (by decide +kernel) (by decide +kernel) dX3_out_11 dX3_out_14 dX3_out_15 dX3_out_18 (Nat.le_of_ble_eq_true rfl) (Nat.le_of_ble_eq_true rfl) (Nat.le_of_ble_eq_true rfl) (Nat.le_of_ble_eq_true rfl) (Nat.le_of_ble_eq_true rfl)
