section ZPN
variable {p : Program} {l : Launch} {e : Env} {R : Room} {s : State} {m : MethodId} {args : Array Value} {below : List Frame} {meth : Method} {c : Code} {H : Heap} {locs : List Loc} {cells slots : Nat} {Q : State → Prop}
variable {cc : ByteArray} {pc : Nat} {ls : Array Slot} {rest : List Value} {G : va_G} {cI : ClassId} {A : Nat → Prop} {ws ws' : va_W}
theorem z_perm (hp : Hp G cI A s H locs ws) (is : List Nat) (hn : va_nd is = true) (h : is.map (fun i => ws[i]?) = ws'.map some) : Hp G cI A s H locs ws' := ⟨hp.1.sub is (z_fm h), hp.2.1.sub is hn h, hp.2.2⟩
theorem z_newl (hx : p.tables.exec = Jvm.exec) (hb : c.code = cc) (hac : (Cond.arrayClass .long).before args s = true) (hp : Hp G cI A s H locs ws) (hcells : cells + 1 ≤ R.cells) (hslots : slots + 1 ≤ R.slots) (hdg : decode cc pc = .ok (.newarray .long, 2))
    (kk : ∀ (q : Nat) (cJ : ClassId) (H1 : Heap), va_K G vwCl [(cJ, .long)] s → Hp G cI A s H1 locs (ws ++ [aJ cJ q 0]) → W p l e R s m args below meth c H1 locs (cells + 1) (slots + 1) Q (F0 m (pc + 2) ls (.ref q :: rest))) : W p l e R s m args below meth c H locs cells slots Q (F0 m pc ls (.int (iZ 1) :: rest)) := by
  refine va_newa (atype := .long) (ty := .long) (a0 := (1, .inr (.inl (fun _ => 0)))) hx hb hac rfl hp.2.2.2.1 hp.1 hp.2.1 hp.2.2.1 hp.2.2.2.2 (fun cA => rfl) ?_ (iZ_cl (k := 1) rfl (by decide)) (Nat.le_of_ble_eq_true rfl) hcells hslots hdg (fun q cJ H1 hK hP hD hS => kk q cJ H1 (hK.sub [1] rfl) ⟨hP, hD, hS, hp.2.2.2.1, hp.2.2.2.2⟩)
  intro h
  have h2 := (iZ_lt (a := 1) (b := 0) ⟨by omega, by omega⟩ ⟨by decide, by decide⟩).mp h
  omega
end ZPN
theorem LI_0 : LI 0 (fun _ => 0) (fun _ => 0) (fun _ => 0) (fun _ => 0, fun _ => 0, fun _ => 0, 0, 1, 0, 0) 0 0 0 0 0 0 (-1) 0 0 0 := by
  refine ⟨⟨by omega, by omega⟩, BB_0 160, by omega, by omega, fun q => by omega, ⟨by decide, by decide⟩, fun q => absurd rfl q, BB_0 256, BB_0 8, BB_0 32, ?_, ?_, ?_, ?_⟩
  · show (0 : Int) ≤ 0 ∧ (0 : Int) < 256; omega
  · show (0 : Int) ≤ 1 ∧ (1 : Int) ≤ 2; omega
  · show (0 : Int) ≤ 0 ∧ (0 : Int) ≤ 4000 * ((0 : Nat) : Int); omega
  · show (0 : Int) ≤ 0 ∧ (0 : Int) ≤ 4000 * ((0 : Nat) : Int); omega
set_option maxRecDepth 100000 in
set_option maxHeartbeats 4000000 in
theorem law_loop {p : Program} {l : Launch} {e : Env} {s : State} {m : MethodId} {args : Array Value} {below : List Frame} {meth : Method} {c : Code} {Q : State → Prop} {G : va_G} {cI cJ : ClassId} {A : Nat → Prop} {t b L : Nat} {xs : Nat → Int32} (hst : l.stackTraces = false) (hx : p.tables.exec = Jvm.exec) (hb : c.code = cL_law) (hml : c.maxLocals = 7) (hown : s.vm.findClass RL = some m.cls) (hts0 : ∀ w ∈ lw_tbl, w.before args s = true) (hC : zC t A s s.heap) (hJ : va_K G vwCl [(cJ, .long)] s) (hX9 : va_X b L xs s s.heap) (hbl : b < s.heap.size) (hbA : ¬ A b) (hL : L ≤ 2048) (sq kq q2 q0 ks kc km kd kl b2 o2 a0 b0 c0 mq mp m1 m2 m3 m4 m5 m6 m7 m8 m9 lq : Nat) (hend : ∀ (H : Heap) (locs : List Loc) (ls : Array Slot) (cells slots : Nat), cells ≤ 1070 → slots ≤ 11439 → va_S A s.heap H locs → W p l e room_1 s m args below meth c H locs (cells) (slots) Q (F0 m 851 ls [])) : ∀ (N k : Nat) (pb ob opn strm cst mks dst lks strm2 cst2 tok dst2 rgt : Nat → Int) (mw : MS) (n org : Nat) (ent ed ln gp ek th kn gp2 ln2 : Int) (v : Int64) (H : Heap) (locs : List Loc) (ls : Array Slot), LI k pb strm strm2 mw n org ent ed ln gp ek kn gp2 ln2 → 4 * k ≤ L → L - 4 * k < N → Hp G cI A s H locs [oS sq kq q2 q0, oK kq q2 ks ln gp ek kc km kd kl, aI cI ks 163 strm, aI cI kc 161 cst, aI cI km 160 mks, aI cI kd 160 dst, aI cI kl 160 lks, oP q2 b2 o2 (↑n) (↑org) ent ed, aI cI b2 160 pb, aI cI o2 160 ob, oM q0 a0 b0 c0 mw.2.2.2.1 mw.2.2.2.2.1 mw.2.2.2.2.2.1 mw.2.2.2.2.2.2, aI cI a0 256 mw.1, aI cI b0 8 mw.2.1, aI cI c0 32 mw.2.2.1, oR mq th (↑n) mp (↑org) ent kn gp2 ln2 m1 m2 m3 m4 m5 m6 m7 m8 mw.2.2.2.1 mw.2.2.2.2.1 mw.2.2.2.2.2.1 mw.2.2.2.2.2.2 m9, aI cI mp 160 pb, aI cI m1 400 strm2, aI cI m2 161 cst2, aI cI m3 161 tok, aI cI m4 161 dst2, aI cI m5 161 rgt, aI cI m6 160 opn, aI cI m7 256 mw.1, aI cI m8 8 mw.2.1, aI cI m9 32 mw.2.2.1, aJ cJ lq v] → lv_has ls 7 [(4, .int (iZ (↑(4 * k)))), (0, .ref b), (1, .ref sq), (2, .ref mq), (3, .ref lq)] → W p l e room_1 s m args below meth c H locs (26 + k) (3127 + 6 * k) Q (F0 m 23 ls []) := by
  intro N
  induction N with
  | zero => intros; exfalso; omega
  | succ N ih =>
    intro k pb ob opn strm cst mks dst lks strm2 cst2 tok dst2 rgt mw n org ent ed ln gp ek th kn gp2 ln2 v H locs ls hI hkL hN hp hl
    have hback : 4 * k + 4 ≤ L → ∀ (pb ob opn strm cst mks dst lks strm2 cst2 tok dst2 rgt : Nat → Int) (mw : MS) (n org : Nat) (ent ed ln gp ek th kn gp2 ln2 : Int) (v : Int64) (H : Heap) (locs : List Loc) (ls : Array Slot), LI (k + 1) pb strm strm2 mw n org ent ed ln gp ek kn gp2 ln2 → Hp G cI A s H locs [oS sq kq q2 q0, oK kq q2 ks ln gp ek kc km kd kl, aI cI ks 163 strm, aI cI kc 161 cst, aI cI km 160 mks, aI cI kd 160 dst, aI cI kl 160 lks, oP q2 b2 o2 (↑n) (↑org) ent ed, aI cI b2 160 pb, aI cI o2 160 ob, oM q0 a0 b0 c0 mw.2.2.2.1 mw.2.2.2.2.1 mw.2.2.2.2.2.1 mw.2.2.2.2.2.2, aI cI a0 256 mw.1, aI cI b0 8 mw.2.1, aI cI c0 32 mw.2.2.1, oR mq th (↑n) mp (↑org) ent kn gp2 ln2 m1 m2 m3 m4 m5 m6 m7 m8 mw.2.2.2.1 mw.2.2.2.2.1 mw.2.2.2.2.2.1 mw.2.2.2.2.2.2 m9, aI cI mp 160 pb, aI cI m1 400 strm2, aI cI m2 161 cst2, aI cI m3 161 tok, aI cI m4 161 dst2, aI cI m5 161 rgt, aI cI m6 160 opn, aI cI m7 256 mw.1, aI cI m8 8 mw.2.1, aI cI m9 32 mw.2.2.1, aJ cJ lq v] → lv_has ls 7 [(4, .int (iZ (↑(4 * k)))), (0, .ref b), (1, .ref sq), (2, .ref mq), (3, .ref lq)] → W p l e room_1 s m args below meth c H locs (26 + k + 1) (3127 + 6 * k + 6) Q (F0 m 845 ls []) := by
      intro hk4 pb ob opn strm cst mks dst lks strm2 cst2 tok dst2 rgt mw n org ent ed ln gp ek th kn gp2 ln2 v H locs ls hI hp hl
      refine z_iinc (k := 0) (lv' := [(4, .int (iZ (↑(4 * (k + 1))))), (0, .ref b), (1, .ref sq), (2, .ref mq), (3, .ref lq)]) hx hb (((4 * (k + 1) : Nat) : Int)) (by omega) dL_law_845 hl rfl (by decide) rfl (fun ls hl => ?_)
      refine lv_goto (tgt := 23) hx hb dL_law_848 (by decide) ?_
      rw [show 26 + k + 1 = 26 + (k + 1) by omega, show 3127 + 6 * k + 6 = 3127 + 6 * (k + 1) by omega]
      exact ih (k + 1) pb ob opn strm cst mks dst lks strm2 cst2 tok dst2 rgt mw n org ent ed ln gp ek th kn gp2 ln2 v H locs ls hI (by omega) (by omega) hp hl
    obtain ⟨h_e1, h_e2⟩ : 26 + k + 1 ≤ 1070 ∧ 3127 + 6 * k + 6 ≤ 11439 := by omega
    obtain ⟨x0, hx0, hr0⟩ : ∃ z : Int, xs (4 * k + 0) = iZ z ∧ rg z := ⟨(xs (4 * k + 0)).toInt, (iZ_of _).symm, iZ_rng _⟩
    obtain ⟨x1, hx1, hr1⟩ : ∃ z : Int, xs (4 * k + 1) = iZ z ∧ rg z := ⟨(xs (4 * k + 1)).toInt, (iZ_of _).symm, iZ_rng _⟩
    obtain ⟨x2, hx2, hr2⟩ : ∃ z : Int, xs (4 * k + 2) = iZ z ∧ rg z := ⟨(xs (4 * k + 2)).toInt, (iZ_of _).symm, iZ_rng _⟩
    obtain ⟨x3, hx3, hr3⟩ : ∃ z : Int, xs (4 * k + 3) = iZ z ∧ rg z := ⟨(xs (4 * k + 3)).toInt, (iZ_of _).symm, iZ_rng _⟩
    refine lv_iload hx hb dL_law_23 (lv_at hl 0 rfl) ?_
    refine lv_aload_n hx hb dL_law_25 rfl (lv_at hl 1 rfl) ?_
    refine z_slen hx hb hX9 hbl hbA hp dL_law_26 ?_
    refine z_iconst hx hb dL_law_27 ?_
    refine z_isub hx hb ((((L : Nat) : Int)) - 4) (rfl) dL_law_28 ?_
    refine z_icmp_gt (tgt := 851) hx hb dL_law_29 (by decide) (by omega) (fun h1 => ?_) (fun h1 => ?_)
    · skip
      exact hend _ _ _ _ _ (by omega) (by omega) hp.2.2.1
    · skip
      refine lv_aload_n hx hb dL_law_32 rfl (lv_at hl 1 rfl) ?_
      refine lv_iload hx hb dL_law_33 (lv_at hl 0 rfl) ?_
      refine z_sld hx hb hX9 hbl hbA hp (4 * k + 0) (by omega) x0 hx0 dL_law_35 ?_
      refine z_bipush hx hb dL_law_36 (by decide +kernel) ?_
      refine z_iand hx hb (x0 % 32) (iZ_and x0 5 (by decide) (by decide)) dL_law_38 ?_
      by_cases hk2 : x0 % 32 = 0
      · skip
        refine z_top (0) hk2 ?_
        refine z_tsI (off := 81) (tgt := 120) hx hb dL_law_39 (by decide) (by decide) (by decide) (by decide +kernel) (by decide) ?_
        exact law_put hst hx hb hml hown hts0 hC hJ hX9 hbl hbA (26 + k) (3127 + 6 * k) k (by omega) (by omega) sq kq q2 q0 ks kc km kd kl b2 o2 a0 b0 c0 mq mp m1 m2 m3 m4 m5 m6 m7 m8 m9 lq pb ob opn strm cst mks dst lks strm2 cst2 tok dst2 rgt mw n org ent ed ln gp ek th kn gp2 ln2 v hI x1 x2 x3 hx1 hx2 hx3 ⟨hr1, hr2, hr3⟩ (hback (by omega)) _ _ _ hp (lv_sub hl [0, 1, 2, 3, 4] rfl)
      by_cases hk3 : x0 % 32 = 1
      · skip
        refine z_top (1) hk3 ?_
        refine z_tsI (off := 150) (tgt := 189) hx hb dL_law_39 (by decide) (by decide) (by decide) (by decide +kernel) (by decide) ?_
        exact law_again hst hx hb hml hown hts0 hC hJ hX9 hbl hbA (26 + k) (3127 + 6 * k) k (by omega) (by omega) sq kq q2 q0 ks kc km kd kl b2 o2 a0 b0 c0 mq mp m1 m2 m3 m4 m5 m6 m7 m8 m9 lq pb ob opn strm cst mks dst lks strm2 cst2 tok dst2 rgt mw n org ent ed ln gp ek th kn gp2 ln2 v hI x1 x2 x3 hx1 hx2 hx3 ⟨hr1, hr2, hr3⟩ (hback (by omega)) _ _ _ hp (lv_sub hl [0, 1, 2, 3, 4] rfl)
      by_cases hk4 : x0 % 32 = 2
      · skip
        refine z_top (2) hk4 ?_
        refine z_tsI (off := 187) (tgt := 226) hx hb dL_law_39 (by decide) (by decide) (by decide) (by decide +kernel) (by decide) ?_
        exact law_change hst hx hb hml hown hts0 hC hJ hX9 hbl hbA (26 + k) (3127 + 6 * k) k (by omega) (by omega) sq kq q2 q0 ks kc km kd kl b2 o2 a0 b0 c0 mq mp m1 m2 m3 m4 m5 m6 m7 m8 m9 lq pb ob opn strm cst mks dst lks strm2 cst2 tok dst2 rgt mw n org ent ed ln gp ek th kn gp2 ln2 v hI x1 x2 x3 hx1 hx2 hx3 ⟨hr1, hr2, hr3⟩ (hback (by omega)) _ _ _ hp (lv_sub hl [0, 1, 2, 3, 4] rfl)
      by_cases hk5 : x0 % 32 = 3
      · skip
        refine z_top (3) hk5 ?_
        refine z_tsI (off := 235) (tgt := 274) hx hb dL_law_39 (by decide) (by decide) (by decide) (by decide +kernel) (by decide) ?_
        exact law_cut hst hx hb hml hown hts0 hC hJ hX9 hbl hbA (26 + k) (3127 + 6 * k) k (by omega) (by omega) sq kq q2 q0 ks kc km kd kl b2 o2 a0 b0 c0 mq mp m1 m2 m3 m4 m5 m6 m7 m8 m9 lq pb ob opn strm cst mks dst lks strm2 cst2 tok dst2 rgt mw n org ent ed ln gp ek th kn gp2 ln2 v hI x1 x2 x3 hx1 hx2 hx3 ⟨hr1, hr2, hr3⟩ (hback (by omega)) _ _ _ hp (lv_sub hl [0, 1, 2, 3, 4] rfl)
      by_cases hk6 : x0 % 32 = 4
      · skip
        refine z_top (4) hk6 ?_
        refine z_tsI (off := 271) (tgt := 310) hx hb dL_law_39 (by decide) (by decide) (by decide) (by decide +kernel) (by decide) ?_
        exact law_place hst hx hb hml hown hts0 hC hJ hX9 hbl hbA (26 + k) (3127 + 6 * k) k (by omega) (by omega) sq kq q2 q0 ks kc km kd kl b2 o2 a0 b0 c0 mq mp m1 m2 m3 m4 m5 m6 m7 m8 m9 lq pb ob opn strm cst mks dst lks strm2 cst2 tok dst2 rgt mw n org ent ed ln gp ek th kn gp2 ln2 v hI x1 x2 x3 hx1 hx2 hx3 ⟨hr1, hr2, hr3⟩ (hback (by omega)) _ _ _ hp (lv_sub hl [0, 1, 2, 3, 4] rfl)
      by_cases hk7 : x0 % 32 = 5
      · skip
        refine z_top (5) hk7 ?_
        refine z_tsI (off := 319) (tgt := 358) hx hb dL_law_39 (by decide) (by decide) (by decide) (by decide +kernel) (by decide) ?_
        exact law_size hst hx hb hml hown hts0 hC hJ hX9 hbl hbA (26 + k) (3127 + 6 * k) k (by omega) (by omega) sq kq q2 q0 ks kc km kd kl b2 o2 a0 b0 c0 mq mp m1 m2 m3 m4 m5 m6 m7 m8 m9 lq pb ob opn strm cst mks dst lks strm2 cst2 tok dst2 rgt mw n org ent ed ln gp ek th kn gp2 ln2 v hI x1 x2 x3 hx1 hx2 hx3 ⟨hr1, hr2, hr3⟩ (hback (by omega)) _ _ _ hp (lv_sub hl [0, 1, 2, 3, 4] rfl)
      by_cases hk8 : x0 % 32 = 6
      · skip
        refine z_top (6) hk8 ?_
        refine z_tsI (off := 332) (tgt := 371) hx hb dL_law_39 (by decide) (by decide) (by decide) (by decide +kernel) (by decide) ?_
        exact law_packed hst hx hb hml hown hts0 hC hJ hX9 hbl hbA (26 + k) (3127 + 6 * k) k (by omega) (by omega) sq kq q2 q0 ks kc km kd kl b2 o2 a0 b0 c0 mq mp m1 m2 m3 m4 m5 m6 m7 m8 m9 lq pb ob opn strm cst mks dst lks strm2 cst2 tok dst2 rgt mw n org ent ed ln gp ek th kn gp2 ln2 v hI x1 x2 x3 hx1 hx2 hx3 ⟨hr1, hr2, hr3⟩ (hback (by omega)) _ _ _ hp (lv_sub hl [0, 1, 2, 3, 4] rfl)
      by_cases hk9 : x0 % 32 = 7
      · skip
        refine z_top (7) hk9 ?_
        refine z_tsI (off := 345) (tgt := 384) hx hb dL_law_39 (by decide) (by decide) (by decide) (by decide +kernel) (by decide) ?_
        exact law_stream hst hx hb hml hown hts0 hC hJ hX9 hbl hbA (26 + k) (3127 + 6 * k) k (by omega) (by omega) sq kq q2 q0 ks kc km kd kl b2 o2 a0 b0 c0 mq mp m1 m2 m3 m4 m5 m6 m7 m8 m9 lq pb ob opn strm cst mks dst lks strm2 cst2 tok dst2 rgt mw n org ent ed ln gp ek th kn gp2 ln2 v hI x1 x2 x3 hx1 hx2 hx3 ⟨hr1, hr2, hr3⟩ (hback (by omega)) _ _ _ hp (lv_sub hl [0, 1, 2, 3, 4] rfl)
      by_cases hk10 : x0 % 32 = 8
      · skip
        refine z_top (8) hk10 ?_
        refine z_tsI (off := 401) (tgt := 440) hx hb dL_law_39 (by decide) (by decide) (by decide) (by decide +kernel) (by decide) ?_
        exact law_gap hst hx hb hml hown hts0 hC hJ hX9 hbl hbA (26 + k) (3127 + 6 * k) k (by omega) (by omega) sq kq q2 q0 ks kc km kd kl b2 o2 a0 b0 c0 mq mp m1 m2 m3 m4 m5 m6 m7 m8 m9 lq pb ob opn strm cst mks dst lks strm2 cst2 tok dst2 rgt mw n org ent ed ln gp ek th kn gp2 ln2 v hI x1 x2 x3 hx1 hx2 hx3 ⟨hr1, hr2, hr3⟩ (hback (by omega)) _ _ _ hp (lv_sub hl [0, 1, 2, 3, 4] rfl)
      by_cases hk11 : x0 % 32 = 9
      · skip
        refine z_top (9) hk11 ?_
        refine z_tsI (off := 414) (tgt := 453) hx hb dL_law_39 (by decide) (by decide) (by decide) (by decide +kernel) (by decide) ?_
        exact law_unpack hst hx hb hml hown hts0 hC hJ hX9 hbl hbA (26 + k) (3127 + 6 * k) k (by omega) (by omega) sq kq q2 q0 ks kc km kd kl b2 o2 a0 b0 c0 mq mp m1 m2 m3 m4 m5 m6 m7 m8 m9 lq pb ob opn strm cst mks dst lks strm2 cst2 tok dst2 rgt mw n org ent ed ln gp ek th kn gp2 ln2 v hI x1 x2 x3 hx1 hx2 hx3 ⟨hr1, hr2, hr3⟩ (hback (by omega)) _ _ _ hp (lv_sub hl [0, 1, 2, 3, 4] rfl)
      by_cases hk12 : x0 % 32 = 10
      · skip
        refine z_top (10) hk12 ?_
        refine z_tsI (off := 458) (tgt := 497) hx hb dL_law_39 (by decide) (by decide) (by decide) (by decide +kernel) (by decide) ?_
        exact law_load hst hx hb hml hown hts0 hC hJ hX9 hbl hbA (26 + k) (3127 + 6 * k) k (by omega) (by omega) sq kq q2 q0 ks kc km kd kl b2 o2 a0 b0 c0 mq mp m1 m2 m3 m4 m5 m6 m7 m8 m9 lq pb ob opn strm cst mks dst lks strm2 cst2 tok dst2 rgt mw n org ent ed ln gp ek th kn gp2 ln2 v hI x1 x2 x3 hx1 hx2 hx3 ⟨hr1, hr2, hr3⟩ (hback (by omega)) _ _ _ hp (lv_sub hl [0, 1, 2, 3, 4] rfl)
      by_cases hk13 : x0 % 32 = 11
      · skip
        refine z_top (11) hk13 ?_
        refine z_tsI (off := 482) (tgt := 521) hx hb dL_law_39 (by decide) (by decide) (by decide) (by decide +kernel) (by decide) ?_
        exact law_loadPacked hst hx hb hml hown hts0 hC hJ hX9 hbl hbA (26 + k) (3127 + 6 * k) k (by omega) (by omega) sq kq q2 q0 ks kc km kd kl b2 o2 a0 b0 c0 mq mp m1 m2 m3 m4 m5 m6 m7 m8 m9 lq pb ob opn strm cst mks dst lks strm2 cst2 tok dst2 rgt mw n org ent ed ln gp ek th kn gp2 ln2 v hI x1 x2 x3 hx1 hx2 hx3 ⟨hr1, hr2, hr3⟩ (hback (by omega)) _ _ _ hp (lv_sub hl [0, 1, 2, 3, 4] rfl)
      by_cases hk14 : x0 % 32 = 12
      · skip
        refine z_top (12) hk14 ?_
        refine z_tsI (off := 526) (tgt := 565) hx hb dL_law_39 (by decide) (by decide) (by decide) (by decide +kernel) (by decide) ?_
        exact law_run hst hx hb hml hown hts0 hC hJ hX9 hbl hbA (26 + k) (3127 + 6 * k) k (by omega) (by omega) sq kq q2 q0 ks kc km kd kl b2 o2 a0 b0 c0 mq mp m1 m2 m3 m4 m5 m6 m7 m8 m9 lq pb ob opn strm cst mks dst lks strm2 cst2 tok dst2 rgt mw n org ent ed ln gp ek th kn gp2 ln2 v hI x1 x2 x3 hx1 hx2 hx3 ⟨hr1, hr2, hr3⟩ (hback (by omega)) _ _ _ hp (lv_sub hl [0, 1, 2, 3, 4] rfl)
      by_cases hk15 : x0 % 32 = 13
      · skip
        refine z_top (13) hk15 ?_
        refine z_tsI (off := 594) (tgt := 633) hx hb dL_law_39 (by decide) (by decide) (by decide) (by decide +kernel) (by decide) ?_
        exact law_look hst hx hb hml hown hts0 hC hJ hX9 hbl hbA (26 + k) (3127 + 6 * k) k (by omega) (by omega) sq kq q2 q0 ks kc km kd kl b2 o2 a0 b0 c0 mq mp m1 m2 m3 m4 m5 m6 m7 m8 m9 lq pb ob opn strm cst mks dst lks strm2 cst2 tok dst2 rgt mw n org ent ed ln gp ek th kn gp2 ln2 v hI x1 x2 x3 hx1 hx2 hx3 ⟨hr1, hr2, hr3⟩ (hback (by omega)) _ _ _ hp (lv_sub hl [0, 1, 2, 3, 4] rfl)
      by_cases hk16 : x0 % 32 = 14
      · skip
        refine z_top (14) hk16 ?_
        refine z_tsI (off := 650) (tgt := 689) hx hb dL_law_39 (by decide) (by decide) (by decide) (by decide +kernel) (by decide) ?_
        exact law_memory hst hx hb hml hown hts0 hC hJ hX9 hbl hbA (26 + k) (3127 + 6 * k) k (by omega) (by omega) sq kq q2 q0 ks kc km kd kl b2 o2 a0 b0 c0 mq mp m1 m2 m3 m4 m5 m6 m7 m8 m9 lq pb ob opn strm cst mks dst lks strm2 cst2 tok dst2 rgt mw n org ent ed ln gp ek th kn gp2 ln2 v hI x1 x2 x3 hx1 hx2 hx3 ⟨hr1, hr2, hr3⟩ (hback (by omega)) _ _ _ hp (lv_sub hl [0, 1, 2, 3, 4] rfl)
      by_cases hk17 : x0 % 32 = 15
      · skip
        refine z_top (15) hk17 ?_
        refine z_tsI (off := 706) (tgt := 745) hx hb dL_law_39 (by decide) (by decide) (by decide) (by decide +kernel) (by decide) ?_
        exact law_out hst hx hb hml hown hts0 hC hJ hX9 hbl hbA (26 + k) (3127 + 6 * k) k (by omega) (by omega) sq kq q2 q0 ks kc km kd kl b2 o2 a0 b0 c0 mq mp m1 m2 m3 m4 m5 m6 m7 m8 m9 lq pb ob opn strm cst mks dst lks strm2 cst2 tok dst2 rgt mw n org ent ed ln gp ek th kn gp2 ln2 v hI x1 x2 x3 hx1 hx2 hx3 ⟨hr1, hr2, hr3⟩ (hback (by omega)) _ _ _ hp (lv_sub hl [0, 1, 2, 3, 4] rfl)
      by_cases hk18 : x0 % 32 = 16
      · skip
        refine z_top (16) hk18 ?_
        refine z_tsI (off := 762) (tgt := 801) hx hb dL_law_39 (by decide) (by decide) (by decide) (by decide +kernel) (by decide) ?_
        exact law_apart hst hx hb hml hown hts0 hC hJ hX9 hbl hbA (26 + k) (3127 + 6 * k) k (by omega) (by omega) sq kq q2 q0 ks kc km kd kl b2 o2 a0 b0 c0 mq mp m1 m2 m3 m4 m5 m6 m7 m8 m9 lq pb ob opn strm cst mks dst lks strm2 cst2 tok dst2 rgt mw n org ent ed ln gp ek th kn gp2 ln2 v hI x1 x2 x3 hx1 hx2 hx3 ⟨hr1, hr2, hr3⟩ (hback (by omega)) _ _ _ hp (lv_sub hl [0, 1, 2, 3, 4] rfl)
      refine z_tsO (tgt := 845) hx hb dL_law_39 (by omega) (by omega) (by decide) ?_
      refine W.widen (k := 26 + k + 1) (n := 3127 + 6 * k + 6) (by omega) (by omega) ?_
      exact hback (by omega) pb ob opn strm cst mks dst lks strm2 cst2 tok dst2 rgt mw n org ent ed ln gp ek th kn gp2 ln2 v _ _ _ (LI_next hI) hp (lv_sub hl [0, 1, 2, 3, 4] rfl)
