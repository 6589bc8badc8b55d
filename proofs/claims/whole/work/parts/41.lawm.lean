abbrev rmL_change : Room := { frames := 9, cells := 1, slots := 6, locals := 200 }
set_option maxRecDepth 100000 in
set_option maxHeartbeats 4000000 in
theorem c_L_change (l : Launch) (G : va_G) (cI cJ : ClassId) (t : Nat) (hst : l.stackTraces = false) (sz : Nat) (sq kq q2 q0 : Nat) (b2 o2 : Nat) (pb : Nat → Int) (n org : Nat) (ent ed : Int) (i z : Int) (h_n : n ≤ 160) (h_i : rg i) (h_v : rg z) : Met l yL_change wsL_change rmL_change (zPreL t G cI cJ [oS sq kq q2 q0, oP q2 b2 o2 (↑n) (↑org) ent ed, aI cI b2 160 pb] sz [.ref sq, .int (iZ (i)), .int (iZ (z))]) (va_Qi (fun (r : Int32) (u : Int × (Nat → Int)) => r = iZ (if ¬ (0 ≤ i ∧ i < ↑n) then 1 else if ¬ (0 ≤ z ∧ z < 256) then 2 else 0) ∧ u = if ((if ¬ (0 ≤ i ∧ i < ↑n) then 1 else if ¬ (0 ≤ z ∧ z < 256) then 2 else 0) : Int) = 0 then (ed + 1, upZ pb i.toNat z) else (ed, pb)) (fun (u : Int × (Nat → Int)) t => zB G cI (va_A [oS sq kq q2 q0, oP q2 b2 o2 (↑n) (↑org) ent ed, aI cI b2 160 pb] sz) [oS sq kq q2 q0, oP q2 b2 o2 (↑n) (↑org) ent u.1, aI cI b2 160 u.2] t) (va_A [oS sq kq q2 q0, oP q2 b2 o2 (↑n) (↑org) ent ed, aI cI b2 160 pb] sz)) 1 6 (va_A [oS sq kq q2 q0, oP q2 b2 o2 (↑n) (↑org) ent ed, aI cI b2 160 pb] sz) := by
  refine zm_h (W1 := fun (u : Int × (Nat → Int)) => [oS sq kq q2 q0, oP q2 b2 o2 (((n : Nat) : Int)) (((org : Nat) : Int)) ent u.1, aI cI b2 160 u.2]) (cc := cL_change) (maxL := 4) (ty := .int) (hh := [(0, 6, 9, 13), (0, 6, 12, 15)]) (by decide) rfl (Nat.le_of_ble_eq_true rfl) ?_
  intro p e s m args below meth c A Q ls hsz hx hb hml hown hts hC hJ htab hret hp hl
  have hl : lv_has ls 4 [(0, .ref sq), (1, .int (iZ (i))), (2, .int (iZ (z)))] := hl
  have l13 := hts (.classLink RL 13 "java/lang/IndexOutOfBoundsException") (List.mem_of_getElem? (i := 1) rfl)
  have l15 := hts (.classLink RL 15 "java/lang/IllegalArgumentException") (List.mem_of_getElem? (i := 2) rfl)
  suffices hw : ∀ (H : Heap) (locs : List Loc), Hp G cI A s H locs [oS sq kq q2 q0, oP q2 b2 o2 (↑n) (↑org) ent ed, aI cI b2 160 pb] → W p l e rmL_change s m args below meth c H locs 0 0 Q (F0 m 0 ls []) from hw _ _ hp
  clear hp; intro H locs hp
  refine lv_aload_n hx hb dL_change_0 rfl (lv_at hl 0 rfl) ?_
  refine lv_iload_n hx hb dL_change_1 rfl (lv_at hl 1 rfl) ?_
  refine lv_iload_n hx hb dL_change_2 rfl (lv_at hl 2 rfl) ?_
  have hcat : ∀ (X : String) (ce : Cell) (q9 : Addr) (u : Unit) (H : Heap) (locs : List Loc), ((X = nOB ∧ ¬ (0 ≤ i ∧ i < ↑n)) ∨ (X = nIA ∧ (0 ≤ i ∧ i < ↑n) ∧ ¬ (0 ≤ z ∧ z < 256))) → Hp G cI A s H locs [oS sq kq q2 q0, oP q2 b2 o2 (↑n) (↑org) ent ed, aI cI b2 160 pb] → H[q9]? = some ce → ce.vm = .none → s.vm.findClass X = some ce.cls → vx_W p l e rmL_change s m args below meth c H locs (0 + 1) (0 + 6) Q (F0 m 3 ls []) q9 := by
    intro X ce q9 u H locs hpx hp hce hcv hcl
    rcases hpx with ⟨rfl, h1⟩ | ⟨rfl, h1, h2⟩
    · skip
      have hk9 : W p l e rmL_change s m args below meth c H locs (0 + 1) (0 + 6) Q (F0 m 9 ls [.ref q9]) := by
        refine lv_astore_n (lv' := [(3, .ref q9), (0, .ref sq), (1, .int (iZ (i))), (2, .int (iZ (z)))]) hx hb dL_change_9 rfl hl (by decide) rfl (fun ls hl => ?_)
        refine z_iconst hx hb dL_change_10 ?_
        exact hret _ _ _ _ _ _ _ (ed, pb) (⟨congrArg iZ (by (repeat' split) <;> omega), by rw [if_neg (by (repeat' split) <;> omega)]⟩) hp dL_change_11 (rfl) (Nat.le_of_ble_eq_true rfl) (Nat.le_of_ble_eq_true rfl)
      exact vx_catch hown [] ⟨0, 6, 9, 13⟩ [⟨0, 6, 12, 15⟩] htab (fun _ h => absurd h List.not_mem_nil) (by decide) (by decide) l13 ((hC.1.2.1 _ (by decide)).use rfl) hce hcv hcl hk9
    · skip
      have hk9 : W p l e rmL_change s m args below meth c H locs (0 + 1) (0 + 6) Q (F0 m 12 ls [.ref q9]) := by
        refine lv_astore_n (lv' := [(3, .ref q9), (0, .ref sq), (1, .int (iZ (i))), (2, .int (iZ (z)))]) hx hb dL_change_12 rfl hl (by decide) rfl (fun ls hl => ?_)
        refine z_iconst hx hb dL_change_13 ?_
        exact hret _ _ _ _ _ _ _ (ed, pb) (⟨congrArg iZ (by (repeat' split) <;> omega), by rw [if_neg (by (repeat' split) <;> omega)]⟩) hp dL_change_14 (rfl) (Nat.le_of_ble_eq_true rfl) (Nat.le_of_ble_eq_true rfl)
      exact vx_catch hown [⟨0, 6, 9, 13⟩] ⟨0, 6, 12, 15⟩ [] htab (List.forall_mem_cons.mpr ⟨Or.inr ⟨by decide, "java/lang/IndexOutOfBoundsException", l13, hC.1.2.2.1⟩, fun _ h => absurd h List.not_mem_nil⟩) (by decide) (by decide) l15 ((hC.1.2.1 _ (by decide)).use rfl) hce hcv hcl hk9
  refine zx_v (wr := []) (W0 := [oS sq kq q2 q0, oP q2 b2 o2 (↑n) (↑org) ent ed, aI cI b2 160 pb]) (wl2 := fun (u : Unit) => [oS sq kq q2 q0, oP q2 b2 o2 (↑n) (↑org) ent (ed + 1), aI cI b2 160 (upZ pb i.toNat z)]) (As := [.int (iZ (i)), .int (iZ (z))]) (rest := []) (wlX := fun (u : Unit) => [oS sq kq q2 q0, oP q2 b2 o2 (↑n) (↑org) ent ed, aI cI b2 160 pb]) hx hb hml hown hts hp (c_X3_change l G cI t hst H.size sq kq q2 q0 b2 o2 pb n org ent ed i z (by omega) (by omega) (by omega)) zPreC_blind (z_preC hC hp [0, 1, 2] rfl (by decide) [.ref sq, .int (iZ (i)), .int (iZ (z))]) (cwV 2 hts gL_change_X3_change rfl rfl rfl (by decide +kernel) ⟨Nat.le_of_ble_eq_true rfl, Nat.le_of_ble_eq_true rfl⟩) [0, 1, 2] [] [0, 1, 2] rfl rfl ⟨by decide, by decide, by decide⟩ (fun _ => rfl) (fun _ => rfl) 0 3 rfl rfl rfl rfl hl.1 rfl (Nat.le_of_ble_eq_true rfl) dL_change_3 ⟨Nat.le_of_ble_eq_true rfl, Nat.le_of_ble_eq_true rfl⟩ hcat (fun u H locs hq1 hp => ?_)
  have hok := hq1
  refine lv_goto (tgt := 15) hx hb dL_change_6 (by decide) ?_
  refine z_iconst hx hb dL_change_15 ?_
  exact hret _ _ _ _ _ _ _ (ed + 1, upZ pb i.toNat z) (⟨congrArg iZ (by (repeat' split) <;> omega), by rw [if_pos (by (repeat' split) <;> omega)]⟩) hp dL_change_16 (rfl) (Nat.le_of_ble_eq_true rfl) (Nat.le_of_ble_eq_true rfl)
abbrev rmL_cut : Room := { frames := 9, cells := 1, slots := 6, locals := 200 }
set_option maxRecDepth 100000 in
set_option maxHeartbeats 4000000 in
theorem c_L_cut (l : Launch) (G : va_G) (cI cJ : ClassId) (t : Nat) (hst : l.stackTraces = false) (sz : Nat) (sq kq q2 q0 : Nat) (b2 o2 : Nat) (pb : Nat → Int) (n org : Nat) (ent ed : Int) (k : Int) (h_n : n ≤ 160) (h_k : rg k) : Met l yL_cut wsL_cut rmL_cut (zPreL t G cI cJ [oS sq kq q2 q0, oP q2 b2 o2 (↑n) (↑org) ent ed] sz [.ref sq, .int (iZ (k))]) (va_Qi (fun (r : Int32) (u : Int × Nat) => r = iZ (if 0 ≤ k ∧ k ≤ ↑n then 0 else 1) ∧ u = if 0 ≤ k ∧ k ≤ ↑n then (ed + 1, k.toNat) else (ed, n)) (fun (u : Int × Nat) t => zB G cI (va_A [oS sq kq q2 q0, oP q2 b2 o2 (↑n) (↑org) ent ed] sz) [oS sq kq q2 q0, oP q2 b2 o2 (↑u.2) (↑org) ent u.1] t) (va_A [oS sq kq q2 q0, oP q2 b2 o2 (↑n) (↑org) ent ed] sz)) 1 6 (va_A [oS sq kq q2 q0, oP q2 b2 o2 (↑n) (↑org) ent ed] sz) := by
  refine zm_h (W1 := fun (u : Int × Nat) => [oS sq kq q2 q0, oP q2 b2 o2 (((u.2 : Nat) : Int)) (((org : Nat) : Int)) ent u.1]) (cc := cL_cut) (maxL := 3) (ty := .int) (hh := [(0, 5, 8, 15)]) (by decide) rfl (Nat.le_of_ble_eq_true rfl) ?_
  intro p e s m args below meth c A Q ls hsz hx hb hml hown hts hC hJ htab hret hp hl
  have hl : lv_has ls 3 [(0, .ref sq), (1, .int (iZ (k)))] := hl
  have l15 := hts (.classLink RL 15 "java/lang/IllegalArgumentException") (List.mem_of_getElem? (i := 1) rfl)
  suffices hw : ∀ (H : Heap) (locs : List Loc), Hp G cI A s H locs [oS sq kq q2 q0, oP q2 b2 o2 (↑n) (↑org) ent ed] → W p l e rmL_cut s m args below meth c H locs 0 0 Q (F0 m 0 ls []) from hw _ _ hp
  clear hp; intro H locs hp
  refine lv_aload_n hx hb dL_cut_0 rfl (lv_at hl 0 rfl) ?_
  refine lv_iload_n hx hb dL_cut_1 rfl (lv_at hl 1 rfl) ?_
  have hcat : ∀ (X : String) (ce : Cell) (q9 : Addr) (u : Unit) (H : Heap) (locs : List Loc), (X = nIA ∧ ¬ (0 ≤ k ∧ k ≤ ↑n)) → Hp G cI A s H locs [oS sq kq q2 q0, oP q2 b2 o2 (↑n) (↑org) ent ed] → H[q9]? = some ce → ce.vm = .none → s.vm.findClass X = some ce.cls → vx_W p l e rmL_cut s m args below meth c H locs (0 + 1) (0 + 6) Q (F0 m 2 ls []) q9 := by
    intro X ce q9 u H locs hpx hp hce hcv hcl
    obtain ⟨rfl, h1⟩ := hpx
    have hk9 : W p l e rmL_cut s m args below meth c H locs (0 + 1) (0 + 6) Q (F0 m 8 ls [.ref q9]) := by
      refine lv_astore_n (lv' := [(2, .ref q9), (0, .ref sq), (1, .int (iZ (k)))]) hx hb dL_cut_8 rfl hl (by decide) rfl (fun ls hl => ?_)
      refine z_iconst hx hb dL_cut_9 ?_
      exact hret _ _ _ _ _ _ _ (ed, n) (⟨congrArg iZ (by rw [if_neg h1]), by rw [if_neg h1]⟩) hp dL_cut_10 (rfl) (Nat.le_of_ble_eq_true rfl) (Nat.le_of_ble_eq_true rfl)
    exact vx_catch hown [] ⟨0, 5, 8, 15⟩ [] htab (fun _ h => absurd h List.not_mem_nil) (by decide) (by decide) l15 ((hC.1.2.1 _ (by decide)).use rfl) hce hcv hcl hk9
  refine zx_v (wr := []) (W0 := [oS sq kq q2 q0, oP q2 b2 o2 (↑n) (↑org) ent ed]) (wl2 := fun (u : Unit) => [oS sq kq q2 q0, oP q2 b2 o2 (↑(k.toNat)) (↑org) ent (ed + 1)]) (As := [.int (iZ (k))]) (rest := []) (wlX := fun (u : Unit) => [oS sq kq q2 q0, oP q2 b2 o2 (↑n) (↑org) ent ed]) hx hb hml hown hts hp (c_X3_cut l G cI t hst H.size sq kq q2 q0 b2 o2 pb n org ent ed k (by omega) (by omega)) zPreC_blind (z_preC hC hp [0, 1] rfl (by decide) [.ref sq, .int (iZ (k))]) (cwV 1 hts gL_cut_X3_cut rfl rfl rfl (by decide +kernel) ⟨Nat.le_of_ble_eq_true rfl, Nat.le_of_ble_eq_true rfl⟩) [0, 1] [] [0, 1] rfl rfl ⟨by decide, by decide, by decide⟩ (fun _ => rfl) (fun _ => rfl) 0 3 rfl rfl rfl rfl hl.1 rfl (Nat.le_of_ble_eq_true rfl) dL_cut_2 ⟨Nat.le_of_ble_eq_true rfl, Nat.le_of_ble_eq_true rfl⟩ hcat (fun u H locs hq1 hp => ?_)
  have hok := hq1
  refine lv_goto (tgt := 11) hx hb dL_cut_5 (by decide) ?_
  refine z_iconst hx hb dL_cut_11 ?_
  exact hret _ _ _ _ _ _ _ (ed + 1, k.toNat) (⟨congrArg iZ (by rw [if_pos hok]), by rw [if_pos hok]⟩) hp dL_cut_12 (rfl) (Nat.le_of_ble_eq_true rfl) (Nat.le_of_ble_eq_true rfl)
abbrev rmL_place : Room := { frames := 9, cells := 1, slots := 6, locals := 200 }
set_option maxRecDepth 100000 in
set_option maxHeartbeats 4000000 in
theorem c_L_place (l : Launch) (G : va_G) (cI cJ : ClassId) (t : Nat) (hst : l.stackTraces = false) (sz : Nat) (sq kq q2 q0 : Nat) (b2 o2 : Nat) (pb : Nat → Int) (n org : Nat) (ent ed : Int) (o e_ : Int) (h_o : rg o) (h_e : rg e_) : Met l yL_place wsL_place rmL_place (zPreL t G cI cJ [oS sq kq q2 q0, oP q2 b2 o2 (↑n) (↑org) ent ed] sz [.ref sq, .int (iZ (o)), .int (iZ (e_))]) (va_Qi (fun (r : Int32) (u : Nat × Int) => r = iZ (if (0 ≤ o ∧ o < 256) ∧ 0 ≤ e_ ∧ e_ < 256 then 0 else 1) ∧ u = if (0 ≤ o ∧ o < 256) ∧ 0 ≤ e_ ∧ e_ < 256 then (o.toNat, e_) else (org, ent)) (fun (u : Nat × Int) t => zB G cI (va_A [oS sq kq q2 q0, oP q2 b2 o2 (↑n) (↑org) ent ed] sz) [oS sq kq q2 q0, oP q2 b2 o2 (↑n) (↑u.1) u.2 ed] t) (va_A [oS sq kq q2 q0, oP q2 b2 o2 (↑n) (↑org) ent ed] sz)) 1 6 (va_A [oS sq kq q2 q0, oP q2 b2 o2 (↑n) (↑org) ent ed] sz) := by
  refine zm_h (W1 := fun (u : Nat × Int) => [oS sq kq q2 q0, oP q2 b2 o2 (((n : Nat) : Int)) (((u.1 : Nat) : Int)) u.2 ed]) (cc := cL_place) (maxL := 4) (ty := .int) (hh := [(0, 6, 9, 15)]) (by decide) rfl (Nat.le_of_ble_eq_true rfl) ?_
  intro p e s m args below meth c A Q ls hsz hx hb hml hown hts hC hJ htab hret hp hl
  have hl : lv_has ls 4 [(0, .ref sq), (1, .int (iZ (o))), (2, .int (iZ (e_)))] := hl
  have l15 := hts (.classLink RL 15 "java/lang/IllegalArgumentException") (List.mem_of_getElem? (i := 1) rfl)
  suffices hw : ∀ (H : Heap) (locs : List Loc), Hp G cI A s H locs [oS sq kq q2 q0, oP q2 b2 o2 (↑n) (↑org) ent ed] → W p l e rmL_place s m args below meth c H locs 0 0 Q (F0 m 0 ls []) from hw _ _ hp
  clear hp; intro H locs hp
  refine lv_aload_n hx hb dL_place_0 rfl (lv_at hl 0 rfl) ?_
  refine lv_iload_n hx hb dL_place_1 rfl (lv_at hl 1 rfl) ?_
  refine lv_iload_n hx hb dL_place_2 rfl (lv_at hl 2 rfl) ?_
  have hcat : ∀ (X : String) (ce : Cell) (q9 : Addr) (u : Unit) (H : Heap) (locs : List Loc), (X = nIA ∧ ¬ ((0 ≤ o ∧ o < 256) ∧ 0 ≤ e_ ∧ e_ < 256)) → Hp G cI A s H locs [oS sq kq q2 q0, oP q2 b2 o2 (↑n) (↑org) ent ed] → H[q9]? = some ce → ce.vm = .none → s.vm.findClass X = some ce.cls → vx_W p l e rmL_place s m args below meth c H locs (0 + 1) (0 + 6) Q (F0 m 3 ls []) q9 := by
    intro X ce q9 u H locs hpx hp hce hcv hcl
    obtain ⟨rfl, h1⟩ := hpx
    have hk9 : W p l e rmL_place s m args below meth c H locs (0 + 1) (0 + 6) Q (F0 m 9 ls [.ref q9]) := by
      refine lv_astore_n (lv' := [(3, .ref q9), (0, .ref sq), (1, .int (iZ (o))), (2, .int (iZ (e_)))]) hx hb dL_place_9 rfl hl (by decide) rfl (fun ls hl => ?_)
      refine z_iconst hx hb dL_place_10 ?_
      exact hret _ _ _ _ _ _ _ (org, ent) (⟨congrArg iZ (by rw [if_neg h1]), by rw [if_neg h1]⟩) hp dL_place_11 (rfl) (Nat.le_of_ble_eq_true rfl) (Nat.le_of_ble_eq_true rfl)
    exact vx_catch hown [] ⟨0, 6, 9, 15⟩ [] htab (fun _ h => absurd h List.not_mem_nil) (by decide) (by decide) l15 ((hC.1.2.1 _ (by decide)).use rfl) hce hcv hcl hk9
  refine zx_v (wr := []) (W0 := [oS sq kq q2 q0, oP q2 b2 o2 (↑n) (↑org) ent ed]) (wl2 := fun (u : Unit) => [oS sq kq q2 q0, oP q2 b2 o2 (↑n) (↑(o.toNat)) e_ ed]) (As := [.int (iZ (o)), .int (iZ (e_))]) (rest := []) (wlX := fun (u : Unit) => [oS sq kq q2 q0, oP q2 b2 o2 (↑n) (↑org) ent ed]) hx hb hml hown hts hp (c_X3_place l G cI t hst H.size sq kq q2 q0 b2 o2 pb n org ent ed o e_ (by omega) (by omega)) zPreC_blind (z_preC hC hp [0, 1] rfl (by decide) [.ref sq, .int (iZ (o)), .int (iZ (e_))]) (cwV 2 hts gL_place_X3_place rfl rfl rfl (by decide +kernel) ⟨Nat.le_of_ble_eq_true rfl, Nat.le_of_ble_eq_true rfl⟩) [0, 1] [] [0, 1] rfl rfl ⟨by decide, by decide, by decide⟩ (fun _ => rfl) (fun _ => rfl) 0 3 rfl rfl rfl rfl hl.1 rfl (Nat.le_of_ble_eq_true rfl) dL_place_3 ⟨Nat.le_of_ble_eq_true rfl, Nat.le_of_ble_eq_true rfl⟩ hcat (fun u H locs hq1 hp => ?_)
  have hok := hq1
  refine lv_goto (tgt := 12) hx hb dL_place_6 (by decide) ?_
  refine z_iconst hx hb dL_place_12 ?_
  exact hret _ _ _ _ _ _ _ (o.toNat, e_) (⟨congrArg iZ (by rw [if_pos hok]), by rw [if_pos hok]⟩) hp dL_place_13 (rfl) (Nat.le_of_ble_eq_true rfl) (Nat.le_of_ble_eq_true rfl)
abbrev rmL_stream : Room := { frames := 9, cells := 1, slots := 6, locals := 200 }
set_option maxRecDepth 100000 in
set_option maxHeartbeats 4000000 in
theorem c_L_stream (l : Launch) (G : va_G) (cI cJ : ClassId) (t : Nat) (hst : l.stackTraces = false) (sz : Nat) (sq q0 : Nat) (kq ks kc km kd kl : Nat) (q2 b2 o2 : Nat) (strm cst mks dst lks pb : Nat → Int) (n org : Nat) (ln gp ek ent ed : Int) (i : Int) (lq : Nat) (v : Int64) (h_n : n ≤ 160) (h_b : BB pb 160) (h_e : rg ek ∧ rg ed) (h_f : ek = ed → Fresh pb n ln gp strm) (h_i : rg i) : Met l yL_stream wsL_stream rmL_stream (zPreL t G cI cJ [oS sq kq q2 q0, oK kq q2 ks ln gp ek kc km kd kl, aI cI ks 163 strm, aI cI kc 161 cst, aI cI km 160 mks, aI cI kd 160 dst, aI cI kl 160 lks, oP q2 b2 o2 (↑n) (↑org) ent ed, aI cI b2 160 pb, aJ cJ lq v] sz [.ref sq, .int (iZ (i)), .ref lq]) (va_Qi (fun (r : Int32) (u : (Int × Int × (Nat → Int) × (Nat → Int) × (Nat → Int) × (Nat → Int) × (Nat → Int)) × Int64) => r = iZ (if 0 ≤ i ∧ i < u.1.1 then 0 else 1) ∧ Fresh pb n u.1.1 u.1.2.1 u.1.2.2.1 ∧ ((0 ≤ i ∧ i < u.1.1) → u.2 = (iZ (u.1.2.2.1 i.toNat)).toInt64)) (fun (u : (Int × Int × (Nat → Int) × (Nat → Int) × (Nat → Int) × (Nat → Int) × (Nat → Int)) × Int64) t => zB G cI (va_A [oS sq kq q2 q0, oK kq q2 ks ln gp ek kc km kd kl, aI cI ks 163 strm, aI cI kc 161 cst, aI cI km 160 mks, aI cI kd 160 dst, aI cI kl 160 lks, oP q2 b2 o2 (↑n) (↑org) ent ed, aI cI b2 160 pb, aJ cJ lq v] sz) [oS sq kq q2 q0, oK kq q2 ks u.1.1 u.1.2.1 ed kc km kd kl, aI cI ks 163 u.1.2.2.1, aI cI kc 161 u.1.2.2.2.1, aI cI km 160 u.1.2.2.2.2.1, aI cI kd 160 u.1.2.2.2.2.2.1, aI cI kl 160 u.1.2.2.2.2.2.2, oP q2 b2 o2 (↑n) (↑org) ent ed, aI cI b2 160 pb, aJ cJ lq u.2] t) (va_A [oS sq kq q2 q0, oK kq q2 ks ln gp ek kc km kd kl, aI cI ks 163 strm, aI cI kc 161 cst, aI cI km 160 mks, aI cI kd 160 dst, aI cI kl 160 lks, oP q2 b2 o2 (↑n) (↑org) ent ed, aI cI b2 160 pb, aJ cJ lq v] sz)) 1 6 (va_A [oS sq kq q2 q0, oK kq q2 ks ln gp ek kc km kd kl, aI cI ks 163 strm, aI cI kc 161 cst, aI cI km 160 mks, aI cI kd 160 dst, aI cI kl 160 lks, oP q2 b2 o2 (↑n) (↑org) ent ed, aI cI b2 160 pb, aJ cJ lq v] sz) := by
  refine zm_h (W1 := fun (u : (Int × Int × (Nat → Int) × (Nat → Int) × (Nat → Int) × (Nat → Int) × (Nat → Int)) × Int64) => [oS sq kq q2 q0, oK kq q2 ks u.1.1 u.1.2.1 ed kc km kd kl, aI cI ks 163 u.1.2.2.1, aI cI kc 161 u.1.2.2.2.1, aI cI km 160 u.1.2.2.2.2.1, aI cI kd 160 u.1.2.2.2.2.2.1, aI cI kl 160 u.1.2.2.2.2.2.2, oP q2 b2 o2 (((n : Nat) : Int)) (((org : Nat) : Int)) ent ed, aI cI b2 160 pb, aJ cJ lq u.2]) (cc := cL_stream) (maxL := 4) (ty := .int) (hh := [(0, 9, 12, 13)]) (by decide) rfl (Nat.le_of_ble_eq_true rfl) ?_
  intro p e s m args below meth c A Q ls hsz hx hb hml hown hts hC hJ htab hret hp hl
  have hl : lv_has ls 4 [(0, .ref sq), (1, .int (iZ (i))), (2, .ref lq)] := hl
  have l13 := hts (.classLink RL 13 "java/lang/IndexOutOfBoundsException") (List.mem_of_getElem? (i := 1) rfl)
  suffices hw : ∀ (H : Heap) (locs : List Loc), Hp G cI A s H locs [oS sq kq q2 q0, oK kq q2 ks ln gp ek kc km kd kl, aI cI ks 163 strm, aI cI kc 161 cst, aI cI km 160 mks, aI cI kd 160 dst, aI cI kl 160 lks, oP q2 b2 o2 (↑n) (↑org) ent ed, aI cI b2 160 pb, aJ cJ lq v] → W p l e rmL_stream s m args below meth c H locs 0 0 Q (F0 m 0 ls []) from hw _ _ hp
  clear hp; intro H locs hp
  refine lv_aload_n hx hb dL_stream_0 rfl (lv_at hl 2 rfl) ?_
  refine z_iconst hx hb dL_stream_1 ?_
  refine lv_aload_n hx hb dL_stream_2 rfl (lv_at hl 0 rfl) ?_
  refine lv_iload_n hx hb dL_stream_3 rfl (lv_at hl 1 rfl) ?_
  have hcat : ∀ (X : String) (ce : Cell) (q9 : Addr) (u : Int × Int × (Nat → Int) × (Nat → Int) × (Nat → Int) × (Nat → Int) × (Nat → Int)) (H : Heap) (locs : List Loc), (X = nOB ∧ Fresh pb n u.1 u.2.1 u.2.2.1 ∧ ¬ (0 ≤ i ∧ i < u.1)) → Hp G cI A s H locs [oS sq kq q2 q0, oK kq q2 ks u.1 u.2.1 ed kc km kd kl, aI cI ks 163 u.2.2.1, aI cI kc 161 u.2.2.2.1, aI cI km 160 u.2.2.2.2.1, aI cI kd 160 u.2.2.2.2.2.1, aI cI kl 160 u.2.2.2.2.2.2, oP q2 b2 o2 (↑n) (↑org) ent ed, aI cI b2 160 pb, aJ cJ lq v] → H[q9]? = some ce → ce.vm = .none → s.vm.findClass X = some ce.cls → vx_W p l e rmL_stream s m args below meth c H locs (0 + 1) (0 + 6) Q (F0 m 4 ls [.int (iZ (0)), .ref lq]) q9 := by
    intro X ce q9 u H locs hpx hp hce hcv hcl
    obtain ⟨rfl, hf, h1⟩ := hpx
    have hk9 : W p l e rmL_stream s m args below meth c H locs (0 + 1) (0 + 6) Q (F0 m 12 ls [.ref q9]) := by
      refine lv_astore_n (lv' := [(3, .ref q9), (0, .ref sq), (1, .int (iZ (i))), (2, .ref lq)]) hx hb dL_stream_12 rfl hl (by decide) rfl (fun ls hl => ?_)
      refine z_iconst hx hb dL_stream_13 ?_
      exact hret _ _ _ _ _ _ _ (u, v) (⟨congrArg iZ (by rw [if_neg h1]), hf, fun q => absurd q h1⟩) hp dL_stream_14 (rfl) (Nat.le_of_ble_eq_true rfl) (Nat.le_of_ble_eq_true rfl)
    exact vx_catch hown [] ⟨0, 9, 12, 13⟩ [] htab (fun _ h => absurd h List.not_mem_nil) (by decide) (by decide) l13 ((hC.1.2.1 _ (by decide)).use rfl) hce hcv hcl hk9
  refine zx_i (wr := [aJ cJ lq v]) (W0 := [oS sq kq q2 q0, oK kq q2 ks ln gp ek kc km kd kl, aI cI ks 163 strm, aI cI kc 161 cst, aI cI km 160 mks, aI cI kd 160 dst, aI cI kl 160 lks, oP q2 b2 o2 (↑n) (↑org) ent ed, aI cI b2 160 pb]) (wl2 := fun (u : Int × Int × (Nat → Int) × (Nat → Int) × (Nat → Int) × (Nat → Int) × (Nat → Int)) => [oS sq kq q2 q0, oK kq q2 ks u.1 u.2.1 ed kc km kd kl, aI cI ks 163 u.2.2.1, aI cI kc 161 u.2.2.2.1, aI cI km 160 u.2.2.2.2.1, aI cI kd 160 u.2.2.2.2.2.1, aI cI kl 160 u.2.2.2.2.2.2, oP q2 b2 o2 (↑n) (↑org) ent ed, aI cI b2 160 pb, aJ cJ lq v]) (As := [.int (iZ (i))]) (rest := [.int (iZ (0)), .ref lq]) (wlX := fun (u : Int × Int × (Nat → Int) × (Nat → Int) × (Nat → Int) × (Nat → Int) × (Nat → Int)) => [oS sq kq q2 q0, oK kq q2 ks u.1 u.2.1 ed kc km kd kl, aI cI ks 163 u.2.2.1, aI cI kc 161 u.2.2.2.1, aI cI km 160 u.2.2.2.2.1, aI cI kd 160 u.2.2.2.2.2.1, aI cI kl 160 u.2.2.2.2.2.2, oP q2 b2 o2 (↑n) (↑org) ent ed, aI cI b2 160 pb, aJ cJ lq v]) hx hb hml hown hts hp (c_X3_stream l G cI t hst H.size sq q0 kq ks kc km kd kl q2 b2 o2 strm cst mks dst lks pb n org ln gp ek ent ed i (by omega) (h_b) (by omega) (h_f) (by omega)) zPreC_blind (z_preC hC hp [0, 1, 2, 3, 4, 5, 6, 7, 8] rfl (by decide) [.ref sq, .int (iZ (i))]) (cwV 1 hts gL_stream_X3_stream rfl rfl rfl (by decide +kernel) ⟨Nat.le_of_ble_eq_true rfl, Nat.le_of_ble_eq_true rfl⟩) [0, 1, 2, 3, 4, 5, 6, 7, 8] [9] [1, 2, 3, 4, 5, 6, 7, 8, 9, 0] rfl rfl ⟨by decide, by decide, by decide⟩ (fun _ => rfl) (fun _ => rfl) 0 3 rfl rfl rfl rfl hl.1 rfl (Nat.le_of_ble_eq_true rfl) dL_stream_4 ⟨Nat.le_of_ble_eq_true rfl, Nat.le_of_ble_eq_true rfl⟩ hcat (fun rv u7 H locs hq1 hp => ?_)
  have hok := hq1
  obtain rfl : rv = iZ (u7.2.2.1 i.toNat) := hq1.2.2
  refine lv_i2l (v := (iZ (u7.2.2.1 i.toNat)).toInt64) hx hb dL_stream_7 (rfl) ?_
  refine z_last hx hb hJ hp 9 rfl dL_stream_8 (ws' := [oS sq kq q2 q0, oK kq q2 ks u7.1 u7.2.1 ed kc km kd kl, aI cI ks 163 u7.2.2.1, aI cI kc 161 u7.2.2.2.1, aI cI km 160 u7.2.2.2.2.1, aI cI kd 160 u7.2.2.2.2.2.1, aI cI kl 160 u7.2.2.2.2.2.2, oP q2 b2 o2 (↑n) (↑org) ent ed, aI cI b2 160 pb, aJ cJ lq ((iZ (u7.2.2.1 i.toNat)).toInt64)]) rfl (fun H locs hp => ?_)
  refine lv_goto (tgt := 15) hx hb dL_stream_9 (by decide) ?_
  refine z_iconst hx hb dL_stream_15 ?_
  exact hret _ _ _ _ _ _ _ (u7, (iZ (u7.2.2.1 i.toNat)).toInt64) (⟨congrArg iZ (by rw [if_pos hok.2.1]), hok.1, fun _ => rfl⟩) hp dL_stream_16 (rfl) (Nat.le_of_ble_eq_true rfl) (Nat.le_of_ble_eq_true rfl)
abbrev rmL_unpack : Room := { frames := 9, cells := 1, slots := 6, locals := 200 }
set_option maxRecDepth 100000 in
set_option maxHeartbeats 4000000 in
theorem c_L_unpack (l : Launch) (G : va_G) (cI cJ : ClassId) (t : Nat) (hst : l.stackTraces = false) (sz : Nat) (sq kq q2 q0 : Nat) (b2 o2 : Nat) (pb ob : Nat → Int) (n org : Nat) (ent ed : Int) (lq : Nat) (v : Int64) (h_n : n ≤ 160) (h_b : BB pb 160) : Met l yL_unpack wsL_unpack rmL_unpack (zPreL t G cI cJ [oS sq kq q2 q0, oP q2 b2 o2 (↑n) (↑org) ent ed, aI cI b2 160 pb, aI cI o2 160 ob, aJ cJ lq v] sz [.ref sq, .ref lq]) (va_Qi (fun (r : Int32) (u : Nat × Int × (Nat → Int) × (Nat → Int) × Int64) => r = iZ (unp pb n (n + 1) 0 0 ob).1 ∧ ((unp pb n (n + 1) 0 0 ob).1 = 0 → u.1 = (unp pb n (n + 1) 0 0 ob).2.1 ∧ u.2.1 = ed + 1 ∧ u.2.2.1 = cpZ (unp pb n (n + 1) 0 0 ob).2.2 pb 0 0 (unp pb n (n + 1) 0 0 ob).2.1 ∧ u.2.2.2.2 = (iZ ↑(unp pb n (n + 1) 0 0 ob).2.1).toInt64) ∧ ((unp pb n (n + 1) 0 0 ob).1 ≠ 0 → u.1 = n ∧ u.2.1 = ed ∧ u.2.2.1 = pb)) (fun (u : Nat × Int × (Nat → Int) × (Nat → Int) × Int64) t => zB G cI (va_A [oS sq kq q2 q0, oP q2 b2 o2 (↑n) (↑org) ent ed, aI cI b2 160 pb, aI cI o2 160 ob, aJ cJ lq v] sz) [oS sq kq q2 q0, oP q2 b2 o2 (↑u.1) (↑org) ent u.2.1, aI cI b2 160 u.2.2.1, aI cI o2 160 u.2.2.2.1, aJ cJ lq u.2.2.2.2] t) (va_A [oS sq kq q2 q0, oP q2 b2 o2 (↑n) (↑org) ent ed, aI cI b2 160 pb, aI cI o2 160 ob, aJ cJ lq v] sz)) 1 6 (va_A [oS sq kq q2 q0, oP q2 b2 o2 (↑n) (↑org) ent ed, aI cI b2 160 pb, aI cI o2 160 ob, aJ cJ lq v] sz) := by
  refine zm_h (W1 := fun (u : Nat × Int × (Nat → Int) × (Nat → Int) × Int64) => [oS sq kq q2 q0, oP q2 b2 o2 (((u.1 : Nat) : Int)) (((org : Nat) : Int)) ent u.2.1, aI cI b2 160 u.2.2.1, aI cI o2 160 u.2.2.2.1, aJ cJ lq u.2.2.2.2]) (cc := cL_unpack) (maxL := 3) (ty := .int) (hh := [(0, 8, 11, 32), (0, 8, 14, 34), (0, 8, 17, 15), (0, 8, 20, 36)]) (by decide) rfl (Nat.le_of_ble_eq_true rfl) ?_
  intro p e s m args below meth c A Q ls hsz hx hb hml hown hts hC hJ htab hret hp hl
  have hl : lv_has ls 3 [(0, .ref sq), (1, .ref lq)] := hl
  have l32 := hts (.classLink RL 32 "java/util/NoSuchElementException") (List.mem_of_getElem? (i := 1) rfl)
  have l34 := hts (.classLink RL 34 "java/lang/IllegalStateException") (List.mem_of_getElem? (i := 2) rfl)
  have l15 := hts (.classLink RL 15 "java/lang/IllegalArgumentException") (List.mem_of_getElem? (i := 3) rfl)
  have l36 := hts (.classLink RL 36 "java/lang/UnsupportedOperationException") (List.mem_of_getElem? (i := 4) rfl)
  suffices hw : ∀ (H : Heap) (locs : List Loc), Hp G cI A s H locs [oS sq kq q2 q0, oP q2 b2 o2 (↑n) (↑org) ent ed, aI cI b2 160 pb, aI cI o2 160 ob, aJ cJ lq v] → W p l e rmL_unpack s m args below meth c H locs 0 0 Q (F0 m 0 ls []) from hw _ _ hp
  clear hp; intro H locs hp
  refine lv_aload_n hx hb dL_unpack_0 rfl (lv_at hl 1 rfl) ?_
  refine z_iconst hx hb dL_unpack_1 ?_
  refine lv_aload_n hx hb dL_unpack_2 rfl (lv_at hl 0 rfl) ?_
  have hcat : ∀ (X : String) (ce : Cell) (q9 : Addr) (u : Nat → Int) (H : Heap) (locs : List Loc), ((unp pb n (n + 1) 0 0 ob).1 ≠ 0 ∧ X = unpX (unp pb n (n + 1) 0 0 ob).1) → Hp G cI A s H locs [oS sq kq q2 q0, oP q2 b2 o2 (↑n) (↑org) ent ed, aI cI b2 160 pb, aI cI o2 160 u, aJ cJ lq v] → H[q9]? = some ce → ce.vm = .none → s.vm.findClass X = some ce.cls → vx_W p l e rmL_unpack s m args below meth c H locs (0 + 1) (0 + 6) Q (F0 m 3 ls [.int (iZ (0)), .ref lq]) q9 := by
    intro X ce q9 u H locs hpx hp hce hcv hcl
    obtain ⟨hu0, hX⟩ := hpx
    have huc := unp_c pb n (n + 1) 0 0 ob
    obtain ⟨U, hU⟩ : ∃ z, z = (unp pb n (n + 1) 0 0 ob) := ⟨_, rfl⟩
    rw [← hU] at hu0 hX huc hret
    rcases (show U.1 = 1 ∨ U.1 = 2 ∨ U.1 = 3 ∨ U.1 = 4 by omega) with h1 | h1 | h1 | h1
    · skip
      obtain rfl : X = nNS := by rw [hX, h1]; rfl
      have hk9 : W p l e rmL_unpack s m args below meth c H locs (0 + 1) (0 + 6) Q (F0 m 11 ls [.ref q9]) := by
        refine lv_astore_n (lv' := [(2, .ref q9), (0, .ref sq), (1, .ref lq)]) hx hb dL_unpack_11 rfl hl (by decide) rfl (fun ls hl => ?_)
        refine z_iconst hx hb dL_unpack_12 ?_
        exact hret _ _ _ _ _ _ _ (n, ed, pb, u, v) (⟨congrArg iZ h1.symm, fun q => absurd q hu0, fun _ => ⟨rfl, rfl, rfl⟩⟩) hp dL_unpack_13 (rfl) (Nat.le_of_ble_eq_true rfl) (Nat.le_of_ble_eq_true rfl)
      exact vx_catch hown [] ⟨0, 8, 11, 32⟩ [⟨0, 8, 14, 34⟩, ⟨0, 8, 17, 15⟩, ⟨0, 8, 20, 36⟩] htab (fun _ h => absurd h List.not_mem_nil) (by decide) (by decide) l32 ((hC.1.2.1 _ (by decide)).use rfl) hce hcv hcl hk9
    · skip
      obtain rfl : X = nIS := by rw [hX, h1]; rfl
      have hk9 : W p l e rmL_unpack s m args below meth c H locs (0 + 1) (0 + 6) Q (F0 m 14 ls [.ref q9]) := by
        refine lv_astore_n (lv' := [(2, .ref q9), (0, .ref sq), (1, .ref lq)]) hx hb dL_unpack_14 rfl hl (by decide) rfl (fun ls hl => ?_)
        refine z_iconst hx hb dL_unpack_15 ?_
        exact hret _ _ _ _ _ _ _ (n, ed, pb, u, v) (⟨congrArg iZ h1.symm, fun q => absurd q hu0, fun _ => ⟨rfl, rfl, rfl⟩⟩) hp dL_unpack_16 (rfl) (Nat.le_of_ble_eq_true rfl) (Nat.le_of_ble_eq_true rfl)
      exact vx_catch hown [⟨0, 8, 11, 32⟩] ⟨0, 8, 14, 34⟩ [⟨0, 8, 17, 15⟩, ⟨0, 8, 20, 36⟩] htab (List.forall_mem_cons.mpr ⟨Or.inr ⟨by decide, "java/util/NoSuchElementException", l32, hC.1.2.2.2.1⟩, fun _ h => absurd h List.not_mem_nil⟩) (by decide) (by decide) l34 ((hC.1.2.1 _ (by decide)).use rfl) hce hcv hcl hk9
    · skip
      obtain rfl : X = nIA := by rw [hX, h1]; rfl
      have hk9 : W p l e rmL_unpack s m args below meth c H locs (0 + 1) (0 + 6) Q (F0 m 17 ls [.ref q9]) := by
        refine lv_astore_n (lv' := [(2, .ref q9), (0, .ref sq), (1, .ref lq)]) hx hb dL_unpack_17 rfl hl (by decide) rfl (fun ls hl => ?_)
        refine z_iconst hx hb dL_unpack_18 ?_
        exact hret _ _ _ _ _ _ _ (n, ed, pb, u, v) (⟨congrArg iZ h1.symm, fun q => absurd q hu0, fun _ => ⟨rfl, rfl, rfl⟩⟩) hp dL_unpack_19 (rfl) (Nat.le_of_ble_eq_true rfl) (Nat.le_of_ble_eq_true rfl)
      exact vx_catch hown [⟨0, 8, 11, 32⟩, ⟨0, 8, 14, 34⟩] ⟨0, 8, 17, 15⟩ [⟨0, 8, 20, 36⟩] htab (List.forall_mem_cons.mpr ⟨Or.inr ⟨by decide, "java/util/NoSuchElementException", l32, hC.1.2.2.2.2.1⟩, List.forall_mem_cons.mpr ⟨Or.inr ⟨by decide, "java/lang/IllegalStateException", l34, hC.1.2.2.2.2.2.2.1⟩, fun _ h => absurd h List.not_mem_nil⟩⟩) (by decide) (by decide) l15 ((hC.1.2.1 _ (by decide)).use rfl) hce hcv hcl hk9
    · skip
      obtain rfl : X = nUO := by rw [hX, h1]; rfl
      have hk9 : W p l e rmL_unpack s m args below meth c H locs (0 + 1) (0 + 6) Q (F0 m 20 ls [.ref q9]) := by
        refine lv_astore_n (lv' := [(2, .ref q9), (0, .ref sq), (1, .ref lq)]) hx hb dL_unpack_20 rfl hl (by decide) rfl (fun ls hl => ?_)
        refine z_iconst hx hb dL_unpack_21 ?_
        exact hret _ _ _ _ _ _ _ (n, ed, pb, u, v) (⟨congrArg iZ h1.symm, fun q => absurd q hu0, fun _ => ⟨rfl, rfl, rfl⟩⟩) hp dL_unpack_22 (rfl) (Nat.le_of_ble_eq_true rfl) (Nat.le_of_ble_eq_true rfl)
      exact vx_catch hown [⟨0, 8, 11, 32⟩, ⟨0, 8, 14, 34⟩, ⟨0, 8, 17, 15⟩] ⟨0, 8, 20, 36⟩ [] htab (List.forall_mem_cons.mpr ⟨Or.inr ⟨by decide, "java/util/NoSuchElementException", l32, hC.1.2.2.2.2.2.1⟩, List.forall_mem_cons.mpr ⟨Or.inr ⟨by decide, "java/lang/IllegalStateException", l34, hC.1.2.2.2.2.2.2.2.1⟩, List.forall_mem_cons.mpr ⟨Or.inr ⟨by decide, "java/lang/IllegalArgumentException", l15, hC.1.2.2.2.2.2.2.2.2⟩, fun _ h => absurd h List.not_mem_nil⟩⟩⟩) (by decide) (by decide) l36 ((hC.1.2.1 _ (by decide)).use rfl) hce hcv hcl hk9
  refine zx_i (wr := [aJ cJ lq v]) (W0 := [oS sq kq q2 q0, oP q2 b2 o2 (↑n) (↑org) ent ed, aI cI b2 160 pb, aI cI o2 160 ob]) (wl2 := fun (u : Unit) => [oS sq kq q2 q0, oP q2 b2 o2 (↑(unp pb n (n + 1) 0 0 ob).2.1) (↑org) ent (ed + 1), aI cI b2 160 (cpZ (unp pb n (n + 1) 0 0 ob).2.2 pb 0 0 (unp pb n (n + 1) 0 0 ob).2.1), aI cI o2 160 ((unp pb n (n + 1) 0 0 ob).2.2), aJ cJ lq v]) (As := []) (rest := [.int (iZ (0)), .ref lq]) (wlX := fun (u : Nat → Int) => [oS sq kq q2 q0, oP q2 b2 o2 (↑n) (↑org) ent ed, aI cI b2 160 pb, aI cI o2 160 u, aJ cJ lq v]) hx hb hml hown hts hp (c_X3_unpack l G cI t hst H.size sq kq q2 q0 b2 o2 pb ob n org ent ed (by omega) (h_b)) zPreC_blind (z_preC hC hp [0, 1, 2, 3] rfl (by decide) [.ref sq]) (cwV 0 hts gL_unpack_X3_unpack rfl rfl rfl (by decide +kernel) ⟨Nat.le_of_ble_eq_true rfl, Nat.le_of_ble_eq_true rfl⟩) [0, 1, 2, 3] [4] [1, 2, 3, 4, 0] rfl rfl ⟨by decide, by decide, by decide⟩ (fun _ => rfl) (fun _ => rfl) 0 3 rfl rfl rfl rfl hl.1 rfl (Nat.le_of_ble_eq_true rfl) dL_unpack_3 ⟨Nat.le_of_ble_eq_true rfl, Nat.le_of_ble_eq_true rfl⟩ hcat (fun rv u H locs hq1 hp => ?_)
  have hok := hq1
  obtain rfl : rv = iZ (↑(unp pb n (n + 1) 0 0 ob).2.1) := hq1.2
  refine lv_i2l (v := (iZ ((((unp pb n (n + 1) 0 0 ob).2.1 : Nat) : Int))).toInt64) hx hb dL_unpack_6 (rfl) ?_
  refine z_last hx hb hJ hp 4 rfl dL_unpack_7 (ws' := [oS sq kq q2 q0, oP q2 b2 o2 (↑(unp pb n (n + 1) 0 0 ob).2.1) (↑org) ent (ed + 1), aI cI b2 160 (cpZ (unp pb n (n + 1) 0 0 ob).2.2 pb 0 0 (unp pb n (n + 1) 0 0 ob).2.1), aI cI o2 160 ((unp pb n (n + 1) 0 0 ob).2.2), aJ cJ lq ((iZ ((((unp pb n (n + 1) 0 0 ob).2.1 : Nat) : Int))).toInt64)]) rfl (fun H locs hp => ?_)
  refine lv_goto (tgt := 23) hx hb dL_unpack_8 (by decide) ?_
  refine z_iconst hx hb dL_unpack_23 ?_
  exact hret _ _ _ _ _ _ _ ((unp pb n (n + 1) 0 0 ob).2.1, ed + 1, cpZ (unp pb n (n + 1) 0 0 ob).2.2 pb 0 0 (unp pb n (n + 1) 0 0 ob).2.1, (unp pb n (n + 1) 0 0 ob).2.2, (iZ (((unp pb n (n + 1) 0 0 ob).2.1 : Nat) : Int)).toInt64) (⟨congrArg iZ hok.1.symm, fun _ => ⟨rfl, rfl, rfl, rfl⟩, fun q => absurd hok.1 q⟩) hp dL_unpack_24 (rfl) (Nat.le_of_ble_eq_true rfl) (Nat.le_of_ble_eq_true rfl)
abbrev rmL_load : Room := { frames := 9, cells := 1, slots := 6, locals := 200 }
set_option maxRecDepth 100000 in
set_option maxHeartbeats 4000000 in
theorem c_L_load (l : Launch) (G : va_G) (cI cJ : ClassId) (t : Nat) (hst : l.stackTraces = false) (sz : Nat) (sq kq q2 q0 : Nat) (b2 o2 : Nat) (pb : Nat → Int) (n org : Nat) (ent ed : Int) (a0 b0 c0 : Nat) (mem regs kept : Nat → Int) (pl st sp po : Int) (h_n : n ≤ 160) (h_o : org < 256) : Met l yL_load wsL_load rmL_load (zPreL t G cI cJ [oS sq kq q2 q0, oP q2 b2 o2 (↑n) (↑org) ent ed, aI cI b2 160 pb, oM q0 a0 b0 c0 pl st sp po, aI cI a0 256 mem, aI cI b0 8 regs, aI cI c0 32 kept] sz [.ref sq]) (va_Qi (fun (r : Int32) (u : (Nat → Int) × (Nat → Int) × Int × Int × Int × Int) => r = iZ (if org + n ≤ 256 then 0 else 1) ∧ u = if org + n ≤ 256 then (cpZ pb (fun _ => 0) 0 org n, fun _ => 0, ent, 0, 0, 0) else (mem, regs, pl, st, sp, po)) (fun (u : (Nat → Int) × (Nat → Int) × Int × Int × Int × Int) t => zB G cI (va_A [oS sq kq q2 q0, oP q2 b2 o2 (↑n) (↑org) ent ed, aI cI b2 160 pb, oM q0 a0 b0 c0 pl st sp po, aI cI a0 256 mem, aI cI b0 8 regs, aI cI c0 32 kept] sz) [oS sq kq q2 q0, oP q2 b2 o2 (↑n) (↑org) ent ed, aI cI b2 160 pb, oM q0 a0 b0 c0 u.2.2.1 u.2.2.2.1 u.2.2.2.2.1 u.2.2.2.2.2, aI cI a0 256 u.1, aI cI b0 8 u.2.1, aI cI c0 32 kept] t) (va_A [oS sq kq q2 q0, oP q2 b2 o2 (↑n) (↑org) ent ed, aI cI b2 160 pb, oM q0 a0 b0 c0 pl st sp po, aI cI a0 256 mem, aI cI b0 8 regs, aI cI c0 32 kept] sz)) 1 6 (va_A [oS sq kq q2 q0, oP q2 b2 o2 (↑n) (↑org) ent ed, aI cI b2 160 pb, oM q0 a0 b0 c0 pl st sp po, aI cI a0 256 mem, aI cI b0 8 regs, aI cI c0 32 kept] sz) := by
  refine zm_h (W1 := fun (u : (Nat → Int) × (Nat → Int) × Int × Int × Int × Int) => [oS sq kq q2 q0, oP q2 b2 o2 (((n : Nat) : Int)) (((org : Nat) : Int)) ent ed, aI cI b2 160 pb, oM q0 a0 b0 c0 u.2.2.1 u.2.2.2.1 u.2.2.2.2.1 u.2.2.2.2.2, aI cI a0 256 u.1, aI cI b0 8 u.2.1, aI cI c0 32 kept]) (cc := cL_load) (maxL := 2) (ty := .int) (hh := [(0, 4, 7, 34)]) (by decide) rfl (Nat.le_of_ble_eq_true rfl) ?_
  intro p e s m args below meth c A Q ls hsz hx hb hml hown hts hC hJ htab hret hp hl
  have hl : lv_has ls 2 [(0, .ref sq)] := hl
  have l34 := hts (.classLink RL 34 "java/lang/IllegalStateException") (List.mem_of_getElem? (i := 1) rfl)
  suffices hw : ∀ (H : Heap) (locs : List Loc), Hp G cI A s H locs [oS sq kq q2 q0, oP q2 b2 o2 (↑n) (↑org) ent ed, aI cI b2 160 pb, oM q0 a0 b0 c0 pl st sp po, aI cI a0 256 mem, aI cI b0 8 regs, aI cI c0 32 kept] → W p l e rmL_load s m args below meth c H locs 0 0 Q (F0 m 0 ls []) from hw _ _ hp
  clear hp; intro H locs hp
  refine lv_aload_n hx hb dL_load_0 rfl (lv_at hl 0 rfl) ?_
  have hcat : ∀ (X : String) (ce : Cell) (q9 : Addr) (u : Unit) (H : Heap) (locs : List Loc), (X = nIS ∧ ¬ org + n ≤ 256) → Hp G cI A s H locs [oS sq kq q2 q0, oP q2 b2 o2 (↑n) (↑org) ent ed, aI cI b2 160 pb, oM q0 a0 b0 c0 pl st sp po, aI cI a0 256 mem, aI cI b0 8 regs, aI cI c0 32 kept] → H[q9]? = some ce → ce.vm = .none → s.vm.findClass X = some ce.cls → vx_W p l e rmL_load s m args below meth c H locs (0 + 1) (0 + 6) Q (F0 m 1 ls []) q9 := by
    intro X ce q9 u H locs hpx hp hce hcv hcl
    obtain ⟨rfl, h1⟩ := hpx
    have hk9 : W p l e rmL_load s m args below meth c H locs (0 + 1) (0 + 6) Q (F0 m 7 ls [.ref q9]) := by
      refine lv_astore_n (lv' := [(1, .ref q9), (0, .ref sq)]) hx hb dL_load_7 rfl hl (by decide) rfl (fun ls hl => ?_)
      refine z_iconst hx hb dL_load_8 ?_
      exact hret _ _ _ _ _ _ _ (mem, regs, pl, st, sp, po) (⟨congrArg iZ (by rw [if_neg h1]), by rw [if_neg h1]⟩) hp dL_load_9 (rfl) (Nat.le_of_ble_eq_true rfl) (Nat.le_of_ble_eq_true rfl)
    exact vx_catch hown [] ⟨0, 4, 7, 34⟩ [] htab (fun _ h => absurd h List.not_mem_nil) (by decide) (by decide) l34 ((hC.1.2.1 _ (by decide)).use rfl) hce hcv hcl hk9
  refine zx_v (wr := []) (W0 := [oS sq kq q2 q0, oP q2 b2 o2 (↑n) (↑org) ent ed, aI cI b2 160 pb, oM q0 a0 b0 c0 pl st sp po, aI cI a0 256 mem, aI cI b0 8 regs, aI cI c0 32 kept]) (wl2 := fun (u : Unit) => [oS sq kq q2 q0, oP q2 b2 o2 (↑n) (↑org) ent ed, aI cI b2 160 pb, oM q0 a0 b0 c0 ent 0 0 0, aI cI a0 256 (cpZ pb (fun _ => 0) 0 org n), aI cI b0 8 (fun _ => 0), aI cI c0 32 kept]) (As := []) (rest := []) (wlX := fun (u : Unit) => [oS sq kq q2 q0, oP q2 b2 o2 (↑n) (↑org) ent ed, aI cI b2 160 pb, oM q0 a0 b0 c0 pl st sp po, aI cI a0 256 mem, aI cI b0 8 regs, aI cI c0 32 kept]) hx hb hml hown hts hp (c_X3_load l G cI t hst H.size sq kq q2 q0 b2 o2 pb n org ent ed a0 b0 c0 mem regs kept pl st sp po (by omega) (by omega)) zPreC_blind (z_preC hC hp [0, 1, 2, 3, 4, 5, 6] rfl (by decide) [.ref sq]) (cwV 0 hts gL_load_X3_load rfl rfl rfl (by decide +kernel) ⟨Nat.le_of_ble_eq_true rfl, Nat.le_of_ble_eq_true rfl⟩) [0, 1, 2, 3, 4, 5, 6] [] [0, 1, 2, 3, 4, 5, 6] rfl rfl ⟨by decide, by decide, by decide⟩ (fun _ => rfl) (fun _ => rfl) 0 3 rfl rfl rfl rfl hl.1 rfl (Nat.le_of_ble_eq_true rfl) dL_load_1 ⟨Nat.le_of_ble_eq_true rfl, Nat.le_of_ble_eq_true rfl⟩ hcat (fun u H locs hq1 hp => ?_)
  have hok := hq1
  refine lv_goto (tgt := 10) hx hb dL_load_4 (by decide) ?_
  refine z_iconst hx hb dL_load_10 ?_
  exact hret _ _ _ _ _ _ _ (cpZ pb (fun _ => 0) 0 org n, fun _ => 0, ent, 0, 0, 0) (⟨congrArg iZ (by rw [if_pos hok]), by rw [if_pos hok]⟩) hp dL_load_11 (rfl) (Nat.le_of_ble_eq_true rfl) (Nat.le_of_ble_eq_true rfl)
abbrev rmL_loadPacked : Room := { frames := 9, cells := 1, slots := 6, locals := 200 }
set_option maxRecDepth 100000 in
set_option maxHeartbeats 4000000 in
theorem c_L_loadPacked (l : Launch) (G : va_G) (cI cJ : ClassId) (t : Nat) (hst : l.stackTraces = false) (sz : Nat) (sq q0 : Nat) (kq ks kc km kd kl : Nat) (q2 b2 o2 : Nat) (strm cst mks dst lks pb : Nat → Int) (n org : Nat) (ln gp ek ent ed : Int) (a0 b0 c0 : Nat) (mem regs kept : Nat → Int) (pl st sp po : Int) (lq : Nat) (v : Int64) (h_n : n ≤ 160) (h_b : BB pb 160) (h_e : rg ek ∧ rg ed) (h_f : ek = ed → Fresh pb n ln gp strm) (h_o : org < 256) : Met l yL_loadPacked wsL_loadPacked rmL_loadPacked (zPreL t G cI cJ [oS sq kq q2 q0, oK kq q2 ks ln gp ek kc km kd kl, aI cI ks 163 strm, aI cI kc 161 cst, aI cI km 160 mks, aI cI kd 160 dst, aI cI kl 160 lks, oP q2 b2 o2 (↑n) (↑org) ent ed, aI cI b2 160 pb, oM q0 a0 b0 c0 pl st sp po, aI cI a0 256 mem, aI cI b0 8 regs, aI cI c0 32 kept, aJ cJ lq v] sz [.ref sq, .ref lq]) (va_Qi (fun (r : Int32) (u : (Int × Int × (Nat → Int) × (Nat → Int) × (Nat → Int) × (Nat → Int) × (Nat → Int)) × ((Nat → Int) × (Nat → Int) × Int × Int × Int × Int) × Int64) => r = iZ (if ↑org + ↑n + u.1.2.1 + 60 ≤ 256 then 0 else 1) ∧ Fresh pb n u.1.1 u.1.2.1 u.1.2.2.1 ∧ (↑org + ↑n + u.1.2.1 + 60 ≤ 256 → u.2.1 = (stubRow (cpZ u.1.2.2.1 (fun _ => 0) 0 (org + n + u.1.2.1.toNat - u.1.1.toNat) u.1.1.toNat) (org + n + u.1.2.1.toNat) (↑(org + n + u.1.2.1.toNat - u.1.1.toNat)) ↑org ent, fun _ => 0, ↑(org + n + u.1.2.1.toNat), 0, 0, 0) ∧ u.2.2 = (iZ (↑n + u.1.2.1 + 60)).toInt64) ∧ (¬ ↑org + ↑n + u.1.2.1 + 60 ≤ 256 → u.2.1 = (mem, regs, pl, st, sp, po))) (fun (u : (Int × Int × (Nat → Int) × (Nat → Int) × (Nat → Int) × (Nat → Int) × (Nat → Int)) × ((Nat → Int) × (Nat → Int) × Int × Int × Int × Int) × Int64) t => zB G cI (va_A [oS sq kq q2 q0, oK kq q2 ks ln gp ek kc km kd kl, aI cI ks 163 strm, aI cI kc 161 cst, aI cI km 160 mks, aI cI kd 160 dst, aI cI kl 160 lks, oP q2 b2 o2 (↑n) (↑org) ent ed, aI cI b2 160 pb, oM q0 a0 b0 c0 pl st sp po, aI cI a0 256 mem, aI cI b0 8 regs, aI cI c0 32 kept, aJ cJ lq v] sz) [oS sq kq q2 q0, oK kq q2 ks u.1.1 u.1.2.1 ed kc km kd kl, aI cI ks 163 u.1.2.2.1, aI cI kc 161 u.1.2.2.2.1, aI cI km 160 u.1.2.2.2.2.1, aI cI kd 160 u.1.2.2.2.2.2.1, aI cI kl 160 u.1.2.2.2.2.2.2, oP q2 b2 o2 (↑n) (↑org) ent ed, aI cI b2 160 pb, oM q0 a0 b0 c0 u.2.1.2.2.1 u.2.1.2.2.2.1 u.2.1.2.2.2.2.1 u.2.1.2.2.2.2.2, aI cI a0 256 u.2.1.1, aI cI b0 8 u.2.1.2.1, aI cI c0 32 kept, aJ cJ lq u.2.2] t) (va_A [oS sq kq q2 q0, oK kq q2 ks ln gp ek kc km kd kl, aI cI ks 163 strm, aI cI kc 161 cst, aI cI km 160 mks, aI cI kd 160 dst, aI cI kl 160 lks, oP q2 b2 o2 (↑n) (↑org) ent ed, aI cI b2 160 pb, oM q0 a0 b0 c0 pl st sp po, aI cI a0 256 mem, aI cI b0 8 regs, aI cI c0 32 kept, aJ cJ lq v] sz)) 1 6 (va_A [oS sq kq q2 q0, oK kq q2 ks ln gp ek kc km kd kl, aI cI ks 163 strm, aI cI kc 161 cst, aI cI km 160 mks, aI cI kd 160 dst, aI cI kl 160 lks, oP q2 b2 o2 (↑n) (↑org) ent ed, aI cI b2 160 pb, oM q0 a0 b0 c0 pl st sp po, aI cI a0 256 mem, aI cI b0 8 regs, aI cI c0 32 kept, aJ cJ lq v] sz) := by
  refine zm_h (W1 := fun (u : (Int × Int × (Nat → Int) × (Nat → Int) × (Nat → Int) × (Nat → Int) × (Nat → Int)) × ((Nat → Int) × (Nat → Int) × Int × Int × Int × Int) × Int64) => [oS sq kq q2 q0, oK kq q2 ks u.1.1 u.1.2.1 ed kc km kd kl, aI cI ks 163 u.1.2.2.1, aI cI kc 161 u.1.2.2.2.1, aI cI km 160 u.1.2.2.2.2.1, aI cI kd 160 u.1.2.2.2.2.2.1, aI cI kl 160 u.1.2.2.2.2.2.2, oP q2 b2 o2 (((n : Nat) : Int)) (((org : Nat) : Int)) ent ed, aI cI b2 160 pb, oM q0 a0 b0 c0 u.2.1.2.2.1 u.2.1.2.2.2.1 u.2.1.2.2.2.2.1 u.2.1.2.2.2.2.2, aI cI a0 256 u.2.1.1, aI cI b0 8 u.2.1.2.1, aI cI c0 32 kept, aJ cJ lq u.2.2]) (cc := cL_loadPacked) (maxL := 3) (ty := .int) (hh := [(0, 8, 11, 36)]) (by decide) rfl (Nat.le_of_ble_eq_true rfl) ?_
  intro p e s m args below meth c A Q ls hsz hx hb hml hown hts hC hJ htab hret hp hl
  have hl : lv_has ls 3 [(0, .ref sq), (1, .ref lq)] := hl
  have l36 := hts (.classLink RL 36 "java/lang/UnsupportedOperationException") (List.mem_of_getElem? (i := 1) rfl)
  suffices hw : ∀ (H : Heap) (locs : List Loc), Hp G cI A s H locs [oS sq kq q2 q0, oK kq q2 ks ln gp ek kc km kd kl, aI cI ks 163 strm, aI cI kc 161 cst, aI cI km 160 mks, aI cI kd 160 dst, aI cI kl 160 lks, oP q2 b2 o2 (↑n) (↑org) ent ed, aI cI b2 160 pb, oM q0 a0 b0 c0 pl st sp po, aI cI a0 256 mem, aI cI b0 8 regs, aI cI c0 32 kept, aJ cJ lq v] → W p l e rmL_loadPacked s m args below meth c H locs 0 0 Q (F0 m 0 ls []) from hw _ _ hp
  clear hp; intro H locs hp
  refine lv_aload_n hx hb dL_loadPacked_0 rfl (lv_at hl 1 rfl) ?_
  refine z_iconst hx hb dL_loadPacked_1 ?_
  refine lv_aload_n hx hb dL_loadPacked_2 rfl (lv_at hl 0 rfl) ?_
  have hcat : ∀ (X : String) (ce : Cell) (q9 : Addr) (u : Int × Int × (Nat → Int) × (Nat → Int) × (Nat → Int) × (Nat → Int) × (Nat → Int)) (H : Heap) (locs : List Loc), (X = nUO ∧ Fresh pb n u.1 u.2.1 u.2.2.1 ∧ ¬ ↑org + ↑n + u.2.1 + 60 ≤ 256) → Hp G cI A s H locs [oS sq kq q2 q0, oK kq q2 ks u.1 u.2.1 ed kc km kd kl, aI cI ks 163 u.2.2.1, aI cI kc 161 u.2.2.2.1, aI cI km 160 u.2.2.2.2.1, aI cI kd 160 u.2.2.2.2.2.1, aI cI kl 160 u.2.2.2.2.2.2, oP q2 b2 o2 (↑n) (↑org) ent ed, aI cI b2 160 pb, oM q0 a0 b0 c0 pl st sp po, aI cI a0 256 mem, aI cI b0 8 regs, aI cI c0 32 kept, aJ cJ lq v] → H[q9]? = some ce → ce.vm = .none → s.vm.findClass X = some ce.cls → vx_W p l e rmL_loadPacked s m args below meth c H locs (0 + 1) (0 + 6) Q (F0 m 3 ls [.int (iZ (0)), .ref lq]) q9 := by
    intro X ce q9 u H locs hpx hp hce hcv hcl
    obtain ⟨rfl, hf, h1⟩ := hpx
    have hk9 : W p l e rmL_loadPacked s m args below meth c H locs (0 + 1) (0 + 6) Q (F0 m 11 ls [.ref q9]) := by
      refine lv_astore_n (lv' := [(2, .ref q9), (0, .ref sq), (1, .ref lq)]) hx hb dL_loadPacked_11 rfl hl (by decide) rfl (fun ls hl => ?_)
      refine z_iconst hx hb dL_loadPacked_12 ?_
      exact hret _ _ _ _ _ _ _ (u, (mem, regs, pl, st, sp, po), v) (⟨congrArg iZ (by rw [if_neg h1]), hf, fun q => absurd q h1, fun _ => rfl⟩) hp dL_loadPacked_13 (rfl) (Nat.le_of_ble_eq_true rfl) (Nat.le_of_ble_eq_true rfl)
    exact vx_catch hown [] ⟨0, 8, 11, 36⟩ [] htab (fun _ h => absurd h List.not_mem_nil) (by decide) (by decide) l36 ((hC.1.2.1 _ (by decide)).use rfl) hce hcv hcl hk9
  refine zx_i (wr := [aJ cJ lq v]) (W0 := [oS sq kq q2 q0, oK kq q2 ks ln gp ek kc km kd kl, aI cI ks 163 strm, aI cI kc 161 cst, aI cI km 160 mks, aI cI kd 160 dst, aI cI kl 160 lks, oP q2 b2 o2 (↑n) (↑org) ent ed, aI cI b2 160 pb, oM q0 a0 b0 c0 pl st sp po, aI cI a0 256 mem, aI cI b0 8 regs, aI cI c0 32 kept]) (wl2 := fun (u : Int × Int × (Nat → Int) × (Nat → Int) × (Nat → Int) × (Nat → Int) × (Nat → Int)) => [oS sq kq q2 q0, oK kq q2 ks u.1 u.2.1 ed kc km kd kl, aI cI ks 163 u.2.2.1, aI cI kc 161 u.2.2.2.1, aI cI km 160 u.2.2.2.2.1, aI cI kd 160 u.2.2.2.2.2.1, aI cI kl 160 u.2.2.2.2.2.2, oP q2 b2 o2 (↑n) (↑org) ent ed, aI cI b2 160 pb, oM q0 a0 b0 c0 (↑(org + n + u.2.1.toNat)) 0 0 0, aI cI a0 256 (stubRow (cpZ u.2.2.1 (fun _ => 0) 0 (org + n + u.2.1.toNat - u.1.toNat) u.1.toNat) (org + n + u.2.1.toNat) (↑(org + n + u.2.1.toNat - u.1.toNat)) ↑org ent), aI cI b0 8 (fun _ => 0), aI cI c0 32 kept, aJ cJ lq v]) (As := []) (rest := [.int (iZ (0)), .ref lq]) (wlX := fun (u : Int × Int × (Nat → Int) × (Nat → Int) × (Nat → Int) × (Nat → Int) × (Nat → Int)) => [oS sq kq q2 q0, oK kq q2 ks u.1 u.2.1 ed kc km kd kl, aI cI ks 163 u.2.2.1, aI cI kc 161 u.2.2.2.1, aI cI km 160 u.2.2.2.2.1, aI cI kd 160 u.2.2.2.2.2.1, aI cI kl 160 u.2.2.2.2.2.2, oP q2 b2 o2 (↑n) (↑org) ent ed, aI cI b2 160 pb, oM q0 a0 b0 c0 pl st sp po, aI cI a0 256 mem, aI cI b0 8 regs, aI cI c0 32 kept, aJ cJ lq v]) hx hb hml hown hts hp (c_X3_loadPacked l G cI t hst H.size sq q0 kq ks kc km kd kl q2 b2 o2 strm cst mks dst lks pb n org ln gp ek ent ed a0 b0 c0 mem regs kept pl st sp po (by omega) (h_b) (by omega) (h_f) (by omega)) zPreC_blind (z_preC hC hp [0, 1, 2, 3, 4, 5, 6, 7, 8, 9, 10, 11, 12] rfl (by decide) [.ref sq]) (cwV 0 hts gL_loadPacked_X3_loadPacked rfl rfl rfl (by decide +kernel) ⟨Nat.le_of_ble_eq_true rfl, Nat.le_of_ble_eq_true rfl⟩) [0, 1, 2, 3, 4, 5, 6, 7, 8, 9, 10, 11, 12] [13] [1, 2, 3, 4, 5, 6, 7, 8, 9, 10, 11, 12, 13, 0] rfl rfl ⟨by decide, by decide, by decide⟩ (fun _ => rfl) (fun _ => rfl) 0 3 rfl rfl rfl rfl hl.1 rfl (Nat.le_of_ble_eq_true rfl) dL_loadPacked_3 ⟨Nat.le_of_ble_eq_true rfl, Nat.le_of_ble_eq_true rfl⟩ hcat (fun rv u7 H locs hq1 hp => ?_)
  have hok := hq1
  obtain rfl : rv = iZ (↑n + u7.2.1 + 60) := hq1.2.2
  refine lv_i2l (v := (iZ (((n : Nat) : Int) + u7.2.1 + 60)).toInt64) hx hb dL_loadPacked_6 (rfl) ?_
  refine z_last hx hb hJ hp 13 rfl dL_loadPacked_7 (ws' := [oS sq kq q2 q0, oK kq q2 ks u7.1 u7.2.1 ed kc km kd kl, aI cI ks 163 u7.2.2.1, aI cI kc 161 u7.2.2.2.1, aI cI km 160 u7.2.2.2.2.1, aI cI kd 160 u7.2.2.2.2.2.1, aI cI kl 160 u7.2.2.2.2.2.2, oP q2 b2 o2 (↑n) (↑org) ent ed, aI cI b2 160 pb, oM q0 a0 b0 c0 (↑(org + n + u7.2.1.toNat)) 0 0 0, aI cI a0 256 (stubRow (cpZ u7.2.2.1 (fun _ => 0) 0 (org + n + u7.2.1.toNat - u7.1.toNat) u7.1.toNat) (org + n + u7.2.1.toNat) (↑(org + n + u7.2.1.toNat - u7.1.toNat)) ↑org ent), aI cI b0 8 (fun _ => 0), aI cI c0 32 kept, aJ cJ lq ((iZ (((n : Nat) : Int) + u7.2.1 + 60)).toInt64)]) rfl (fun H locs hp => ?_)
  refine lv_goto (tgt := 14) hx hb dL_loadPacked_8 (by decide) ?_
  refine z_iconst hx hb dL_loadPacked_14 ?_
  exact hret _ _ _ _ _ _ _ (u7, (stubRow (cpZ u7.2.2.1 (fun _ => 0) 0 (org + n + u7.2.1.toNat - u7.1.toNat) u7.1.toNat) (org + n + u7.2.1.toNat) (((org + n + u7.2.1.toNat - u7.1.toNat : Nat) : Int)) ((org : Nat) : Int) ent, fun _ => 0, ((org + n + u7.2.1.toNat : Nat) : Int), 0, 0, 0), (iZ (((n : Nat) : Int) + u7.2.1 + 60)).toInt64) (⟨congrArg iZ (by rw [if_pos hok.2.1]), hok.1, fun _ => ⟨rfl, rfl⟩, fun q => absurd hok.2.1 q⟩) hp dL_loadPacked_15 (rfl) (Nat.le_of_ble_eq_true rfl) (Nat.le_of_ble_eq_true rfl)
abbrev rmL_run : Room := { frames := 9, cells := 1, slots := 6, locals := 200 }
set_option maxRecDepth 100000 in
set_option maxHeartbeats 4000000 in
theorem c_L_run (l : Launch) (G : va_G) (cI cJ : ClassId) (t : Nat) (hst : l.stackTraces = false) (sz : Nat) (sq kq q2 : Nat) (q0 a0 b0 c0 : Nat) (w : MS) (b k til : Int) (lq : Nat) (v : Int64) (h_w : MB w b) (h_bb : b < 2147400000) (h_k : rg k) (h_t : rg til) : Met l yL_run wsL_run rmL_run (zPreL t G cI cJ [oS sq kq q2 q0, oM q0 a0 b0 c0 w.2.2.2.1 w.2.2.2.2.1 w.2.2.2.2.2.1 w.2.2.2.2.2.2, aI cI a0 256 w.1, aI cI b0 8 w.2.1, aI cI c0 32 w.2.2.1, aJ cJ lq v] sz [.ref sq, .int (iZ (k)), .int (iZ (til)), .ref lq]) (va_Qi (fun (r : Int32) (u : MS × Int64) => r = iZ (if (0 ≤ k ∧ k ≤ 4000) ∧ -1 ≤ til ∧ til ≤ 255 then 0 else 1) ∧ ((0 ≤ k ∧ k ≤ 4000) ∧ -1 ≤ til ∧ til ≤ 255 → u = ((mrun til k.toNat w).2, (iZ ↑(mrun til k.toNat w).1).toInt64)) ∧ (¬ ((0 ≤ k ∧ k ≤ 4000) ∧ -1 ≤ til ∧ til ≤ 255) → u = (w, v))) (fun (u : MS × Int64) t => zB G cI (va_A [oS sq kq q2 q0, oM q0 a0 b0 c0 w.2.2.2.1 w.2.2.2.2.1 w.2.2.2.2.2.1 w.2.2.2.2.2.2, aI cI a0 256 w.1, aI cI b0 8 w.2.1, aI cI c0 32 w.2.2.1, aJ cJ lq v] sz) [oS sq kq q2 q0, oM q0 a0 b0 c0 u.1.2.2.2.1 u.1.2.2.2.2.1 u.1.2.2.2.2.2.1 u.1.2.2.2.2.2.2, aI cI a0 256 u.1.1, aI cI b0 8 u.1.2.1, aI cI c0 32 u.1.2.2.1, aJ cJ lq u.2] t) (va_A [oS sq kq q2 q0, oM q0 a0 b0 c0 w.2.2.2.1 w.2.2.2.2.1 w.2.2.2.2.2.1 w.2.2.2.2.2.2, aI cI a0 256 w.1, aI cI b0 8 w.2.1, aI cI c0 32 w.2.2.1, aJ cJ lq v] sz)) 1 6 (va_A [oS sq kq q2 q0, oM q0 a0 b0 c0 w.2.2.2.1 w.2.2.2.2.1 w.2.2.2.2.2.1 w.2.2.2.2.2.2, aI cI a0 256 w.1, aI cI b0 8 w.2.1, aI cI c0 32 w.2.2.1, aJ cJ lq v] sz) := by
  refine zm_h (W1 := fun (u : MS × Int64) => [oS sq kq q2 q0, oM q0 a0 b0 c0 u.1.2.2.2.1 u.1.2.2.2.2.1 u.1.2.2.2.2.2.1 u.1.2.2.2.2.2.2, aI cI a0 256 u.1.1, aI cI b0 8 u.1.2.1, aI cI c0 32 u.1.2.2.1, aJ cJ lq u.2]) (cc := cL_run) (maxL := 5) (ty := .int) (hh := [(0, 10, 13, 15)]) (by decide) rfl (Nat.le_of_ble_eq_true rfl) ?_
  intro p e s m args below meth c A Q ls hsz hx hb hml hown hts hC hJ htab hret hp hl
  have hl : lv_has ls 5 [(0, .ref sq), (1, .int (iZ (k))), (2, .int (iZ (til))), (3, .ref lq)] := hl
  have l15 := hts (.classLink RL 15 "java/lang/IllegalArgumentException") (List.mem_of_getElem? (i := 1) rfl)
  suffices hw : ∀ (H : Heap) (locs : List Loc), Hp G cI A s H locs [oS sq kq q2 q0, oM q0 a0 b0 c0 w.2.2.2.1 w.2.2.2.2.1 w.2.2.2.2.2.1 w.2.2.2.2.2.2, aI cI a0 256 w.1, aI cI b0 8 w.2.1, aI cI c0 32 w.2.2.1, aJ cJ lq v] → W p l e rmL_run s m args below meth c H locs 0 0 Q (F0 m 0 ls []) from hw _ _ hp
  clear hp; intro H locs hp
  refine lv_aload_n hx hb dL_run_0 rfl (lv_at hl 3 rfl) ?_
  refine z_iconst hx hb dL_run_1 ?_
  refine lv_aload_n hx hb dL_run_2 rfl (lv_at hl 0 rfl) ?_
  refine lv_iload_n hx hb dL_run_3 rfl (lv_at hl 1 rfl) ?_
  refine lv_iload_n hx hb dL_run_4 rfl (lv_at hl 2 rfl) ?_
  have hcat : ∀ (X : String) (ce : Cell) (q9 : Addr) (u : Unit) (H : Heap) (locs : List Loc), (X = nIA ∧ ¬ ((0 ≤ k ∧ k ≤ 4000) ∧ -1 ≤ til ∧ til ≤ 255)) → Hp G cI A s H locs [oS sq kq q2 q0, oM q0 a0 b0 c0 w.2.2.2.1 w.2.2.2.2.1 w.2.2.2.2.2.1 w.2.2.2.2.2.2, aI cI a0 256 w.1, aI cI b0 8 w.2.1, aI cI c0 32 w.2.2.1, aJ cJ lq v] → H[q9]? = some ce → ce.vm = .none → s.vm.findClass X = some ce.cls → vx_W p l e rmL_run s m args below meth c H locs (0 + 1) (0 + 6) Q (F0 m 5 ls [.int (iZ (0)), .ref lq]) q9 := by
    intro X ce q9 u H locs hpx hp hce hcv hcl
    obtain ⟨rfl, h1⟩ := hpx
    have hk9 : W p l e rmL_run s m args below meth c H locs (0 + 1) (0 + 6) Q (F0 m 13 ls [.ref q9]) := by
      refine lv_astore (lv' := [(4, .ref q9), (0, .ref sq), (1, .int (iZ (k))), (2, .int (iZ (til))), (3, .ref lq)]) hx hb dL_run_13 hl (by decide) rfl (fun ls hl => ?_)
      refine z_iconst hx hb dL_run_15 ?_
      exact hret _ _ _ _ _ _ _ (w, v) (⟨congrArg iZ (by rw [if_neg h1]), fun q => absurd q h1, fun _ => rfl⟩) hp dL_run_16 (rfl) (Nat.le_of_ble_eq_true rfl) (Nat.le_of_ble_eq_true rfl)
    exact vx_catch hown [] ⟨0, 10, 13, 15⟩ [] htab (fun _ h => absurd h List.not_mem_nil) (by decide) (by decide) l15 ((hC.1.2.1 _ (by decide)).use rfl) hce hcv hcl hk9
  refine zx_i (wr := [aJ cJ lq v]) (W0 := [oS sq kq q2 q0, oM q0 a0 b0 c0 w.2.2.2.1 w.2.2.2.2.1 w.2.2.2.2.2.1 w.2.2.2.2.2.2, aI cI a0 256 w.1, aI cI b0 8 w.2.1, aI cI c0 32 w.2.2.1]) (wl2 := fun (u : Unit) => [oS sq kq q2 q0, oM q0 a0 b0 c0 ((mrun til k.toNat w).2.2.2.2.1) ((mrun til k.toNat w).2.2.2.2.2.1) ((mrun til k.toNat w).2.2.2.2.2.2.1) ((mrun til k.toNat w).2.2.2.2.2.2.2), aI cI a0 256 ((mrun til k.toNat w).2.1), aI cI b0 8 ((mrun til k.toNat w).2.2.1), aI cI c0 32 ((mrun til k.toNat w).2.2.2.1), aJ cJ lq v]) (As := [.int (iZ (k)), .int (iZ (til))]) (rest := [.int (iZ (0)), .ref lq]) (wlX := fun (u : Unit) => [oS sq kq q2 q0, oM q0 a0 b0 c0 w.2.2.2.1 w.2.2.2.2.1 w.2.2.2.2.2.1 w.2.2.2.2.2.2, aI cI a0 256 w.1, aI cI b0 8 w.2.1, aI cI c0 32 w.2.2.1, aJ cJ lq v]) hx hb hml hown hts hp (c_X3_run l G cI t hst H.size sq kq q2 q0 a0 b0 c0 w b k til (h_w) (by omega) (by omega) (by omega)) zPreC_blind (z_preC hC hp [0, 1, 2, 3, 4] rfl (by decide) [.ref sq, .int (iZ (k)), .int (iZ (til))]) (cwV 2 hts gL_run_X3_run rfl rfl rfl (by decide +kernel) ⟨Nat.le_of_ble_eq_true rfl, Nat.le_of_ble_eq_true rfl⟩) [0, 1, 2, 3, 4] [5] [1, 2, 3, 4, 5, 0] rfl rfl ⟨by decide, by decide, by decide⟩ (fun _ => rfl) (fun _ => rfl) 0 3 rfl rfl rfl rfl hl.1 rfl (Nat.le_of_ble_eq_true rfl) dL_run_5 ⟨Nat.le_of_ble_eq_true rfl, Nat.le_of_ble_eq_true rfl⟩ hcat (fun rv u H locs hq1 hp => ?_)
  have hok := hq1
  obtain rfl : rv = iZ (↑(mrun til k.toNat w).1) := hq1.2
  refine lv_i2l (v := (iZ ((((mrun til k.toNat w).1 : Nat) : Int))).toInt64) hx hb dL_run_8 (rfl) ?_
  refine z_last hx hb hJ hp 5 rfl dL_run_9 (ws' := [oS sq kq q2 q0, oM q0 a0 b0 c0 ((mrun til k.toNat w).2.2.2.2.1) ((mrun til k.toNat w).2.2.2.2.2.1) ((mrun til k.toNat w).2.2.2.2.2.2.1) ((mrun til k.toNat w).2.2.2.2.2.2.2), aI cI a0 256 ((mrun til k.toNat w).2.1), aI cI b0 8 ((mrun til k.toNat w).2.2.1), aI cI c0 32 ((mrun til k.toNat w).2.2.2.1), aJ cJ lq ((iZ ((((mrun til k.toNat w).1 : Nat) : Int))).toInt64)]) rfl (fun H locs hp => ?_)
  refine lv_goto (tgt := 17) hx hb dL_run_10 (by decide) ?_
  refine z_iconst hx hb dL_run_17 ?_
  exact hret _ _ _ _ _ _ _ ((mrun til k.toNat w).2, (iZ (((mrun til k.toNat w).1 : Nat) : Int)).toInt64) (⟨congrArg iZ (by rw [if_pos hok.1]), fun _ => rfl, fun q => absurd hok.1 q⟩) hp dL_run_18 (rfl) (Nat.le_of_ble_eq_true rfl) (Nat.le_of_ble_eq_true rfl)
abbrev rmL_look : Room := { frames := 9, cells := 1, slots := 6, locals := 200 }
set_option maxRecDepth 100000 in
set_option maxHeartbeats 4000000 in
theorem c_L_look (l : Launch) (G : va_G) (cI cJ : ClassId) (t : Nat) (hst : l.stackTraces = false) (sz : Nat) (sq kq q2 q0 : Nat) (a0 b0 c0 : Nat) (regs : Nat → Int) (pl st sp po k : Int) (lq : Nat) (v : Int64) (h_k : rg k) : Met l yL_look wsL_look rmL_look (zPreL t G cI cJ [oS sq kq q2 q0, oM q0 a0 b0 c0 pl st sp po, aI cI b0 8 regs, aJ cJ lq v] sz [.ref sq, .int (iZ (k)), .ref lq]) (va_Qi (fun (r : Int32) (u : Int64) => r = iZ (if 0 ≤ k ∧ k < 12 then 0 else 1) ∧ ((0 ≤ k ∧ k < 12) → u = (iZ (lookZ regs pl st sp po k)).toInt64)) (fun (u : Int64) t => zB G cI (va_A [oS sq kq q2 q0, oM q0 a0 b0 c0 pl st sp po, aI cI b0 8 regs, aJ cJ lq v] sz) [oS sq kq q2 q0, oM q0 a0 b0 c0 pl st sp po, aI cI b0 8 regs, aJ cJ lq u] t) (va_A [oS sq kq q2 q0, oM q0 a0 b0 c0 pl st sp po, aI cI b0 8 regs, aJ cJ lq v] sz)) 1 6 (va_A [oS sq kq q2 q0, oM q0 a0 b0 c0 pl st sp po, aI cI b0 8 regs, aJ cJ lq v] sz) := by
  refine zm_h (W1 := fun (u : Int64) => [oS sq kq q2 q0, oM q0 a0 b0 c0 pl st sp po, aI cI b0 8 regs, aJ cJ lq u]) (cc := cL_look) (maxL := 4) (ty := .int) (hh := [(0, 9, 12, 13)]) (by decide) rfl (Nat.le_of_ble_eq_true rfl) ?_
  intro p e s m args below meth c A Q ls hsz hx hb hml hown hts hC hJ htab hret hp hl
  have hl : lv_has ls 4 [(0, .ref sq), (1, .int (iZ (k))), (2, .ref lq)] := hl
  have l13 := hts (.classLink RL 13 "java/lang/IndexOutOfBoundsException") (List.mem_of_getElem? (i := 1) rfl)
  suffices hw : ∀ (H : Heap) (locs : List Loc), Hp G cI A s H locs [oS sq kq q2 q0, oM q0 a0 b0 c0 pl st sp po, aI cI b0 8 regs, aJ cJ lq v] → W p l e rmL_look s m args below meth c H locs 0 0 Q (F0 m 0 ls []) from hw _ _ hp
  clear hp; intro H locs hp
  refine lv_aload_n hx hb dL_look_0 rfl (lv_at hl 2 rfl) ?_
  refine z_iconst hx hb dL_look_1 ?_
  refine lv_aload_n hx hb dL_look_2 rfl (lv_at hl 0 rfl) ?_
  refine lv_iload_n hx hb dL_look_3 rfl (lv_at hl 1 rfl) ?_
  have hcat : ∀ (X : String) (ce : Cell) (q9 : Addr) (u : Unit) (H : Heap) (locs : List Loc), (X = nOB ∧ ¬ (0 ≤ k ∧ k < 12)) → Hp G cI A s H locs [oS sq kq q2 q0, oM q0 a0 b0 c0 pl st sp po, aI cI b0 8 regs, aJ cJ lq v] → H[q9]? = some ce → ce.vm = .none → s.vm.findClass X = some ce.cls → vx_W p l e rmL_look s m args below meth c H locs (0 + 1) (0 + 6) Q (F0 m 4 ls [.int (iZ (0)), .ref lq]) q9 := by
    intro X ce q9 u H locs hpx hp hce hcv hcl
    obtain ⟨rfl, h1⟩ := hpx
    have hk9 : W p l e rmL_look s m args below meth c H locs (0 + 1) (0 + 6) Q (F0 m 12 ls [.ref q9]) := by
      refine lv_astore_n (lv' := [(3, .ref q9), (0, .ref sq), (1, .int (iZ (k))), (2, .ref lq)]) hx hb dL_look_12 rfl hl (by decide) rfl (fun ls hl => ?_)
      refine z_iconst hx hb dL_look_13 ?_
      exact hret _ _ _ _ _ _ _ v (⟨congrArg iZ (by rw [if_neg h1]), fun q => absurd q h1⟩) hp dL_look_14 (rfl) (Nat.le_of_ble_eq_true rfl) (Nat.le_of_ble_eq_true rfl)
    exact vx_catch hown [] ⟨0, 9, 12, 13⟩ [] htab (fun _ h => absurd h List.not_mem_nil) (by decide) (by decide) l13 ((hC.1.2.1 _ (by decide)).use rfl) hce hcv hcl hk9
  refine zx_i (wr := [aJ cJ lq v]) (W0 := [oS sq kq q2 q0, oM q0 a0 b0 c0 pl st sp po, aI cI b0 8 regs]) (wl2 := fun (u : Unit) => [oS sq kq q2 q0, oM q0 a0 b0 c0 pl st sp po, aI cI b0 8 regs, aJ cJ lq v]) (As := [.int (iZ (k))]) (rest := [.int (iZ (0)), .ref lq]) (wlX := fun (u : Unit) => [oS sq kq q2 q0, oM q0 a0 b0 c0 pl st sp po, aI cI b0 8 regs, aJ cJ lq v]) hx hb hml hown hts hp (c_X3_look l G cI t hst H.size sq kq q2 q0 a0 b0 c0 regs pl st sp po k (by omega)) zPreC_blind (z_preC hC hp [0, 1, 2] rfl (by decide) [.ref sq, .int (iZ (k))]) (cwV 1 hts gL_look_X3_look rfl rfl rfl (by decide +kernel) ⟨Nat.le_of_ble_eq_true rfl, Nat.le_of_ble_eq_true rfl⟩) [0, 1, 2] [3] [1, 2, 3, 0] rfl rfl ⟨by decide, by decide, by decide⟩ (fun _ => rfl) (fun _ => rfl) 0 3 rfl rfl rfl rfl hl.1 rfl (Nat.le_of_ble_eq_true rfl) dL_look_4 ⟨Nat.le_of_ble_eq_true rfl, Nat.le_of_ble_eq_true rfl⟩ hcat (fun rv u H locs hq1 hp => ?_)
  have hok := hq1
  obtain rfl : rv = iZ (lookZ regs pl st sp po k) := hq1.2
  refine lv_i2l (v := (iZ (lookZ regs pl st sp po k)).toInt64) hx hb dL_look_7 (rfl) ?_
  refine z_last hx hb hJ hp 3 rfl dL_look_8 (ws' := [oS sq kq q2 q0, oM q0 a0 b0 c0 pl st sp po, aI cI b0 8 regs, aJ cJ lq ((iZ (lookZ regs pl st sp po k)).toInt64)]) rfl (fun H locs hp => ?_)
  refine lv_goto (tgt := 15) hx hb dL_look_9 (by decide) ?_
  refine z_iconst hx hb dL_look_15 ?_
  exact hret _ _ _ _ _ _ _ (iZ (lookZ regs pl st sp po k)).toInt64 (⟨congrArg iZ (by rw [if_pos hok.1]), fun _ => rfl⟩) hp dL_look_16 (rfl) (Nat.le_of_ble_eq_true rfl) (Nat.le_of_ble_eq_true rfl)
abbrev rmL_memory : Room := { frames := 9, cells := 1, slots := 6, locals := 200 }
set_option maxRecDepth 100000 in
set_option maxHeartbeats 4000000 in
theorem c_L_memory (l : Launch) (G : va_G) (cI cJ : ClassId) (t : Nat) (hst : l.stackTraces = false) (sz : Nat) (sq kq q2 q0 : Nat) (a0 b0 c0 : Nat) (mem : Nat → Int) (pl st sp po i : Int) (lq : Nat) (v : Int64) (h_i : rg i) : Met l yL_memory wsL_memory rmL_memory (zPreL t G cI cJ [oS sq kq q2 q0, oM q0 a0 b0 c0 pl st sp po, aI cI a0 256 mem, aJ cJ lq v] sz [.ref sq, .int (iZ (i)), .ref lq]) (va_Qi (fun (r : Int32) (u : Int64) => r = iZ (if 0 ≤ i ∧ i < 256 then 0 else 1) ∧ ((0 ≤ i ∧ i < 256) → u = (iZ (mem i.toNat)).toInt64)) (fun (u : Int64) t => zB G cI (va_A [oS sq kq q2 q0, oM q0 a0 b0 c0 pl st sp po, aI cI a0 256 mem, aJ cJ lq v] sz) [oS sq kq q2 q0, oM q0 a0 b0 c0 pl st sp po, aI cI a0 256 mem, aJ cJ lq u] t) (va_A [oS sq kq q2 q0, oM q0 a0 b0 c0 pl st sp po, aI cI a0 256 mem, aJ cJ lq v] sz)) 1 6 (va_A [oS sq kq q2 q0, oM q0 a0 b0 c0 pl st sp po, aI cI a0 256 mem, aJ cJ lq v] sz) := by
  refine zm_h (W1 := fun (u : Int64) => [oS sq kq q2 q0, oM q0 a0 b0 c0 pl st sp po, aI cI a0 256 mem, aJ cJ lq u]) (cc := cL_memory) (maxL := 4) (ty := .int) (hh := [(0, 9, 12, 13)]) (by decide) rfl (Nat.le_of_ble_eq_true rfl) ?_
  intro p e s m args below meth c A Q ls hsz hx hb hml hown hts hC hJ htab hret hp hl
  have hl : lv_has ls 4 [(0, .ref sq), (1, .int (iZ (i))), (2, .ref lq)] := hl
  have l13 := hts (.classLink RL 13 "java/lang/IndexOutOfBoundsException") (List.mem_of_getElem? (i := 1) rfl)
  suffices hw : ∀ (H : Heap) (locs : List Loc), Hp G cI A s H locs [oS sq kq q2 q0, oM q0 a0 b0 c0 pl st sp po, aI cI a0 256 mem, aJ cJ lq v] → W p l e rmL_memory s m args below meth c H locs 0 0 Q (F0 m 0 ls []) from hw _ _ hp
  clear hp; intro H locs hp
  refine lv_aload_n hx hb dL_memory_0 rfl (lv_at hl 2 rfl) ?_
  refine z_iconst hx hb dL_memory_1 ?_
  refine lv_aload_n hx hb dL_memory_2 rfl (lv_at hl 0 rfl) ?_
  refine lv_iload_n hx hb dL_memory_3 rfl (lv_at hl 1 rfl) ?_
  have hcat : ∀ (X : String) (ce : Cell) (q9 : Addr) (u : Unit) (H : Heap) (locs : List Loc), (X = nOB ∧ ¬ (0 ≤ i ∧ i < 256)) → Hp G cI A s H locs [oS sq kq q2 q0, oM q0 a0 b0 c0 pl st sp po, aI cI a0 256 mem, aJ cJ lq v] → H[q9]? = some ce → ce.vm = .none → s.vm.findClass X = some ce.cls → vx_W p l e rmL_memory s m args below meth c H locs (0 + 1) (0 + 6) Q (F0 m 4 ls [.int (iZ (0)), .ref lq]) q9 := by
    intro X ce q9 u H locs hpx hp hce hcv hcl
    obtain ⟨rfl, h1⟩ := hpx
    have hk9 : W p l e rmL_memory s m args below meth c H locs (0 + 1) (0 + 6) Q (F0 m 12 ls [.ref q9]) := by
      refine lv_astore_n (lv' := [(3, .ref q9), (0, .ref sq), (1, .int (iZ (i))), (2, .ref lq)]) hx hb dL_memory_12 rfl hl (by decide) rfl (fun ls hl => ?_)
      refine z_iconst hx hb dL_memory_13 ?_
      exact hret _ _ _ _ _ _ _ v (⟨congrArg iZ (by rw [if_neg h1]), fun q => absurd q h1⟩) hp dL_memory_14 (rfl) (Nat.le_of_ble_eq_true rfl) (Nat.le_of_ble_eq_true rfl)
    exact vx_catch hown [] ⟨0, 9, 12, 13⟩ [] htab (fun _ h => absurd h List.not_mem_nil) (by decide) (by decide) l13 ((hC.1.2.1 _ (by decide)).use rfl) hce hcv hcl hk9
  refine zx_i (wr := [aJ cJ lq v]) (W0 := [oS sq kq q2 q0, oM q0 a0 b0 c0 pl st sp po, aI cI a0 256 mem]) (wl2 := fun (u : Unit) => [oS sq kq q2 q0, oM q0 a0 b0 c0 pl st sp po, aI cI a0 256 mem, aJ cJ lq v]) (As := [.int (iZ (i))]) (rest := [.int (iZ (0)), .ref lq]) (wlX := fun (u : Unit) => [oS sq kq q2 q0, oM q0 a0 b0 c0 pl st sp po, aI cI a0 256 mem, aJ cJ lq v]) hx hb hml hown hts hp (c_X3_memory l G cI t hst H.size sq kq q2 q0 a0 b0 c0 mem pl st sp po i (by omega)) zPreC_blind (z_preC hC hp [0, 1, 2] rfl (by decide) [.ref sq, .int (iZ (i))]) (cwV 1 hts gL_memory_X3_memory rfl rfl rfl (by decide +kernel) ⟨Nat.le_of_ble_eq_true rfl, Nat.le_of_ble_eq_true rfl⟩) [0, 1, 2] [3] [1, 2, 3, 0] rfl rfl ⟨by decide, by decide, by decide⟩ (fun _ => rfl) (fun _ => rfl) 0 3 rfl rfl rfl rfl hl.1 rfl (Nat.le_of_ble_eq_true rfl) dL_memory_4 ⟨Nat.le_of_ble_eq_true rfl, Nat.le_of_ble_eq_true rfl⟩ hcat (fun rv u H locs hq1 hp => ?_)
  have hok := hq1
  obtain rfl : rv = iZ (mem i.toNat) := hq1.2
  refine lv_i2l (v := (iZ (mem i.toNat)).toInt64) hx hb dL_memory_7 (rfl) ?_
  refine z_last hx hb hJ hp 3 rfl dL_memory_8 (ws' := [oS sq kq q2 q0, oM q0 a0 b0 c0 pl st sp po, aI cI a0 256 mem, aJ cJ lq ((iZ (mem i.toNat)).toInt64)]) rfl (fun H locs hp => ?_)
  refine lv_goto (tgt := 15) hx hb dL_memory_9 (by decide) ?_
  refine z_iconst hx hb dL_memory_15 ?_
  exact hret _ _ _ _ _ _ _ (iZ (mem i.toNat)).toInt64 (⟨congrArg iZ (by rw [if_pos hok.1]), fun _ => rfl⟩) hp dL_memory_16 (rfl) (Nat.le_of_ble_eq_true rfl) (Nat.le_of_ble_eq_true rfl)
abbrev rmL_out : Room := { frames := 9, cells := 1, slots := 6, locals := 200 }
set_option maxRecDepth 100000 in
set_option maxHeartbeats 4000000 in
theorem c_L_out (l : Launch) (G : va_G) (cI cJ : ClassId) (t : Nat) (hst : l.stackTraces = false) (sz : Nat) (sq kq q2 q0 : Nat) (a0 b0 c0 : Nat) (kept : Nat → Int) (pl st sp po i : Int) (lq : Nat) (v : Int64) (h_i : rg i) (h_p : 0 ≤ po ∧ po < 2147483648) : Met l yL_out wsL_out rmL_out (zPreL t G cI cJ [oS sq kq q2 q0, oM q0 a0 b0 c0 pl st sp po, aI cI c0 32 kept, aJ cJ lq v] sz [.ref sq, .int (iZ (i)), .ref lq]) (va_Qi (fun (r : Int32) (u : Int64) => r = iZ (if 0 ≤ i ∧ i < po ∧ po - 32 ≤ i then 0 else 1) ∧ ((0 ≤ i ∧ i < po ∧ po - 32 ≤ i) → u = (iZ (kept (i % 32).toNat)).toInt64)) (fun (u : Int64) t => zB G cI (va_A [oS sq kq q2 q0, oM q0 a0 b0 c0 pl st sp po, aI cI c0 32 kept, aJ cJ lq v] sz) [oS sq kq q2 q0, oM q0 a0 b0 c0 pl st sp po, aI cI c0 32 kept, aJ cJ lq u] t) (va_A [oS sq kq q2 q0, oM q0 a0 b0 c0 pl st sp po, aI cI c0 32 kept, aJ cJ lq v] sz)) 1 6 (va_A [oS sq kq q2 q0, oM q0 a0 b0 c0 pl st sp po, aI cI c0 32 kept, aJ cJ lq v] sz) := by
  refine zm_h (W1 := fun (u : Int64) => [oS sq kq q2 q0, oM q0 a0 b0 c0 pl st sp po, aI cI c0 32 kept, aJ cJ lq u]) (cc := cL_out) (maxL := 4) (ty := .int) (hh := [(0, 9, 12, 13)]) (by decide) rfl (Nat.le_of_ble_eq_true rfl) ?_
  intro p e s m args below meth c A Q ls hsz hx hb hml hown hts hC hJ htab hret hp hl
  have hl : lv_has ls 4 [(0, .ref sq), (1, .int (iZ (i))), (2, .ref lq)] := hl
  have l13 := hts (.classLink RL 13 "java/lang/IndexOutOfBoundsException") (List.mem_of_getElem? (i := 1) rfl)
  suffices hw : ∀ (H : Heap) (locs : List Loc), Hp G cI A s H locs [oS sq kq q2 q0, oM q0 a0 b0 c0 pl st sp po, aI cI c0 32 kept, aJ cJ lq v] → W p l e rmL_out s m args below meth c H locs 0 0 Q (F0 m 0 ls []) from hw _ _ hp
  clear hp; intro H locs hp
  refine lv_aload_n hx hb dL_out_0 rfl (lv_at hl 2 rfl) ?_
  refine z_iconst hx hb dL_out_1 ?_
  refine lv_aload_n hx hb dL_out_2 rfl (lv_at hl 0 rfl) ?_
  refine lv_iload_n hx hb dL_out_3 rfl (lv_at hl 1 rfl) ?_
  have hcat : ∀ (X : String) (ce : Cell) (q9 : Addr) (u : Unit) (H : Heap) (locs : List Loc), (X = nOB ∧ ¬ (0 ≤ i ∧ i < po ∧ po - 32 ≤ i)) → Hp G cI A s H locs [oS sq kq q2 q0, oM q0 a0 b0 c0 pl st sp po, aI cI c0 32 kept, aJ cJ lq v] → H[q9]? = some ce → ce.vm = .none → s.vm.findClass X = some ce.cls → vx_W p l e rmL_out s m args below meth c H locs (0 + 1) (0 + 6) Q (F0 m 4 ls [.int (iZ (0)), .ref lq]) q9 := by
    intro X ce q9 u H locs hpx hp hce hcv hcl
    obtain ⟨rfl, h1⟩ := hpx
    have hk9 : W p l e rmL_out s m args below meth c H locs (0 + 1) (0 + 6) Q (F0 m 12 ls [.ref q9]) := by
      refine lv_astore_n (lv' := [(3, .ref q9), (0, .ref sq), (1, .int (iZ (i))), (2, .ref lq)]) hx hb dL_out_12 rfl hl (by decide) rfl (fun ls hl => ?_)
      refine z_iconst hx hb dL_out_13 ?_
      exact hret _ _ _ _ _ _ _ v (⟨congrArg iZ (by rw [if_neg h1]), fun q => absurd q h1⟩) hp dL_out_14 (rfl) (Nat.le_of_ble_eq_true rfl) (Nat.le_of_ble_eq_true rfl)
    exact vx_catch hown [] ⟨0, 9, 12, 13⟩ [] htab (fun _ h => absurd h List.not_mem_nil) (by decide) (by decide) l13 ((hC.1.2.1 _ (by decide)).use rfl) hce hcv hcl hk9
  refine zx_i (wr := [aJ cJ lq v]) (W0 := [oS sq kq q2 q0, oM q0 a0 b0 c0 pl st sp po, aI cI c0 32 kept]) (wl2 := fun (u : Unit) => [oS sq kq q2 q0, oM q0 a0 b0 c0 pl st sp po, aI cI c0 32 kept, aJ cJ lq v]) (As := [.int (iZ (i))]) (rest := [.int (iZ (0)), .ref lq]) (wlX := fun (u : Unit) => [oS sq kq q2 q0, oM q0 a0 b0 c0 pl st sp po, aI cI c0 32 kept, aJ cJ lq v]) hx hb hml hown hts hp (c_X3_out l G cI t hst H.size sq kq q2 q0 a0 b0 c0 kept pl st sp po i (by omega) (by omega)) zPreC_blind (z_preC hC hp [0, 1, 2] rfl (by decide) [.ref sq, .int (iZ (i))]) (cwV 1 hts gL_out_X3_out rfl rfl rfl (by decide +kernel) ⟨Nat.le_of_ble_eq_true rfl, Nat.le_of_ble_eq_true rfl⟩) [0, 1, 2] [3] [1, 2, 3, 0] rfl rfl ⟨by decide, by decide, by decide⟩ (fun _ => rfl) (fun _ => rfl) 0 3 rfl rfl rfl rfl hl.1 rfl (Nat.le_of_ble_eq_true rfl) dL_out_4 ⟨Nat.le_of_ble_eq_true rfl, Nat.le_of_ble_eq_true rfl⟩ hcat (fun rv u H locs hq1 hp => ?_)
  have hok := hq1
  obtain rfl : rv = iZ (kept (i % 32).toNat) := hq1.2
  refine lv_i2l (v := (iZ (kept (i % 32).toNat)).toInt64) hx hb dL_out_7 (rfl) ?_
  refine z_last hx hb hJ hp 3 rfl dL_out_8 (ws' := [oS sq kq q2 q0, oM q0 a0 b0 c0 pl st sp po, aI cI c0 32 kept, aJ cJ lq ((iZ (kept (i % 32).toNat)).toInt64)]) rfl (fun H locs hp => ?_)
  refine lv_goto (tgt := 15) hx hb dL_out_9 (by decide) ?_
  refine z_iconst hx hb dL_out_15 ?_
  exact hret _ _ _ _ _ _ _ (iZ (kept (i % 32).toNat)).toInt64 (⟨congrArg iZ (by rw [if_pos hok.1]), fun _ => rfl⟩) hp dL_out_16 (rfl) (Nat.le_of_ble_eq_true rfl) (Nat.le_of_ble_eq_true rfl)
abbrev rmL_apart : Room := { frames := 9, cells := 1, slots := 6, locals := 200 }
set_option maxRecDepth 100000 in
set_option maxHeartbeats 4000000 in
theorem c_L_apart (l : Launch) (G : va_G) (cI cJ : ClassId) (t : Nat) (hst : l.stackTraces = false) (sz : Nat) (sq q0 : Nat) (kq ks kc km kd kl : Nat) (q2 b2 o2 : Nat) (strm cst mks dst lks pb : Nat → Int) (n org : Nat) (ln gp ek ent ed : Int) (a0 b0 c0 : Nat) (mem regs kept : Nat → Int) (pl st sp po : Int) (lq : Nat) (v : Int64) (h_n : n ≤ 160) (h_b : BB pb 160) (h_e : rg ek ∧ rg ed) (h_f : ek = ed → Fresh pb n ln gp strm) (h_o : org < 256) (h_m : BB mem 256) : Met l yL_apart wsL_apart rmL_apart (zPreL t G cI cJ [oS sq kq q2 q0, oK kq q2 ks ln gp ek kc km kd kl, aI cI ks 163 strm, aI cI kc 161 cst, aI cI km 160 mks, aI cI kd 160 dst, aI cI kl 160 lks, oP q2 b2 o2 (↑n) (↑org) ent ed, aI cI b2 160 pb, oM q0 a0 b0 c0 pl st sp po, aI cI a0 256 mem, aJ cJ lq v] sz [.ref sq, .ref lq]) (va_Qi (fun (r : Int32) (u : Int × (Int × Int × (Nat → Int) × (Nat → Int) × (Nat → Int) × (Nat → Int) × (Nat → Int)) × Int64) => r = iZ (if ¬ (org + n ≤ 256) then 1 else if ¬ (↑org + ↑n + u.2.1.2.1 + 60 ≤ 256) then 2 else 0) ∧ (u.1 = ek ∨ u.1 = ed) ∧ (u.1 = ed → Fresh pb n u.2.1.1 u.2.1.2.1 u.2.1.2.2.1) ∧ (org + n ≤ 256 → u.1 = ed) ∧ (((if ¬ (org + n ≤ 256) then 1 else if ¬ (↑org + ↑n + u.2.1.2.1 + 60 ≤ 256) then 2 else 0) : Int) = 0 → u.2.2 = (iZ (apN mem (ldZ pb n org) (↑org + ↑n) (↑org + ↑n + u.2.1.2.1 + 60) 256)).toInt64)) (fun (u : Int × (Int × Int × (Nat → Int) × (Nat → Int) × (Nat → Int) × (Nat → Int) × (Nat → Int)) × Int64) t => zB G cI (va_A [oS sq kq q2 q0, oK kq q2 ks ln gp ek kc km kd kl, aI cI ks 163 strm, aI cI kc 161 cst, aI cI km 160 mks, aI cI kd 160 dst, aI cI kl 160 lks, oP q2 b2 o2 (↑n) (↑org) ent ed, aI cI b2 160 pb, oM q0 a0 b0 c0 pl st sp po, aI cI a0 256 mem, aJ cJ lq v] sz) [oS sq kq q2 q0, oK kq q2 ks u.2.1.1 u.2.1.2.1 u.1 kc km kd kl, aI cI ks 163 u.2.1.2.2.1, aI cI kc 161 u.2.1.2.2.2.1, aI cI km 160 u.2.1.2.2.2.2.1, aI cI kd 160 u.2.1.2.2.2.2.2.1, aI cI kl 160 u.2.1.2.2.2.2.2.2, oP q2 b2 o2 (↑n) (↑org) ent ed, aI cI b2 160 pb, oM q0 a0 b0 c0 pl st sp po, aI cI a0 256 mem, aJ cJ lq u.2.2] t) (va_A [oS sq kq q2 q0, oK kq q2 ks ln gp ek kc km kd kl, aI cI ks 163 strm, aI cI kc 161 cst, aI cI km 160 mks, aI cI kd 160 dst, aI cI kl 160 lks, oP q2 b2 o2 (↑n) (↑org) ent ed, aI cI b2 160 pb, oM q0 a0 b0 c0 pl st sp po, aI cI a0 256 mem, aJ cJ lq v] sz)) 1 6 (va_A [oS sq kq q2 q0, oK kq q2 ks ln gp ek kc km kd kl, aI cI ks 163 strm, aI cI kc 161 cst, aI cI km 160 mks, aI cI kd 160 dst, aI cI kl 160 lks, oP q2 b2 o2 (↑n) (↑org) ent ed, aI cI b2 160 pb, oM q0 a0 b0 c0 pl st sp po, aI cI a0 256 mem, aJ cJ lq v] sz) := by
  refine zm_h (W1 := fun (u : Int × (Int × Int × (Nat → Int) × (Nat → Int) × (Nat → Int) × (Nat → Int) × (Nat → Int)) × Int64) => [oS sq kq q2 q0, oK kq q2 ks u.2.1.1 u.2.1.2.1 u.1 kc km kd kl, aI cI ks 163 u.2.1.2.2.1, aI cI kc 161 u.2.1.2.2.2.1, aI cI km 160 u.2.1.2.2.2.2.1, aI cI kd 160 u.2.1.2.2.2.2.2.1, aI cI kl 160 u.2.1.2.2.2.2.2.2, oP q2 b2 o2 (((n : Nat) : Int)) (((org : Nat) : Int)) ent ed, aI cI b2 160 pb, oM q0 a0 b0 c0 pl st sp po, aI cI a0 256 mem, aJ cJ lq u.2.2]) (cc := cL_apart) (maxL := 3) (ty := .int) (hh := [(0, 8, 11, 34), (0, 8, 14, 36)]) (by decide) rfl (Nat.le_of_ble_eq_true rfl) ?_
  intro p e s m args below meth c A Q ls hsz hx hb hml hown hts hC hJ htab hret hp hl
  have hl : lv_has ls 3 [(0, .ref sq), (1, .ref lq)] := hl
  have l34 := hts (.classLink RL 34 "java/lang/IllegalStateException") (List.mem_of_getElem? (i := 1) rfl)
  have l36 := hts (.classLink RL 36 "java/lang/UnsupportedOperationException") (List.mem_of_getElem? (i := 2) rfl)
  suffices hw : ∀ (H : Heap) (locs : List Loc), Hp G cI A s H locs [oS sq kq q2 q0, oK kq q2 ks ln gp ek kc km kd kl, aI cI ks 163 strm, aI cI kc 161 cst, aI cI km 160 mks, aI cI kd 160 dst, aI cI kl 160 lks, oP q2 b2 o2 (↑n) (↑org) ent ed, aI cI b2 160 pb, oM q0 a0 b0 c0 pl st sp po, aI cI a0 256 mem, aJ cJ lq v] → W p l e rmL_apart s m args below meth c H locs 0 0 Q (F0 m 0 ls []) from hw _ _ hp
  clear hp; intro H locs hp
  refine lv_aload_n hx hb dL_apart_0 rfl (lv_at hl 1 rfl) ?_
  refine z_iconst hx hb dL_apart_1 ?_
  refine lv_aload_n hx hb dL_apart_2 rfl (lv_at hl 0 rfl) ?_
  have hcat : ∀ (X : String) (ce : Cell) (q9 : Addr) (u : Int × Int × Int × (Nat → Int) × (Nat → Int) × (Nat → Int) × (Nat → Int) × (Nat → Int)) (H : Heap) (locs : List Loc), ((u.1 = ek ∨ u.1 = ed) ∧ (u.1 = ed → Fresh pb n u.2.1 u.2.2.1 u.2.2.2.1) ∧ ((X = nIS ∧ ¬ org + n ≤ 256) ∨ (X = nUO ∧ org + n ≤ 256 ∧ u.1 = ed ∧ ¬ ↑org + ↑n + u.2.2.1 + 60 ≤ 256))) → Hp G cI A s H locs [oS sq kq q2 q0, oK kq q2 ks u.2.1 u.2.2.1 u.1 kc km kd kl, aI cI ks 163 u.2.2.2.1, aI cI kc 161 u.2.2.2.2.1, aI cI km 160 u.2.2.2.2.2.1, aI cI kd 160 u.2.2.2.2.2.2.1, aI cI kl 160 u.2.2.2.2.2.2.2, oP q2 b2 o2 (↑n) (↑org) ent ed, aI cI b2 160 pb, oM q0 a0 b0 c0 pl st sp po, aI cI a0 256 mem, aJ cJ lq v] → H[q9]? = some ce → ce.vm = .none → s.vm.findClass X = some ce.cls → vx_W p l e rmL_apart s m args below meth c H locs (0 + 1) (0 + 6) Q (F0 m 3 ls [.int (iZ (0)), .ref lq]) q9 := by
    intro X ce q9 u H locs hpx hp hce hcv hcl
    obtain ⟨ha, hf, hpx⟩ := hpx
    rcases hpx with ⟨rfl, h1⟩ | ⟨rfl, h1, h2, h3⟩
    · skip
      have hk9 : W p l e rmL_apart s m args below meth c H locs (0 + 1) (0 + 6) Q (F0 m 11 ls [.ref q9]) := by
        refine lv_astore_n (lv' := [(2, .ref q9), (0, .ref sq), (1, .ref lq)]) hx hb dL_apart_11 rfl hl (by decide) rfl (fun ls hl => ?_)
        refine z_iconst hx hb dL_apart_12 ?_
        exact hret _ _ _ _ _ _ _ (u.1, u.2, v) (⟨congrArg iZ (by rw [if_pos h1]), ha, hf, fun q => absurd q h1, fun q => by rw [if_pos h1] at q; exact absurd q (by decide)⟩) hp dL_apart_13 (rfl) (Nat.le_of_ble_eq_true rfl) (Nat.le_of_ble_eq_true rfl)
      exact vx_catch hown [] ⟨0, 8, 11, 34⟩ [⟨0, 8, 14, 36⟩] htab (fun _ h => absurd h List.not_mem_nil) (by decide) (by decide) l34 ((hC.1.2.1 _ (by decide)).use rfl) hce hcv hcl hk9
    · skip
      have hk9 : W p l e rmL_apart s m args below meth c H locs (0 + 1) (0 + 6) Q (F0 m 14 ls [.ref q9]) := by
        refine lv_astore_n (lv' := [(2, .ref q9), (0, .ref sq), (1, .ref lq)]) hx hb dL_apart_14 rfl hl (by decide) rfl (fun ls hl => ?_)
        refine z_iconst hx hb dL_apart_15 ?_
        exact hret _ _ _ _ _ _ _ (u.1, u.2, v) (⟨congrArg iZ (by rw [if_neg (fun q => q h1), if_pos h3]), ha, hf, fun _ => h2, fun q => by rw [if_neg (fun q => q h1), if_pos h3] at q; exact absurd q (by decide)⟩) hp dL_apart_16 (rfl) (Nat.le_of_ble_eq_true rfl) (Nat.le_of_ble_eq_true rfl)
      exact vx_catch hown [⟨0, 8, 11, 34⟩] ⟨0, 8, 14, 36⟩ [] htab (List.forall_mem_cons.mpr ⟨Or.inr ⟨by decide, "java/lang/IllegalStateException", l34, hC.1.2.2.2.2.2.2.2.1⟩, fun _ h => absurd h List.not_mem_nil⟩) (by decide) (by decide) l36 ((hC.1.2.1 _ (by decide)).use rfl) hce hcv hcl hk9
  refine zx_i (wr := [aJ cJ lq v]) (W0 := [oS sq kq q2 q0, oK kq q2 ks ln gp ek kc km kd kl, aI cI ks 163 strm, aI cI kc 161 cst, aI cI km 160 mks, aI cI kd 160 dst, aI cI kl 160 lks, oP q2 b2 o2 (↑n) (↑org) ent ed, aI cI b2 160 pb, oM q0 a0 b0 c0 pl st sp po, aI cI a0 256 mem]) (wl2 := fun (u : Int × Int × (Nat → Int) × (Nat → Int) × (Nat → Int) × (Nat → Int) × (Nat → Int)) => [oS sq kq q2 q0, oK kq q2 ks u.1 u.2.1 ed kc km kd kl, aI cI ks 163 u.2.2.1, aI cI kc 161 u.2.2.2.1, aI cI km 160 u.2.2.2.2.1, aI cI kd 160 u.2.2.2.2.2.1, aI cI kl 160 u.2.2.2.2.2.2, oP q2 b2 o2 (↑n) (↑org) ent ed, aI cI b2 160 pb, oM q0 a0 b0 c0 pl st sp po, aI cI a0 256 mem, aJ cJ lq v]) (As := []) (rest := [.int (iZ (0)), .ref lq]) (wlX := fun (u : Int × Int × Int × (Nat → Int) × (Nat → Int) × (Nat → Int) × (Nat → Int) × (Nat → Int)) => [oS sq kq q2 q0, oK kq q2 ks u.2.1 u.2.2.1 u.1 kc km kd kl, aI cI ks 163 u.2.2.2.1, aI cI kc 161 u.2.2.2.2.1, aI cI km 160 u.2.2.2.2.2.1, aI cI kd 160 u.2.2.2.2.2.2.1, aI cI kl 160 u.2.2.2.2.2.2.2, oP q2 b2 o2 (↑n) (↑org) ent ed, aI cI b2 160 pb, oM q0 a0 b0 c0 pl st sp po, aI cI a0 256 mem, aJ cJ lq v]) hx hb hml hown hts hp (c_X3_apart l G cI t hst H.size sq q0 kq ks kc km kd kl q2 b2 o2 strm cst mks dst lks pb n org ln gp ek ent ed a0 b0 c0 mem regs kept pl st sp po (by omega) (h_b) (by omega) (h_f) (by omega) (h_m)) zPreC_blind (z_preC hC hp [0, 1, 2, 3, 4, 5, 6, 7, 8, 9, 10] rfl (by decide) [.ref sq]) (cwV 0 hts gL_apart_X3_apart rfl rfl rfl (by decide +kernel) ⟨Nat.le_of_ble_eq_true rfl, Nat.le_of_ble_eq_true rfl⟩) [0, 1, 2, 3, 4, 5, 6, 7, 8, 9, 10] [11] [1, 2, 3, 4, 5, 6, 7, 8, 9, 10, 11, 0] rfl rfl ⟨by decide, by decide, by decide⟩ (fun _ => rfl) (fun _ => rfl) 0 3 rfl rfl rfl rfl hl.1 rfl (Nat.le_of_ble_eq_true rfl) dL_apart_3 ⟨Nat.le_of_ble_eq_true rfl, Nat.le_of_ble_eq_true rfl⟩ hcat (fun rv u7 H locs hq1 hp => ?_)
  have hok := hq1
  obtain rfl : rv = iZ (apN mem (ldZ pb n org) (↑org + ↑n) (↑org + ↑n + u7.2.1 + 60) 256) := hq1.2.2
  refine lv_i2l (v := (iZ (apN mem (ldZ pb n org) (((org : Nat) : Int) + ((n : Nat) : Int)) (((org : Nat) : Int) + ((n : Nat) : Int) + u7.2.1 + 60) 256)).toInt64) hx hb dL_apart_6 (rfl) ?_
  refine z_last hx hb hJ hp 11 rfl dL_apart_7 (ws' := [oS sq kq q2 q0, oK kq q2 ks u7.1 u7.2.1 ed kc km kd kl, aI cI ks 163 u7.2.2.1, aI cI kc 161 u7.2.2.2.1, aI cI km 160 u7.2.2.2.2.1, aI cI kd 160 u7.2.2.2.2.2.1, aI cI kl 160 u7.2.2.2.2.2.2, oP q2 b2 o2 (↑n) (↑org) ent ed, aI cI b2 160 pb, oM q0 a0 b0 c0 pl st sp po, aI cI a0 256 mem, aJ cJ lq ((iZ (apN mem (ldZ pb n org) (((org : Nat) : Int) + ((n : Nat) : Int)) (((org : Nat) : Int) + ((n : Nat) : Int) + u7.2.1 + 60) 256)).toInt64)]) rfl (fun H locs hp => ?_)
  refine lv_goto (tgt := 17) hx hb dL_apart_8 (by decide) ?_
  refine z_iconst hx hb dL_apart_17 ?_
  exact hret _ _ _ _ _ _ _ (ed, u7, (iZ (apN mem (ldZ pb n org) (((org : Nat) : Int) + ((n : Nat) : Int)) (((org : Nat) : Int) + ((n : Nat) : Int) + u7.2.1 + 60) 256)).toInt64) (⟨congrArg iZ (by rw [if_neg (fun q => q hok.2.1.1), if_neg (fun q => q hok.2.1.2)]), Or.inr rfl, fun _ => hok.1, fun _ => rfl, fun _ => rfl⟩) hp dL_apart_18 (rfl) (Nat.le_of_ble_eq_true rfl) (Nat.le_of_ble_eq_true rfl)
