/-! what holds between two calls of the law: the class and the reference hold the same -/
theorem MB_mono {u : MS} {b b' : Int} (h : MB u b) (hb : b ≤ b') : MB u b' := by
  obtain ⟨h1, h2, h3, h4, h5, h6, h7⟩ := h
  exact ⟨h1, h2, h3, h4, h5, ⟨h6.1, Int.le_trans h6.2 hb⟩, ⟨h7.1, Int.le_trans h7.2 hb⟩⟩
def LI (k : Nat) (pb strm strm2 : Nat → Int) (mw : MS) (n org : Nat) (ent ed ln gp ek kn gp2 ln2 : Int) : Prop :=
  (n ≤ 160 ∧ org < 256) ∧ BB pb 160 ∧ (0 ≤ ent ∧ ent < 256) ∧ (-1 ≤ ek ∧ ek ≤ ed ∧ 0 ≤ ed ∧ ed ≤ 200 * (k : Int)) ∧ (ek = ed → Fresh pb n ln gp strm) ∧ rg kn ∧ (kn ≠ 0 → Fresh pb n ln2 gp2 strm2) ∧ MB mw (4000 * (k : Int))
section LIs
variable {k : Nat} {pb strm strm2 : Nat → Int} {mw : MS} {n org : Nat} {ent ed ln gp ek kn gp2 ln2 : Int}
theorem LI_next (h : LI k pb strm strm2 mw n org ent ed ln gp ek kn gp2 ln2) : LI (k + 1) pb strm strm2 mw n org ent ed ln gp ek kn gp2 ln2 := by
  obtain ⟨h1, h2, h3, h4, h5, h6, h7, h8⟩ := h
  exact ⟨h1, h2, h3, by omega, h5, h6, h7, MB_mono h8 (by omega)⟩
theorem LI_edit {pb' : Nat → Int} {n' : Nat} {ed' : Int} (h : LI k pb strm strm2 mw n org ent ed ln gp ek kn gp2 ln2) (hn : n' ≤ 160) (hb : BB pb' 160) (hd : ed < ed' ∧ ed' ≤ ed + 200) : LI (k + 1) pb' strm strm2 mw n' org ent ed' ln gp ek 0 gp2 ln2 := by
  obtain ⟨h1, h2, h3, h4, h5, h6, h7, h8⟩ := h
  exact ⟨⟨hn, h1.2⟩, hb, h3, by omega, fun q => by omega, ⟨by decide, by decide⟩, fun q => absurd rfl q, MB_mono h8 (by omega)⟩
theorem LI_kn0 (h : LI k pb strm strm2 mw n org ent ed ln gp ek kn gp2 ln2) : LI k pb strm strm2 mw n org ent ed ln gp ek 0 gp2 ln2 := by
  obtain ⟨h1, h2, h3, h4, h5, h6, h7, h8⟩ := h
  exact ⟨h1, h2, h3, h4, h5, ⟨by decide, by decide⟩, fun q => absurd rfl q, h8⟩
theorem LI_mach {mw' : MS} (h : LI k pb strm strm2 mw n org ent ed ln gp ek kn gp2 ln2) (hm : MB mw' (4000 * ((k + 1 : Nat) : Int))) : LI (k + 1) pb strm strm2 mw' n org ent ed ln gp ek kn gp2 ln2 := by
  obtain ⟨h1, h2, h3, h4, h5, h6, h7, h8⟩ := LI_next h
  exact ⟨h1, h2, h3, h4, h5, h6, h7, hm⟩
theorem LI_packX {strm' : Nat → Int} {ln' gp' : Int} (h : LI k pb strm strm2 mw n org ent ed ln gp ek kn gp2 ln2) (hf : Fresh pb n ln' gp' strm') : LI k pb strm' strm2 mw n org ent ed ln' gp' ed kn gp2 ln2 := by
  obtain ⟨h1, h2, h3, h4, h5, h6, h7, h8⟩ := h
  exact ⟨h1, h2, h3, by omega, fun _ => hf, h6, h7, h8⟩
theorem LI_packM {strm' : Nat → Int} {ln' gp' kn' : Int} (h : LI k pb strm strm2 mw n org ent ed ln gp ek kn gp2 ln2) (hk : rg kn') (hf : kn' ≠ 0 → Fresh pb n ln' gp' strm') : LI k pb strm strm' mw n org ent ed ln gp ek kn' gp' ln' := by
  obtain ⟨h1, h2, h3, h4, h5, h6, h7, h8⟩ := h
  exact ⟨h1, h2, h3, h4, h5, hk, hf, h8⟩
theorem LI_put {u : Nat} {kn' z : Int} {wl : Int64} (h : LI k pb strm strm2 mw n org ent ed ln gp ek kn gp2 ln2) (hu : u = if 1 ≤ z ∧ z ≤ 8 ∧ (n : Int) + z ≤ 160 then z.toNat else 0) (hk : kn' = if 1 ≤ z ∧ z ≤ 8 ∧ (n : Int) + z ≤ 160 then 0 else kn) :
    LI (k + 1) (cpZ (byteZ wl) pb 0 n u) strm strm2 mw (n + u) org ent (ed + u) ln gp ek kn' gp2 ln2 := by
  by_cases hc : 1 ≤ z ∧ z ≤ 8 ∧ (n : Int) + z ≤ 160
  · rw [if_pos hc] at hu hk
    subst hu; subst hk
    exact LI_edit h (by omega) (cpZ_b (N := 160) (fun j _ => byteZ_b wl j) h.2.1 (by omega)) (by omega)
  · rw [if_neg hc] at hu hk
    subst hu; subst hk
    rw [cpZ_0, Nat.add_zero, show ed + ((0 : Nat) : Int) = ed by omega]
    exact LI_next h
theorem LI_again {u : Nat} {kn' d z : Int} (h : LI k pb strm strm2 mw n org ent ed ln gp ek kn gp2 ln2) (hu : u = if 1 ≤ d ∧ d ≤ (n : Int) ∧ 0 ≤ z ∧ (n : Int) + z ≤ 160 then z.toNat else 0) (hk : kn' = if 1 ≤ d ∧ d ≤ (n : Int) ∧ 0 ≤ z ∧ (n : Int) + z ≤ 160 then 0 else kn) :
    LI (k + 1) (cpy1 pb n d.toNat u) strm strm2 mw (n + u) org ent (ed + u) ln gp ek kn' gp2 ln2 := by
  by_cases h0 : u = 0
  · subst h0
    rw [Nat.add_zero, show ed + ((0 : Nat) : Int) = ed by omega]
    by_cases hc : 1 ≤ d ∧ d ≤ (n : Int) ∧ 0 ≤ z ∧ (n : Int) + z ≤ 160
    · rw [if_pos hc] at hk
      subst hk
      exact LI_next (LI_kn0 h)
    · rw [if_neg hc] at hk
      subst hk
      exact LI_next h
  · by_cases hc : 1 ≤ d ∧ d ≤ (n : Int) ∧ 0 ≤ z ∧ (n : Int) + z ≤ 160
    · rw [if_pos hc] at hu hk
      subst hk
      exact LI_edit h (by omega) (cpy1_b u h.2.1 (by omega)) (by omega)
    · rw [if_neg hc] at hu
      exact absurd hu h0
theorem LI_change {c i z : Int} {uX : Int × (Nat → Int)} {uM : Int × Int × (Nat → Int)} (h : LI k pb strm strm2 mw n org ent ed ln gp ek kn gp2 ln2) (hc : c = 0 → (0 ≤ i ∧ i < (n : Int)) ∧ 0 ≤ z ∧ z < 256)
    (hX : uX = if c = 0 then (ed + 1, upZ pb i.toNat z) else (ed, pb)) (h1 : uM.1 = c) (h2 : uM.1 = 0 → uM.2.1 = 0 ∧ uM.2.2 = upZ pb i.toNat z) (h3 : uM.1 ≠ 0 → uM.2.1 = kn ∧ uM.2.2 = pb) :
    uM.2.2 = uX.2 ∧ LI (k + 1) uX.2 strm strm2 mw n org ent uX.1 ln gp ek uM.2.1 gp2 ln2 := by
  by_cases hz : c = 0
  · rw [if_pos hz] at hX
    obtain ⟨a1, a2⟩ := h2 (h1.trans hz)
    have hz2 := hc hz
    subst hX
    refine ⟨a2, ?_⟩
    rw [a1]
    exact LI_edit h h.1.1 (BB_up h.2.1 hz2.2) (by dsimp only; omega)
  · rw [if_neg hz] at hX
    obtain ⟨a1, a2⟩ := h3 (fun q => hz (h1.symm.trans q))
    subst hX
    refine ⟨a2, ?_⟩
    rw [a1]
    exact LI_next h
theorem LI_cut {z : Int} {uX : Int × Nat} {uM : Int × Int × Nat} (h : LI k pb strm strm2 mw n org ent ed ln gp ek kn gp2 ln2)
    (hX : uX = if 0 ≤ z ∧ z ≤ (n : Int) then (ed + 1, z.toNat) else (ed, n)) (h1 : uM.1 = if 0 ≤ z ∧ z ≤ (n : Int) then 0 else 1) (h2 : uM.1 = 0 → uM.2.1 = 0 ∧ uM.2.2 = z.toNat) (h3 : uM.1 ≠ 0 → uM.2.1 = kn ∧ uM.2.2 = n) :
    uM.2.2 = uX.2 ∧ LI (k + 1) pb strm strm2 mw uX.2 org ent uX.1 ln gp ek uM.2.1 gp2 ln2 := by
  have hn := h.1.1
  by_cases hz : 0 ≤ z ∧ z ≤ (n : Int)
  · rw [if_pos hz] at hX h1
    obtain ⟨a1, a2⟩ := h2 h1
    subst hX
    refine ⟨a2, ?_⟩
    rw [a1]
    exact LI_edit h (by dsimp only; omega) h.2.1 (by dsimp only; omega)
  · rw [if_neg hz] at hX h1
    obtain ⟨a1, a2⟩ := h3 (by rw [h1]; decide)
    subst hX
    refine ⟨a2, ?_⟩
    rw [a1]
    exact LI_next h
theorem LI_place {o e_ : Int} {uX : Nat × Int} {uM : Int × Nat × Int} (h : LI k pb strm strm2 mw n org ent ed ln gp ek kn gp2 ln2)
    (hX : uX = if (0 ≤ o ∧ o < 256) ∧ 0 ≤ e_ ∧ e_ < 256 then (o.toNat, e_) else (org, ent)) (h1 : uM.1 = if (0 ≤ o ∧ o < 256) ∧ 0 ≤ e_ ∧ e_ < 256 then 0 else 1) (h2 : uM.1 = 0 → uM.2.1 = o.toNat ∧ uM.2.2 = e_) (h3 : uM.1 ≠ 0 → uM.2.1 = org ∧ uM.2.2 = ent) :
    uM.2 = uX ∧ LI (k + 1) pb strm strm2 mw n uX.1 uX.2 ed ln gp ek kn gp2 ln2 := by
  by_cases hz : (0 ≤ o ∧ o < 256) ∧ 0 ≤ e_ ∧ e_ < 256
  · rw [if_pos hz] at hX h1
    obtain ⟨a1, a2⟩ := h2 h1
    subst hX
    refine ⟨Prod.ext a1 a2, ?_⟩
    obtain ⟨g1, g2, g3, g4, g5, g6, g7, g8⟩ := LI_next h
    exact ⟨⟨g1.1, by dsimp only; omega⟩, g2, hz.2, g4, g5, g6, g7, g8⟩
  · rw [if_neg hz] at hX h1
    obtain ⟨a1, a2⟩ := h3 (by rw [h1]; decide)
    subst hX
    exact ⟨Prod.ext a1 a2, LI_next h⟩
theorem cpZ_ext {f f' g : Nat → Int} {sp dp n : Nat} (h : ∀ j, j < n → f (sp + j) = f' (sp + j)) : cpZ f g sp dp n = cpZ f' g sp dp n := by
  funext j
  unfold cpZ
  by_cases hj : dp ≤ j ∧ j < dp + n
  · rw [if_pos hj, if_pos hj]; exact h _ (by omega)
  · rw [if_neg hj, if_neg hj]
theorem LI_unpack {ob opn : Nat → Int} {r : Int32} {uX : Nat × Int × (Nat → Int) × (Nat → Int) × Int64} {uM : Int × Int × Nat × (Nat → Int) × (Nat → Int)} (h : LI k pb strm strm2 mw n org ent ed ln gp ek kn gp2 ln2)
    (hX : (unp pb n (n + 1) 0 0 ob).1 = 0 → uX.1 = (unp pb n (n + 1) 0 0 ob).2.1 ∧ uX.2.1 = ed + 1 ∧ uX.2.2.1 = cpZ (unp pb n (n + 1) 0 0 ob).2.2 pb 0 0 (unp pb n (n + 1) 0 0 ob).2.1 ∧ uX.2.2.2.2 = (iZ ↑(unp pb n (n + 1) 0 0 ob).2.1).toInt64)
    (hX2 : (unp pb n (n + 1) 0 0 ob).1 ≠ 0 → uX.1 = n ∧ uX.2.1 = ed ∧ uX.2.2.1 = pb)
    (h1 : uM.1 = (unp pb n (n + 1) 0 0 opn).1) (h2 : (unp pb n (n + 1) 0 0 opn).1 = 0 → uM.2.1 = 0 ∧ uM.2.2.1 = (unp pb n (n + 1) 0 0 opn).2.1 ∧ uM.2.2.2.1 = cpZ (unp pb n (n + 1) 0 0 opn).2.2 pb 0 0 (unp pb n (n + 1) 0 0 opn).2.1 ∧ r = iZ ↑(unp pb n (n + 1) 0 0 opn).2.1)
    (h3 : (unp pb n (n + 1) 0 0 opn).1 ≠ 0 → uM.2.1 = kn ∧ uM.2.2.1 = n ∧ uM.2.2.2.1 = pb) :
    uM.1 = (unp pb n (n + 1) 0 0 ob).1 ∧ uM.2.2.1 = uX.1 ∧ uM.2.2.2.1 = uX.2.2.1 ∧ ((unp pb n (n + 1) 0 0 ob).1 = 0 → uX.2.2.2.2 = r.toInt64) ∧ LI (k + 1) uX.2.2.1 strm strm2 mw uX.1 org ent uX.2.1 ln gp ek uM.2.1 gp2 ln2 := by
  have hn := h.1.1
  have hb := h.2.1
  have hb0 : ∀ j, j < n → 0 ≤ pb j := fun j hj => (hb j (by omega)).1
  obtain ⟨e1, e2, e3⟩ := unp_ag hb0 (n + 1) 0 0 opn ob (fun j hj => absurd hj (Nat.not_lt_zero j))
  obtain ⟨f1, f2, f3⟩ := unp_ag hb0 (n + 1) 0 0 ob (fun _ => 0) (fun j hj => absurd hj (Nat.not_lt_zero j))
  obtain ⟨b1, b2⟩ := unp_b hn hb (n + 1) 0 0 (fun _ => 0) (by omega) (fun j _ => ⟨Int.le_refl 0, show (0 : Int) < 256 by decide⟩)
  have hc : cpZ (unp pb n (n + 1) 0 0 opn).2.2 pb 0 0 (unp pb n (n + 1) 0 0 opn).2.1 = cpZ (unp pb n (n + 1) 0 0 ob).2.2 pb 0 0 (unp pb n (n + 1) 0 0 ob).2.1 := by
    rw [← e2]
    exact cpZ_ext (fun j hj => e3 _ (by omega))
  have hd : cpZ (unp pb n (n + 1) 0 0 ob).2.2 pb 0 0 (unp pb n (n + 1) 0 0 ob).2.1 = cpZ (unp pb n (n + 1) 0 0 (fun _ => 0)).2.2 pb 0 0 (unp pb n (n + 1) 0 0 ob).2.1 := cpZ_ext (fun j hj => f3 _ (by omega))
  refine ⟨h1.trans e1, ?_⟩
  by_cases hz : (unp pb n (n + 1) 0 0 ob).1 = 0
  · obtain ⟨x1, x2, x3, x4⟩ := hX hz
    obtain ⟨m1, m2, m3, m4⟩ := h2 (e1.trans hz)
    refine ⟨by rw [m2, x1, e2], by rw [m3, x3, hc], fun _ => by rw [x4, m4, e2], ?_⟩
    rw [m1, x1, x2, x3]
    refine LI_edit h (by omega) ?_ (by omega)
    rw [hd]
    exact cpZ_b b2 hb (by omega)
  · obtain ⟨x1, x2, x3⟩ := hX2 hz
    obtain ⟨m1, m2, m3⟩ := h3 (fun q => hz (e1.symm.trans q))
    refine ⟨by rw [m2, x1], by rw [m3, x3], fun q => absurd q hz, ?_⟩
    rw [m1, x1, x2, x3]
    exact LI_next h
theorem BB_0 (N : Nat) : BB (fun _ => 0) N := fun _ _ => ⟨Int.le_refl 0, show (0 : Int) < 256 by decide⟩
theorem LI_load {uX : (Nat → Int) × (Nat → Int) × Int × Int × Int × Int} {uM : Int × (Nat → Int) × (Nat → Int) × Int × Int × Int × Int} (h : LI k pb strm strm2 mw n org ent ed ln gp ek kn gp2 ln2)
    (hX : uX = if org + n ≤ 256 then (cpZ pb (fun _ => 0) 0 org n, fun _ => 0, ent, 0, 0, 0) else (mw.1, mw.2.1, mw.2.2.2.1, mw.2.2.2.2.1, mw.2.2.2.2.2.1, mw.2.2.2.2.2.2))
    (h1 : uM.1 = if org + n ≤ 256 then 0 else 1) (h2 : uM.1 = 0 → uM.2 = (cpZ pb (fun _ => 0) 0 org n, fun _ => 0, ent, 0, 0, 0)) (h3 : uM.1 ≠ 0 → uM.2 = (mw.1, mw.2.1, mw.2.2.2.1, mw.2.2.2.2.1, mw.2.2.2.2.2.1, mw.2.2.2.2.2.2)) :
    uM.2 = uX ∧ LI (k + 1) pb strm strm2 (uX.1, uX.2.1, mw.2.2.1, uX.2.2.1, uX.2.2.2.1, uX.2.2.2.2.1, uX.2.2.2.2.2) n org ent ed ln gp ek kn gp2 ln2 := by
  by_cases hz : org + n ≤ 256
  · rw [if_pos hz] at hX h1
    subst hX
    refine ⟨h2 h1, LI_mach h ⟨cpZ_b h.2.1 (BB_0 256) (by have := h.1.1; omega), BB_0 8, h.2.2.2.2.2.2.2.2.2.1, h.2.2.1, ?_, ?_, ?_⟩⟩
    · exact ⟨Int.le_refl 0, by show (0 : Int) ≤ 2; decide⟩
    · exact ⟨Int.le_refl 0, by show (0 : Int) ≤ _; omega⟩
    · exact ⟨Int.le_refl 0, by show (0 : Int) ≤ _; omega⟩
  · rw [if_neg hz] at hX h1
    subst hX
    exact ⟨h3 (by rw [h1]; decide), LI_next h⟩
theorem stubS_b (stub b : Nat) : 0 ≤ stubS stub b ∧ stubS stub b < 256 := by
  have := stubZ_b b
  unfold stubS
  split <;> omega
theorem stubRow_b {mem : Nat → Int} {stub : Nat} {start org ent : Int} {N : Nat} (hm : BB mem N) (h1 : 0 ≤ start ∧ start < 256) (h2 : 0 ≤ org ∧ org < 256) (h3 : 0 ≤ ent ∧ ent < 256) : BB (stubRow mem stub start org ent) N := by
  intro j hj
  unfold stubRow stubV
  have := stubS_b stub (j - stub)
  have := hm j hj
  (repeat' split) <;> assumption
theorem LI_loadPacked {r : Int32} {uX : (Int × Int × (Nat → Int) × (Nat → Int) × (Nat → Int) × (Nat → Int) × (Nat → Int)) × ((Nat → Int) × (Nat → Int) × Int × Int × Int × Int) × Int64} {uM : Int × (Int × Int × Int × (Nat → Int) × (Nat → Int) × (Nat → Int) × (Nat → Int) × (Nat → Int)) × (Nat → Int) × (Nat → Int) × Int × Int × Int × Int} (h : LI k pb strm strm2 mw n org ent ed ln gp ek kn gp2 ln2)
    (hf : Fresh pb n uX.1.1 uX.1.2.1 uX.1.2.2.1) (hX : (org : Int) + n + uX.1.2.1 + 60 ≤ 256 → uX.2.1 = (stubRow (cpZ uX.1.2.2.1 (fun _ => 0) 0 (org + n + uX.1.2.1.toNat - uX.1.1.toNat) uX.1.1.toNat) (org + n + uX.1.2.1.toNat) (↑(org + n + uX.1.2.1.toNat - uX.1.1.toNat)) ↑org ent, fun _ => 0, ↑(org + n + uX.1.2.1.toNat), 0, 0, 0) ∧ uX.2.2 = (iZ ((n : Int) + uX.1.2.1 + 60)).toInt64)
    (hX2 : ¬ (org : Int) + n + uX.1.2.1 + 60 ≤ 256 → uX.2.1 = (mw.1, mw.2.1, mw.2.2.2.1, mw.2.2.2.2.1, mw.2.2.2.2.2.1, mw.2.2.2.2.2.2))
    (h1 : uM.1 = if (org : Int) + n + uM.2.1.2.2.1 + 60 ≤ 256 then 0 else 1) (hk : uM.2.1.1 ≠ 0 ∧ rg uM.2.1.1) (hf2 : Fresh pb n uM.2.1.2.1 uM.2.1.2.2.1 uM.2.1.2.2.2.1)
    (h2 : uM.1 = 0 → uM.2.2 = (stubRow (cpZ uM.2.1.2.2.2.1 (fun _ => 0) 0 (org + n + uM.2.1.2.2.1.toNat - uM.2.1.2.1.toNat) uM.2.1.2.1.toNat) (org + n + uM.2.1.2.2.1.toNat) (↑(org + n + uM.2.1.2.2.1.toNat - uM.2.1.2.1.toNat)) ↑org ent, fun _ => 0, ↑(org + n + uM.2.1.2.2.1.toNat), 0, 0, 0) ∧ r = iZ ((n : Int) + uM.2.1.2.2.1 + 60))
    (h3 : uM.1 ≠ 0 → uM.2.2 = (mw.1, mw.2.1, mw.2.2.2.1, mw.2.2.2.2.1, mw.2.2.2.2.2.1, mw.2.2.2.2.2.2)) :
    uM.1 = (if (org : Int) + n + uX.1.2.1 + 60 ≤ 256 then 0 else 1) ∧ uM.2.2 = uX.2.1 ∧ ((org : Int) + n + uX.1.2.1 + 60 ≤ 256 → uX.2.2 = r.toInt64) ∧
    LI (k + 1) pb uX.1.2.2.1 uM.2.1.2.2.2.1 (uX.2.1.1, uX.2.1.2.1, mw.2.2.1, uX.2.1.2.2.1, uX.2.1.2.2.2.1, uX.2.1.2.2.2.2.1, uX.2.1.2.2.2.2.2) n org ent ed uX.1.1 uX.1.2.1 ed uM.2.1.1 uM.2.1.2.2.1 uM.2.1.2.1 := by
  have hn := h.1.1
  have ho := h.1.2
  have hb := h.2.1
  obtain ⟨q1, q2, q3⟩ := Fresh_one hn hb hf hf2
  obtain ⟨r1, r2, r3⟩ := Fresh_b hn hb hf
  have h9 := LI_packM (LI_packX h hf) hk.2 (fun _ => hf2)
  have hrow : cpZ uM.2.1.2.2.2.1 (fun _ => 0) 0 (org + n + uX.1.2.1.toNat - uX.1.1.toNat) uX.1.1.toNat = cpZ uX.1.2.2.1 (fun _ => 0) 0 (org + n + uX.1.2.1.toNat - uX.1.1.toNat) uX.1.1.toNat := cpZ_ext (fun j hj => (q3 _ (by omega)).symm)
  rw [← q1, ← q2] at h2
  rw [← q2] at h1
  rw [hrow] at h2
  refine ⟨h1, ?_⟩
  by_cases hz : (org : Int) + n + uX.1.2.1 + 60 ≤ 256
  · rw [if_pos hz] at h1
    obtain ⟨x1, x2⟩ := hX hz
    obtain ⟨m1, m2⟩ := h2 h1
    refine ⟨m1.trans x1.symm, fun _ => by rw [x2, m2], ?_⟩
    rw [x1]
    refine LI_mach h9 ⟨stubRow_b (cpZ_b (N := 0 + uX.1.1.toNat) (fun j hj => r3 j (by omega)) (BB_0 256) (Nat.le_refl _)) (by omega) (by omega) h.2.2.1, BB_0 8, h.2.2.2.2.2.2.2.2.2.1, ?_, ?_, ?_, ?_⟩
    · show 0 ≤ (((org + n + uX.1.2.1.toNat : Nat)) : Int) ∧ (((org + n + uX.1.2.1.toNat : Nat)) : Int) < 256
      omega
    · exact ⟨Int.le_refl 0, by show (0 : Int) ≤ 2; decide⟩
    · exact ⟨Int.le_refl 0, by show (0 : Int) ≤ _; omega⟩
    · exact ⟨Int.le_refl 0, by show (0 : Int) ≤ _; omega⟩
  · rw [if_neg hz] at h1
    have x1 := hX2 hz
    refine ⟨(h3 (by rw [h1]; decide)).trans x1.symm, fun q => absurd q hz, ?_⟩
    rw [x1]
    exact LI_next h9
theorem LI_run {z til : Int} {r : Int32} {v : Int64} {uX : MS × Int64} {uM : Int × MS} (h : LI k pb strm strm2 mw n org ent ed ln gp ek kn gp2 ln2)
    (hX : (0 ≤ z ∧ z ≤ 4000) ∧ -1 ≤ til ∧ til ≤ 255 → uX = ((mrun til z.toNat mw).2, (iZ ↑(mrun til z.toNat mw).1).toInt64)) (hX2 : ¬ ((0 ≤ z ∧ z ≤ 4000) ∧ -1 ≤ til ∧ til ≤ 255) → uX = (mw, v))
    (h1 : uM.1 = if (0 ≤ z ∧ z ≤ 4000) ∧ -1 ≤ til ∧ til ≤ 255 then 0 else 1) (h2 : uM.1 = 0 → uM.2 = (mrun til z.toNat mw).2 ∧ r = iZ ↑(mrun til z.toNat mw).1) (h3 : uM.1 ≠ 0 → uM.2 = mw) :
    uM.2 = uX.1 ∧ ((0 ≤ z ∧ z ≤ 4000) ∧ -1 ≤ til ∧ til ≤ 255 → uX.2 = r.toInt64) ∧ LI (k + 1) pb strm strm2 uX.1 n org ent ed ln gp ek kn gp2 ln2 := by
  by_cases hz : (0 ≤ z ∧ z ≤ 4000) ∧ -1 ≤ til ∧ til ≤ 255
  · rw [if_pos hz] at h1
    obtain ⟨m1, m2⟩ := h2 h1
    have x1 := hX hz
    subst x1
    refine ⟨m1, fun _ => by rw [m2], LI_mach h (MB_mono (mrun_b til z.toNat mw _ h.2.2.2.2.2.2.2) (by omega))⟩
  · rw [if_neg hz] at h1
    have x1 := hX2 hz
    subst x1
    exact ⟨h3 (by rw [h1]; decide), fun q => absurd q hz, LI_next h⟩
end LIs
