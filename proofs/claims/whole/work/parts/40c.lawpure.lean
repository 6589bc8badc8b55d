theorem LI_apart {k : Nat} {pb strm strm2 : Nat → Int} {mw : MS} {n org : Nat} {ent ed ln gp ek kn gp2 ln2 : Int} {r : Int32} {uX : Int × (Int × Int × (Nat → Int) × (Nat → Int) × (Nat → Int) × (Nat → Int) × (Nat → Int)) × Int64} {uM : Int × Int × Int × Int × (Nat → Int) × (Nat → Int) × (Nat → Int) × (Nat → Int) × (Nat → Int)} (h : LI k pb strm strm2 mw n org ent ed ln gp ek kn gp2 ln2)
    (ha : uX.1 = ek ∨ uX.1 = ed) (hf : uX.1 = ed → Fresh pb n uX.2.1.1 uX.2.1.2.1 uX.2.1.2.2.1) (he : org + n ≤ 256 → uX.1 = ed) (hv : (if ¬ (org + n ≤ 256) then 1 else if ¬ ((org : Int) + n + uX.2.1.2.1 + 60 ≤ 256) then 2 else 0 : Int) = 0 → uX.2.2 = (iZ (apN mw.1 (ldZ pb n org) ((org : Int) + n) ((org : Int) + n + uX.2.1.2.1 + 60) 256)).toInt64)
    (h1 : uM.1 = if ¬ (org + n ≤ 256) then 1 else if ¬ ((org : Int) + n + uM.2.2.2.1 + 60 ≤ 256) then 2 else 0) (hk : rg uM.2.1) (hf2 : uM.2.1 ≠ 0 → Fresh pb n uM.2.2.1 uM.2.2.2.1 uM.2.2.2.2.1) (hk2 : org + n ≤ 256 → uM.2.1 ≠ 0)
    (hr : uM.1 = 0 → r = iZ (apN mw.1 (ldZ pb n org) ((org : Int) + n) ((org : Int) + n + uM.2.2.2.1 + 60) 256)) :
    uM.1 = (if ¬ (org + n ≤ 256) then 1 else if ¬ ((org : Int) + n + uX.2.1.2.1 + 60 ≤ 256) then 2 else 0) ∧ ((if ¬ (org + n ≤ 256) then 1 else if ¬ ((org : Int) + n + uX.2.1.2.1 + 60 ≤ 256) then 2 else 0 : Int) = 0 → uX.2.2 = r.toInt64) ∧
    LI (k + 1) pb uX.2.1.2.2.1 uM.2.2.2.2.1 mw n org ent ed uX.2.1.1 uX.2.1.2.1 uX.1 uM.2.1 uM.2.2.2.1 uM.2.2.1 := by
  have hn := h.1.1
  have hb := h.2.1
  obtain ⟨g1, g2, g3, g4, g5, g6, g7, g8⟩ := LI_next h
  have hLI : LI (k + 1) pb uX.2.1.2.2.1 uM.2.2.2.2.1 mw n org ent ed uX.2.1.1 uX.2.1.2.1 uX.1 uM.2.1 uM.2.2.2.1 uM.2.2.1 :=
    ⟨g1, g2, g3, by omega, hf, hk, hf2, g8⟩
  by_cases hz : org + n ≤ 256
  · obtain ⟨q1, q2, q3⟩ := Fresh_one hn hb (hf (he hz)) (hf2 (hk2 hz))
    rw [← q2] at h1 hr
    refine ⟨h1, fun q => ?_, hLI⟩
    rw [hv q, hr (h1.trans q)]
  · rw [if_pos hz] at h1 ⊢
    exact ⟨h1, fun q => absurd q (by decide), hLI⟩
