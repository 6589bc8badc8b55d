/-! the reference's own numbers -/
theorem sh8 (i : Nat) (hi : i < 8) : (((iZ (8 * (i : Int))).toInt64 &&& 63).toBitVec.smod 64).toNat = 8 * i := by
  have key : ∀ i : Nat, i < 8 → (((iZ (8 * (i : Int))).toInt64 &&& 63).toBitVec.smod 64).toNat = 8 * i := by decide +kernel
  exact key i hi
/-- how far the distances below D are right, at most -/
def FAp (pb : Nat → Int) (n i D fa : Nat) : Prop := (fa = 0 ∨ ∃ x, 1 ≤ x ∧ x < D ∧ al pb n i x = fa) ∧ ∀ d, 1 ≤ d → d < D → al pb n i d ≤ fa
theorem FAp_1 (pb : Nat → Int) (n i : Nat) : FAp pb n i 1 0 := ⟨Or.inl rfl, fun d h1 h2 => by omega⟩
theorem FAp_up {pb : Nat → Int} {n i D fa v : Nat} (hD : 1 ≤ D) (h : FAp pb n i D fa) (hv : v = al pb n i D) (h1 : fa < v) : FAp pb n i (D + 1) v := by
  refine ⟨Or.inr ⟨D, hD, by omega, hv.symm⟩, fun d e1 e2 => ?_⟩
  by_cases e : d = D
  · subst e; omega
  · have := h.2 d e1 (by omega); omega
theorem FAp_keep {pb : Nat → Int} {n i D fa : Nat} (h : FAp pb n i D fa) (h1 : al pb n i D ≤ fa) : FAp pb n i (D + 1) fa := by
  refine ⟨h.1.imp id (fun ⟨x, e1, e2, e3⟩ => ⟨x, e1, by omega, e3⟩), fun d e1 e2 => ?_⟩
  by_cases e : d = D
  · subst e; exact h1
  · exact h.2 d e1 (by omega)
theorem FAp_b {pb : Nat → Int} {n i D fa : Nat} (hi : i < n) (h : FAp pb n i D fa) : i + fa ≤ n := by
  rcases h.1 with e | ⟨x, -, -, e⟩
  · omega
  · have := al_le (pb := pb) (n := n) (d := x) (n - i) i (by omega)
    omega
theorem FC_ex (pb : Nat → Int) (n i : Nat) : ∃ m x, FC pb n i m x := by
  have key : ∀ D, ∃ m x, FCp pb n i (D + 1) m x := by
    intro D
    induction D with
    | zero => exact ⟨0, 0, FCp_1 pb n i⟩
    | succ D ih =>
      obtain ⟨m, x, h⟩ := ih
      by_cases e : 1 < ca pb n i (D + 1) ∧ m < ca pb n i (D + 1)
      · exact ⟨_, _, FCp_up (by omega) h e.1 e.2⟩
      · exact ⟨_, _, FCp_keep h e⟩
  exact key i
theorem FC_FA {pb : Nat → Int} {n i fa m x : Nat} (hi : i < n) (h : FAp pb n i (n + 1) fa) (hf : FC pb n i m x) : (2 ≤ fa → m = min fa 129) ∧ (fa ≤ 1 → m = 0) := by
  have h0 : ∀ d, i < d → al pb n i d = 0 := fun d hd => by rw [al_s d hi, if_neg (fun q => absurd q.1 (by omega))]
  rcases hf with ⟨rfl, -, hf⟩ | ⟨g1, g2, g3, g4, g5, -⟩
  · refine ⟨fun q => ?_, fun _ => rfl⟩
    rcases h.1 with e | ⟨y, e1, e2, e3⟩
    · omega
    · by_cases hy : i < y
      · have := h0 y hy; omega
      · have := hf y e1 (by omega)
        unfold ca at this
        omega
  · have e1 := h.2 x g2 (by omega)
    unfold ca at g4 g5
    refine ⟨fun q => ?_, fun q => by omega⟩
    rcases h.1 with e | ⟨y, k1, k2, k3⟩
    · omega
    · by_cases hy : i < y
      · have := h0 y hy; omega
      · have := g5 y k1 (by omega)
        omega
theorem FC_at {pb : Nat → Int} {n i m x d : Nat} (hf : FC pb n i m x) (hm : 2 ≤ m) (h : d = x) : m ≤ al pb n i d := by
  subst h
  rcases hf with ⟨rfl, -, -⟩ | ⟨-, -, -, g4, -, -⟩
  · omega
  · unfold ca at g4; omega
theorem FC_first {pb : Nat → Int} {n i m x d : Nat} (hf : FC pb n i m x) (hm : 2 ≤ m) (h1 : 1 ≤ d) (h2 : d ≤ x) (h : m ≤ al pb n i d) : d = x := by
  rcases hf with ⟨rfl, -, -⟩ | ⟨-, -, -, g4, -, g6⟩
  · omega
  · by_cases e : d < x
    · have := g6 d h1 e
      unfold ca at this g4
      omega
    · omega
theorem RTe {C : Nat → Int} {i t r : Nat} {b : Int} (h : CTi C i t r b 100000) (ht : 2 ≤ t) (hC : C (i + 1) ≤ 400) : 1 ≤ r ∧ r < t ∧ b = 1 + r + C (i + r) ∧ (∀ q : Nat, 1 ≤ q → q < t → b ≤ 1 + q + C (i + q)) ∧ ∀ q : Nat, 1 ≤ q → q < r → b < 1 + q + C (i + q) := by
  rcases h with ⟨e1, e2, h⟩ | ⟨e1, e2, e3, e4, h, h5⟩
  · have := h 1 (by omega) (by omega); omega
  · exact ⟨e1, e2, e3, h, h5⟩
/-- copies of fewer than t bytes looked at; y bytes the last that is no longer than the best, b the runs' -/
def CPi (C : Nat → Int) (i : Nat) (b : Int) (t y : Nat) (b2 : Int) : Prop :=
  (y = 0 ∧ b2 = b ∧ ∀ q : Nat, 2 ≤ q → q < t → b < 2 + C (i + q)) ∨ (2 ≤ y ∧ y = t - 1 ∧ b2 = 2 + C (i + y) ∧ b2 ≤ b)
theorem CPi_0 (C : Nat → Int) (i : Nat) (b : Int) : CPi C i b 2 0 b := Or.inl ⟨rfl, rfl, fun q h1 h2 => by omega⟩
theorem CPi_up {C : Nat → Int} {i t y : Nat} {b b2 : Int} (ht : 2 ≤ t) (h : CPi C i b t y b2) (h1 : 2 + C (i + t) ≤ b2) : CPi C i b (t + 1) t (2 + C (i + t)) := by
  refine Or.inr ⟨ht, by omega, rfl, ?_⟩
  rcases h with ⟨e1, e2, h⟩ | ⟨e1, e2, e3, e4⟩ <;> omega
theorem CPi_keep {C : Nat → Int} {i t y : Nat} {b b2 : Int} (h : CPi C i b t y b2) (h1 : b2 < 2 + C (i + t)) (hm : 3 ≤ t → C (i + t) ≤ C (i + (t - 1))) : CPi C i b (t + 1) y b2 := by
  rcases h with ⟨e1, e2, h⟩ | ⟨e1, e2, e3, e4⟩
  · refine Or.inl ⟨e1, e2, fun q q1 q2 => ?_⟩
    by_cases e : q = t
    · subst e; omega
    · exact h q q1 (by omega)
  · subst e2
    have := hm (by omega)
    omega
theorem CPi_end {C : Nat → Int} {i t y fc : Nat} {b b2 : Int} (h : CPi C i b t y b2) (ht : (t = fc + 1 ∨ t = 2) ∧ fc < t) : (y = 0 ∧ b2 = b ∧ (2 ≤ fc → b < 2 + C (i + fc))) ∨ (2 ≤ y ∧ y = fc ∧ b2 = 2 + C (i + fc) ∧ b2 ≤ b) := by
  rcases h with ⟨e1, e2, h⟩ | ⟨e1, e2, e3, e4⟩
  · exact Or.inl ⟨e1, e2, fun q => h fc q (by omega)⟩
  · have e : y = fc := by omega
    subst e
    exact Or.inr ⟨e1, rfl, e3, e4⟩
theorem PSi_run {pb C : Nat → Int} {n i m x r : Nat} {b c M D : Int} (hi : i < n) (hf : FC pb n i m x) (hr : 1 ≤ r ∧ r ≤ 127 ∧ i + r ≤ n) (hb : b = 1 + r + C (i + r)) (h1 : ∀ q : Nat, 1 ≤ q → q ≤ 127 → i + q ≤ n → b ≤ 1 + q + C (i + q)) (h2 : ∀ q : Nat, 1 ≤ q → q < r → b < 1 + q + C (i + q)) (hm : 2 ≤ m → b < 2 + C (i + m)) (hM : M = r) (hD : D = 0) (hc : c = b) : PSi pb n C i M D c := by
  subst hc
  exact ⟨m, x, hf, Or.inr ⟨hD, r, hM, hr.1, hr.2.1, hr.2.2, hb, h1, h2, hm⟩⟩
theorem PSi_cpy {pb C : Nat → Int} {n i m x : Nat} {c M D : Int} (hi : i < n) (hf : FC pb n i m x) (h2 : 2 ≤ m) (hc : c = 2 + C (i + m)) (h1 : ∀ q : Nat, 1 ≤ q → q ≤ 127 → i + q ≤ n → c ≤ 1 + q + C (i + q)) (hM : M = m) (hD : D = x) : PSi pb n C i M D c :=
  ⟨m, x, hf, Or.inl ⟨h2, hM, hD, hc, h1⟩⟩
/-- the reference's tokens, read as the number of bytes and the distance -/
def Mz (T : Nat → Int) : Nat → Int := fun j => if 127 < T j then T j - 126 else T j
def Dz (T D : Nat → Int) : Nat → Int := fun j => if 127 < T j then D j else 0
theorem Mz_up (T : Nat → Int) (i : Nat) (v : Int) : Mz (upZ T i v) = upZ (Mz T) i (if 127 < v then v - 126 else v) := by
  funext j
  unfold Mz upZ
  by_cases e : j = i
  · rw [if_pos e, if_pos e]
  · rw [if_neg e, if_neg e]
theorem Dz_up (T D : Nat → Int) (i : Nat) (v w : Int) : Dz (upZ T i v) (upZ D i w) = upZ (Dz T D) i (if 127 < v then w else 0) := by
  funext j
  unfold Dz upZ
  by_cases e : j = i
  · rw [if_pos e, if_pos e, if_pos e]
  · rw [if_neg e, if_neg e, if_neg e]
/-- what is wrong with a token -/
def wrZ (pb : Nat → Int) (n rd gr : Nat) : Int :=
  if 127 < pb rd then (if (n : Int) < rd + 2 then 1 else if pb (rd + 1) = 0 ∨ (gr : Int) < pb (rd + 1) then 3 else if 160 < (gr : Int) + (pb rd - 126) then 4 else 0)
  else if (n : Int) < rd + (1 + pb rd) then 1 else if 160 < (gr : Int) + pb rd then 4 else 0
theorem unp_wrong {pb : Nat → Int} {n f rd gr : Nat} {op : Nat → Int} (hb : BB pb 160) (hn : n ≤ 160) (hg : gr ≤ 160) (h1 : rd < n) (h2 : pb rd ≠ 0) (hw : wrZ pb n rd gr ≠ 0) : unp pb n (f + 1) rd gr op = (wrZ pb n rd gr, gr, op) := by
  have b1 := hb rd (by omega)
  unfold wrZ at hw ⊢
  by_cases h3 : pb rd < 128
  · rw [unp_run h1 h2 h3]
    rw [if_neg (show ¬ 127 < pb rd by omega)] at hw ⊢
    by_cases q1 : n - rd - 1 < (pb rd).toNat
    · rw [if_pos q1, if_pos (show (n : Int) < rd + (1 + pb rd) by omega)]
    · have q3 : ¬ (n : Int) < rd + (1 + pb rd) := by omega
      rw [if_neg q1, if_neg q3]
      rw [if_neg q3] at hw
      by_cases q2 : 160 - gr < (pb rd).toNat
      · rw [if_pos q2, if_pos (show 160 < (gr : Int) + pb rd by omega)]
      · exfalso
        rw [if_neg (show ¬ 160 < (gr : Int) + pb rd by omega)] at hw
        exact hw rfl
  · rw [unp_cpy h1 h2 h3]
    rw [if_pos (show 127 < pb rd by omega)] at hw ⊢
    by_cases q1 : n ≤ rd + 1
    · rw [if_pos q1, if_pos (show (n : Int) < rd + 2 by omega)]
    · have b2 := hb (rd + 1) (by omega)
      have q4 : ¬ (n : Int) < rd + 2 := by omega
      rw [if_neg q1, if_neg q4]
      rw [if_neg q4] at hw
      by_cases q2 : pb (rd + 1) = 0 ∨ gr < (pb (rd + 1)).toNat
      · rw [if_pos q2, if_pos (show pb (rd + 1) = 0 ∨ (gr : Int) < pb (rd + 1) by omega)]
      · have q5 : ¬ (pb (rd + 1) = 0 ∨ (gr : Int) < pb (rd + 1)) := by omega
        rw [if_neg q2, if_neg q5]
        rw [if_neg q5] at hw
        by_cases q3 : 160 - gr < (pb rd).toNat - 126
        · rw [if_pos q3, if_pos (show 160 < (gr : Int) + (pb rd - 126) by omega)]
        · exfalso
          rw [if_neg (show ¬ 160 < (gr : Int) + (pb rd - 126) by omega)] at hw
          exact hw rfl
theorem wrZ_run {pb : Nat → Int} {n rd gr : Nat} (h : wrZ pb n rd gr = 0) (h3 : ¬ 127 < pb rd) : (rd : Int) + (1 + pb rd) ≤ n ∧ (gr : Int) + pb rd ≤ 160 := by
  unfold wrZ at h
  rw [if_neg h3] at h
  by_cases q1 : (n : Int) < rd + (1 + pb rd)
  · rw [if_pos q1] at h; omega
  · rw [if_neg q1] at h
    by_cases q2 : 160 < (gr : Int) + pb rd
    · rw [if_pos q2] at h; omega
    · omega
theorem wrZ_cpy {pb : Nat → Int} {n rd gr : Nat} (h : wrZ pb n rd gr = 0) (h3 : 127 < pb rd) : (rd : Int) + 2 ≤ n ∧ pb (rd + 1) ≠ 0 ∧ pb (rd + 1) ≤ gr ∧ (gr : Int) + (pb rd - 126) ≤ 160 := by
  unfold wrZ at h
  rw [if_pos h3] at h
  by_cases q1 : (n : Int) < rd + 2
  · rw [if_pos q1] at h; omega
  · rw [if_neg q1] at h
    by_cases q2 : pb (rd + 1) = 0 ∨ (gr : Int) < pb (rd + 1)
    · rw [if_pos q2] at h; omega
    · rw [if_neg q2] at h
      by_cases q3 : 160 < (gr : Int) + (pb rd - 126)
      · rw [if_pos q3] at h; omega
      · omega
theorem wrZ_b (pb : Nat → Int) (n rd gr : Nat) : 0 ≤ wrZ pb n rd gr ∧ wrZ pb n rd gr ≤ 4 := by
  unfold wrZ
  (repeat' split) <;> omega
/-! the reference's stub -/
def refL (p : Nat) : Int64 := if p < 8 then 7229583154687971857 else if p < 16 then 4707461730014544449 else if p < 24 then -7835346056596130266 else 140832314364288
def refR (p : Nat) : Int64 := if p < 8 then 144425465120096256 else if p < 16 then 72482057149677825 else if p < 24 then 360007599053472770 else 36
theorem refL_e : ∀ p : Nat, p < 30 → byteZ (refL p) (p % 8) = stubZ (2 * p) := by decide +kernel
theorem refR_e : ∀ p : Nat, p < 30 → p ≠ 0 → p ≠ 1 → p ≠ 29 → byteZ (refR p) (p % 8) = stubZ (2 * p + 1) := by decide +kernel
theorem refN_e : ∀ p : Nat, p < 30 → p ≠ 29 → (zand (zshr 25172016 (p : Int)) 1 = 1 ↔ 128 ≤ stubZ (2 * p)) := by decide +kernel
theorem refN_b (a b : Int) : rg (zand a b) := iZ_rng _
theorem stub2 {mem f : Nat → Int} {stub k : Nat} {start org ent : Int} (h : ∀ j, f j = if stub ≤ j ∧ j < stub + 2 * k then stubV stub start org ent (j - stub) else mem j) {a b : Int} (ha : a = stubV stub start org ent (2 * k)) (hb : b = stubV stub start org ent (2 * k + 1)) :
    ∀ j, upZ (upZ f (stub + 2 * k) a) (stub + 2 * k + 1) b j = if stub ≤ j ∧ j < stub + 2 * (k + 1) then stubV stub start org ent (j - stub) else mem j := by
  intro j
  unfold upZ
  by_cases h1 : j = stub + 2 * k + 1
  · rw [if_pos h1, if_pos (by omega), show j - stub = 2 * k + 1 by omega, hb]
  · rw [if_neg h1]
    by_cases h2 : j = stub + 2 * k
    · rw [if_pos h2, if_pos (by omega), show j - stub = 2 * k by omega, ha]
    · rw [if_neg h2, h j]
      by_cases h3 : stub ≤ j ∧ j < stub + 2 * k
      · rw [if_pos h3, if_pos (by omega)]
      · rw [if_neg h3, if_neg (by omega)]
theorem stubV_even (stub : Nat) (start org ent : Int) (k : Nat) (hk : k < 30) : stubV stub start org ent (2 * k) = stubZ (2 * k) := by
  unfold stubV stubS
  rw [if_neg (by omega), if_neg (by omega), if_neg (by omega), if_pos (by omega)]
theorem stubV_odd (stub : Nat) (start org ent : Int) (p : Nat) : stubV stub start org ent (2 * p + 1) = if p = 0 then start else if p = 1 then org else if p = 29 then ent else (stubZ (2 * p + 1) + (if 128 ≤ stubZ (2 * p) then (stub : Int) else 0)) % 256 := by
  unfold stubV stubS
  rw [if_neg (show ¬ (2 * p + 1) % 2 = 0 by omega), Nat.add_sub_cancel]
  by_cases h0 : p = 0
  · rw [if_pos (by omega), if_pos h0]
  · rw [if_neg (by omega), if_neg h0]
    by_cases h1 : p = 1
    · rw [if_pos (by omega), if_pos h1]
    · rw [if_neg (by omega), if_neg h1]
      by_cases h2 : p = 29
      · rw [if_pos (by omega), if_pos h2]
      · rw [if_neg (by omega), if_neg h2]
