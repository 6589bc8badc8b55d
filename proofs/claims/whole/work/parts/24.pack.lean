/-! the stream of a program: how far a distance is right, the best token, the least numbers of bytes -/
def alk (pb : Nat → Int) (n : Nat) : Nat → Nat → Nat
  | 0, _ => 0
  | k + 1, d => if d ≤ n - (k + 1) ∧ pb (n - (k + 1)) = pb (n - (k + 1) - d) then alk pb n k d + 1 else 0
/-- how many bytes from i on are as those d before them -/
def al (pb : Nat → Int) (n i d : Nat) : Nat := alk pb n (n - i) d
theorem al_n (pb : Nat → Int) (n d : Nat) : al pb n n d = 0 := by unfold al; rw [Nat.sub_self]; rfl
theorem al_s {pb : Nat → Int} {n i : Nat} (d : Nat) (hi : i < n) : al pb n i d = if d ≤ i ∧ pb i = pb (i - d) then al pb n (i + 1) d + 1 else 0 := by
  unfold al
  obtain ⟨k, hk⟩ : ∃ k, n - i = k + 1 := ⟨n - i - 1, by omega⟩
  rw [hk, alk, show n - (k + 1) = i by omega, show n - (i + 1) = k by omega]
theorem al_le {pb : Nat → Int} {n d : Nat} : ∀ (k i : Nat), i + k = n → al pb n i d ≤ k := by
  intro k
  induction k with
  | zero => intro i h; rw [show i = n by omega, al_n]; exact Nat.le_refl _
  | succ k ih =>
    intro i h
    rw [al_s d (by omega)]
    have := ih (i + 1) (by omega)
    split <;> omega
def ca (pb : Nat → Int) (n i d : Nat) : Nat := min (al pb n i d) 129
/-- the best copy at i out of the distances below D: m bytes from x before, or none (0, 0) -/
def FCp (pb : Nat → Int) (n i D m x : Nat) : Prop :=
  (m = 0 ∧ x = 0 ∧ ∀ d, 1 ≤ d → d < D → ca pb n i d ≤ 1) ∨ (2 ≤ m ∧ 1 ≤ x ∧ x < D ∧ ca pb n i x = m ∧ (∀ d, 1 ≤ d → d < D → ca pb n i d ≤ m) ∧ ∀ d, 1 ≤ d → d < x → ca pb n i d < m)
def FC (pb : Nat → Int) (n i m x : Nat) : Prop := FCp pb n i (i + 1) m x
theorem FCp_1 (pb : Nat → Int) (n i : Nat) : FCp pb n i 1 0 0 := Or.inl ⟨rfl, rfl, fun d h1 h2 => by omega⟩
theorem FCp_up {pb : Nat → Int} {n i D m x : Nat} (hD : 1 ≤ D) (h : FCp pb n i D m x) (h1 : 1 < ca pb n i D) (h2 : m < ca pb n i D) : FCp pb n i (D + 1) (ca pb n i D) D := by
  refine Or.inr ⟨h1, hD, by omega, rfl, fun d e1 e2 => ?_, fun d e1 e2 => ?_⟩
  · by_cases e : d = D
    · subst e; exact Nat.le_refl _
    · rcases h with ⟨-, -, h⟩ | ⟨-, -, -, -, h, -⟩
      · have := h d e1 (by omega); omega
      · have := h d e1 (by omega); omega
  · rcases h with ⟨-, -, h⟩ | ⟨-, -, -, -, h, -⟩
    · have := h d e1 (by omega); omega
    · have := h d e1 (by omega); omega
theorem FCp_keep {pb : Nat → Int} {n i D m x : Nat} (h : FCp pb n i D m x) (h1 : ¬ (1 < ca pb n i D ∧ m < ca pb n i D)) : FCp pb n i (D + 1) m x := by
  rcases h with ⟨e1, e2, h⟩ | ⟨g1, g2, g3, g4, h, g5⟩
  · refine Or.inl ⟨e1, e2, fun d q1 q2 => ?_⟩
    by_cases e : d = D
    · subst e; omega
    · exact h d q1 (by omega)
  · refine Or.inr ⟨g1, g2, by omega, g4, fun d q1 q2 => ?_, g5⟩
    by_cases e : d = D
    · subst e; omega
    · exact h d q1 (by omega)
theorem FC_one {pb : Nat → Int} {n i m x m' x' : Nat} (h : FC pb n i m x) (h' : FC pb n i m' x') : m = m' ∧ x = x' := by
  rcases h with ⟨rfl, rfl, h⟩ | ⟨g1, g2, g3, g4, h, g5⟩ <;> rcases h' with ⟨rfl, rfl, h'⟩ | ⟨k1, k2, k3, k4, h', k5⟩
  · exact ⟨rfl, rfl⟩
  · have := h x' k2 k3; omega
  · have := h' x g2 g3; omega
  · have a1 := h x' k2 k3
    have a2 := h' x g2 g3
    have e : m = m' := by omega
    refine ⟨e, ?_⟩
    rcases Nat.lt_trichotomy x x' with q | q | q
    · have := k5 x g2 q; omega
    · exact q
    · have := g5 x' k2 q; omega
theorem FC_le {pb : Nat → Int} {n i m x : Nat} (hi : i < n) (h : FC pb n i m x) : i + m ≤ n ∧ m ≤ 129 ∧ x ≤ i := by
  rcases h with ⟨rfl, rfl, -⟩ | ⟨-, -, g3, g4, -, -⟩
  · omega
  · have := al_le (pb := pb) (n := n) (d := x) (n - i) i (by omega)
    unfold ca at g4
    omega
/-- the token at i, M bytes, D the distance (0 of a run), c bytes of stream from i on, where C says how many from later places on -/
def PSi (pb : Nat → Int) (n : Nat) (C : Nat → Int) (i : Nat) (M D c : Int) : Prop :=
  ∃ m x : Nat, FC pb n i m x ∧
    ((2 ≤ m ∧ M = m ∧ D = x ∧ c = 2 + C (i + m) ∧ ∀ t : Nat, 1 ≤ t → t ≤ 127 → i + t ≤ n → c ≤ 1 + t + C (i + t)) ∨
    (D = 0 ∧ ∃ r : Nat, M = r ∧ 1 ≤ r ∧ r ≤ 127 ∧ i + r ≤ n ∧ c = 1 + r + C (i + r) ∧ (∀ t : Nat, 1 ≤ t → t ≤ 127 → i + t ≤ n → c ≤ 1 + t + C (i + t)) ∧ (∀ t : Nat, 1 ≤ t → t < r → c < 1 + t + C (i + t)) ∧ (2 ≤ m → c < 2 + C (i + m))))
/-- the tokens from k on -/
def PS (pb : Nat → Int) (n : Nat) (C M D : Nat → Int) (k : Nat) : Prop := C n = 1 ∧ ∀ j, k ≤ j → j < n → PSi pb n C j (M j) (D j) (C j)
theorem PSi_cong {pb : Nat → Int} {n i : Nat} {C C' : Nat → Int} {M D c : Int} (h : ∀ j, i < j → j ≤ n → C j = C' j) (hi : i < n) (hp : PSi pb n C i M D c) : PSi pb n C' i M D c := by
  obtain ⟨m, x, hf, hp⟩ := hp
  have hm := FC_le hi hf
  refine ⟨m, x, hf, ?_⟩
  rcases hp with ⟨h1, h2, h3, h4, h5⟩ | ⟨h1, r, h2, h3, h4, h5, h6, h7, h8, h9⟩
  · refine Or.inl ⟨h1, h2, h3, by rw [h4, h _ (by omega) (by omega)], fun t e1 e2 e3 => ?_⟩
    rw [← h _ (by omega) e3]; exact h5 t e1 e2 e3
  · refine Or.inr ⟨h1, r, h2, h3, h4, h5, by rw [h6, h _ (by omega) (by omega)], fun t e1 e2 e3 => ?_, fun t e1 e2 => ?_, fun e => ?_⟩
    · rw [← h _ (by omega) e3]; exact h7 t e1 e2 e3
    · rw [← h _ (by omega) (by omega)]; exact h8 t e1 e2
    · rw [← h _ (by omega) (by omega)]; exact h9 e
theorem PSi_le {pb : Nat → Int} {n i : Nat} {C : Nat → Int} {M D c : Int} (hi : i < n) (h : PSi pb n C i M D c) : ∀ t : Nat, 1 ≤ t → t ≤ 127 → i + t ≤ n → c ≤ 1 + t + C (i + t) := by
  obtain ⟨m, x, hf, ⟨-, -, -, -, h5⟩ | ⟨-, r, -, -, -, -, -, h7, -, -⟩⟩ := h
  · exact h5
  · exact h7
theorem PSi_cp {pb : Nat → Int} {n i m x : Nat} {C : Nat → Int} {M D c : Int} (h : PSi pb n C i M D c) (hf : FC pb n i m x) (hm : 2 ≤ m) : c ≤ 2 + C (i + m) := by
  obtain ⟨m', x', hf', hp⟩ := h
  obtain ⟨rfl, rfl⟩ := FC_one hf hf'
  rcases hp with ⟨h1, h2, h3, h4, h5⟩ | ⟨h1, r, h2, h3, h4, h5, h6, h7, h8, h9⟩
  · omega
  · have := h9 hm; omega
theorem PSi_r {pb : Nat → Int} {n i : Nat} {C : Nat → Int} {M D c : Int} (hi : i < n) (h : PSi pb n C i M D c) : 1 ≤ M ∧ (i : Int) + M ≤ n ∧ M ≤ 129 ∧ 0 ≤ D ∧ D ≤ i ∧ (D = 0 → M ≤ 127 ∧ c = 1 + M + C (i + M.toNat)) ∧ (D ≠ 0 → 2 ≤ M ∧ c = 2 + C (i + M.toNat)) := by
  obtain ⟨m, x, hf, hp⟩ := h
  have hm := FC_le hi hf
  rcases hp with ⟨h1, rfl, rfl, h4, h5⟩ | ⟨rfl, r, rfl, h3, h4, h5, h6, h7, h8, h9⟩
  · have hx : 1 ≤ x := by
      rcases hf with ⟨e1, e2, -⟩ | ⟨-, q, -⟩
      · omega
      · exact q
    refine ⟨by omega, by omega, by omega, by omega, by omega, fun e => by omega, fun _ => ⟨by omega, h4⟩⟩
  · exact ⟨by omega, by omega, by omega, by omega, by omega, fun _ => ⟨by omega, h6⟩, fun e => absurd rfl e⟩
/-- what lies later costs no more -/
theorem PS_mono {pb : Nat → Int} {n : Nat} {C M D : Nat → Int} {k : Nat} (h : PS pb n C M D k) : ∀ (q j : Nat), j + q = n → k ≤ j → ∀ a b, j ≤ a → a ≤ b → b ≤ n → 1 ≤ C b ∧ C b ≤ C a := by
  intro q
  induction q with
  | zero =>
    intro j hj hk a b h1 h2 h3
    have e : a = n := by omega
    have e2 : b = n := by omega
    subst e; subst e2
    exact ⟨by rw [h.1]; decide, Int.le_refl _⟩
  | succ q ih =>
    intro j hj hk
    have i2 := ih (j + 1) (by omega) (by omega)
    have hp := h.2 j hk (by omega)
    have key : C (j + 1) ≤ C j := by
      obtain ⟨m, x, hf, hp⟩ := hp
      have hm := FC_le (by omega) hf
      rcases hp with ⟨h1, h2, h3, h4, h5⟩ | ⟨h1, r, h2, h3, h4, h5, h6, h7, h8, h9⟩
      · by_cases hjn : j + 1 = n
        · have e1 := (i2 (j + 1) (j + m) (by omega) (by omega) (by omega)).1
          have e2 := h.1
          rw [← hjn] at e2
          omega
        · have hp1 := h.2 (j + 1) (by omega) (by omega)
          by_cases hm3 : m = 2
          · have e2 := PSi_le (by omega) hp1 1 (by omega) (by omega) (by omega)
            rw [hm3] at h4
            have e3 : C (j + 1 + 1) = C (j + 2) := rfl
            omega
          · obtain ⟨m1, x1, hf1, -⟩ := id hp1
            have hx : x ≤ j + 1 ∧ 1 ≤ x ∧ ca pb n j x = m := by
              rcases hf with ⟨e1, e2, -⟩ | ⟨-, q1, q2, q3, -⟩
              · omega
              · exact ⟨by omega, q1, q3⟩
            have hca : m - 1 ≤ ca pb n (j + 1) x := by
              have e2 := al_s (pb := pb) (n := n) (i := j) x (by omega)
              unfold ca at hx ⊢
              split at e2 <;> omega
            have hm1 : m - 1 ≤ m1 := by
              rcases hf1 with ⟨e1, e2, e3⟩ | ⟨-, -, -, -, e3, -⟩
              · have := e3 x hx.2.1 (by omega); omega
              · have := e3 x hx.2.1 (by omega); omega
            have e4 := PSi_cp hp1 hf1 (by omega)
            have hm1' := FC_le (by omega) hf1
            have e5 := (i2 (j + m) (j + 1 + m1) (by omega) (by omega) (by omega)).2
            omega
      · by_cases hr1 : r = 1
        · subst hr1
          omega
        · by_cases hjn : j + 1 = n
          · omega
          · have hp1 := h.2 (j + 1) (by omega) (by omega)
            have e2 := PSi_le (by omega) hp1 (r - 1) (by omega) (by omega) (by omega)
            rw [show j + 1 + (r - 1) = j + r by omega] at e2
            omega
    intro a b h1 h2 h3
    by_cases e : a = j
    · subst e
      by_cases e2 : b = a
      · subst e2
        have := i2 (b + 1) (b + 1) (by omega) (by omega) (by omega)
        exact ⟨by omega, Int.le_refl _⟩
      · have e3 := i2 (a + 1) b (by omega) (by omega) h3
        exact ⟨e3.1, by omega⟩
    · exact i2 a b (by omega) h2 h3
theorem PS_mo {pb : Nat → Int} {n : Nat} {C M D : Nat → Int} {k : Nat} (h : PS pb n C M D k) {a b : Nat} (h1 : k ≤ a) (h2 : a ≤ b) (h3 : b ≤ n) : 1 ≤ C b ∧ C b ≤ C a := PS_mono h (n - a) a (by omega) h1 a b (Nat.le_refl _) h2 h3
theorem PS_up {pb : Nat → Int} {n : Nat} {C M D : Nat → Int} {k : Nat} (h : PS pb n C M D k) : ∀ (q j : Nat), j + q = n → k ≤ j → C j ≤ 2 * (q : Int) + 1 := by
  intro q
  induction q with
  | zero =>
    intro j hj hk
    have e : j = n := by omega
    subst e
    rw [h.1]; omega
  | succ q ih =>
    intro j hj hk
    have e1 := ih (j + 1) (by omega) (by omega)
    have e2 := PSi_le (by omega) (h.2 j hk (by omega)) 1 (by omega) (by omega) (by omega)
    omega
/-- at most 163 bytes, where there are at most 160 -/
theorem PS_163 {pb : Nat → Int} {n : Nat} {C M D : Nat → Int} (hn : n ≤ 160) (h : PS pb n C M D 0) : C 0 ≤ 163 ∧ (n = 0 → C 0 = 1) := by
  have key : ∀ j, j < n → n - j ≤ 127 → C j ≤ (n - j : Nat) + 2 := by
    intro j h1 h2
    have e := PSi_le h1 (h.2 j (by omega) h1) (n - j) (by omega) h2 (by omega)
    rw [show j + (n - j) = n by omega, h.1] at e
    omega
  refine ⟨?_, fun e => by subst e; exact h.1⟩
  by_cases h0 : n = 0
  · subst h0; rw [h.1]; decide
  · by_cases h1 : n ≤ 127
    · have := key 0 (by omega) (by omega); omega
    · have e := PSi_le (i := 0) (by omega) (h.2 0 (by omega) (by omega)) 127 (by omega) (by omega) (by omega)
      by_cases h2 : n = 127
      · omega
      · have := key (0 + 127) (by omega) (by omega); omega
/-- the numbers and tokens are one -/
theorem PS_one {pb : Nat → Int} {n : Nat} {C M D C' M' D' : Nat → Int} (h : PS pb n C M D 0) (h' : PS pb n C' M' D' 0) : ∀ (q j : Nat), j + q = n → C j = C' j ∧ (j < n → M j = M' j ∧ D j = D' j) := by
  intro q
  induction q using Nat.strongRecOn with
  | ind q ih =>
    intro j hj
    by_cases hjn : j = n
    · subst hjn
      exact ⟨by rw [h.1, h'.1], fun e => absurd e (Nat.lt_irrefl _)⟩
    · have hC : ∀ i, j < i → i ≤ n → C i = C' i := fun i h1 h2 => (ih (n - i) (by omega) i (by omega)).1
      have p := h.2 j (by omega) (by omega)
      have p' := PSi_cong (fun i h1 h2 => (hC i h1 h2).symm) (by omega) (h'.2 j (by omega) (by omega))
      obtain ⟨m, x, hf, hp⟩ := p
      obtain ⟨m', x', hf', hp'⟩ := p'
      obtain ⟨rfl, rfl⟩ := FC_one hf hf'
      rcases hp with ⟨h1, h2, h3, h4, h5⟩ | ⟨h1, r, h2, h3, h4, h5, h6, h7, h8, h9⟩ <;> rcases hp' with ⟨k1, k2, k3, k4, k5⟩ | ⟨k1, r', k2, k3, k4, k5, k6, k7, k8, k9⟩
      · exact ⟨by omega, fun _ => ⟨by omega, by omega⟩⟩
      · have a1 := k9 h1
        have a2 := h5 r' k3 k4 k5
        omega
      · have a1 := h9 k1
        have a2 := k5 r h3 h4 h5
        omega
      · have e : r = r' := by
          rcases Nat.lt_trichotomy r r' with q | q | q
          · have a1 := k8 r h3 q
            have a2 := h7 r' k3 k4 k5
            omega
          · exact q
          · have a1 := h8 r' k3 q
            have a2 := k7 r h3 h4 h5
            omega
        subst e
        exact ⟨by omega, fun _ => ⟨by omega, by omega⟩⟩
/-! the stream is written -/
/-- from the place gr of the program on, rd bytes being written: how many are written, the row, the gap -/
def wst (pb M D : Nat → Int) (n : Nat) (c : Int) : Nat → Nat → Nat → (Nat → Int) → Int → Nat × (Nat → Int) × Int
  | 0, _, rd, row, gp => (rd, row, gp)
  | f + 1, gr, rd, row, gp =>
    if gr < n then
      if 0 < D gr then wst pb M D n c f (gr + (M gr).toNat) (rd + 2) (upZ (upZ row rd (M gr + 126)) (rd + 1) (D gr)) (max gp ((gr : Int) + M gr - n + c - ((rd : Int) + 2)))
      else wst pb M D n c f (gr + (M gr).toNat) (rd + 1 + (M gr).toNat) (cpZ pb (upZ row rd (M gr)) gr (rd + 1) (M gr).toNat) (max gp ((gr : Int) + M gr - n + c - ((rd : Int) + 1 + M gr)))
    else (rd, row, gp)
theorem wst_c {pb M D : Nat → Int} {n : Nat} {c : Int} {f gr rd : Nat} {row : Nat → Int} {gp : Int} (h1 : gr < n) (h2 : 0 < D gr) : wst pb M D n c (f + 1) gr rd row gp = wst pb M D n c f (gr + (M gr).toNat) (rd + 2) (upZ (upZ row rd (M gr + 126)) (rd + 1) (D gr)) (max gp ((gr : Int) + M gr - n + c - ((rd : Int) + 2))) := by rw [wst, if_pos h1, if_pos h2]
theorem wst_r {pb M D : Nat → Int} {n : Nat} {c : Int} {f gr rd : Nat} {row : Nat → Int} {gp : Int} (h1 : gr < n) (h2 : ¬ 0 < D gr) : wst pb M D n c (f + 1) gr rd row gp = wst pb M D n c f (gr + (M gr).toNat) (rd + 1 + (M gr).toNat) (cpZ pb (upZ row rd (M gr)) gr (rd + 1) (M gr).toNat) (max gp ((gr : Int) + M gr - n + c - ((rd : Int) + 1 + M gr))) := by rw [wst, if_pos h1, if_neg h2]
theorem wst_e {pb M D : Nat → Int} {n : Nat} {c : Int} {f gr rd : Nat} {row : Nat → Int} {gp : Int} (h1 : ¬ gr < n) : wst pb M D n c f gr rd row gp = (rd, row, gp) := by
  cases f with
  | zero => rfl
  | succ f => rw [wst, if_neg h1]
/-- what holds of what is written -/
theorem wst_b {pb C M D : Nat → Int} {n : Nat} (hn : n ≤ 160) (hb : BB pb 160) (h : PS pb n C M D 0) (hc : C 0 ≤ 163) : ∀ (f gr rd : Nat) (row : Nat → Int) (gp : Int), n ≤ f + gr → gr ≤ n → (rd : Int) + C gr = C 0 → 0 ≤ gp ∧ gp ≤ 200 → (∀ j, j < rd → 0 ≤ row j ∧ row j < 256) →
    ((wst pb M D n (C 0) f gr rd row gp).1 : Int) + 1 = C 0 ∧ (gp ≤ (wst pb M D n (C 0) f gr rd row gp).2.2 ∧ (wst pb M D n (C 0) f gr rd row gp).2.2 ≤ 200) ∧ ∀ j, j < (wst pb M D n (C 0) f gr rd row gp).1 → 0 ≤ (wst pb M D n (C 0) f gr rd row gp).2.1 j ∧ (wst pb M D n (C 0) f gr rd row gp).2.1 j < 256 := by
  intro f
  induction f with
  | zero =>
    intro gr rd row gp h1 h2 h3 h4 h5
    have e : gr = n := by omega
    subst e
    rw [h.1] at h3
    exact ⟨h3, ⟨Int.le_refl _, h4.2⟩, h5⟩
  | succ f ih =>
    intro gr rd row gp h1 h2 h3 h4 h5
    by_cases hg : gr < n
    · obtain ⟨r1, r2, r3, r4, r5, r6, r7⟩ := PSi_r hg (h.2 gr (by omega) hg)
      by_cases hd : 0 < D gr
      · rw [wst_c hg hd]
        have e7 := r7 (by omega)
        obtain ⟨a1, a2, a3⟩ := ih (gr + (M gr).toNat) (rd + 2) (upZ (upZ row rd (M gr + 126)) (rd + 1) (D gr)) (max gp ((gr : Int) + M gr - n + C 0 - ((rd : Int) + 2))) (by omega) (by omega) (by omega) (by omega) (fun j hj => by
          unfold upZ
          by_cases q1 : j = rd + 1
          · rw [if_pos q1]; omega
          · rw [if_neg q1]
            by_cases q2 : j = rd
            · rw [if_pos q2]; omega
            · rw [if_neg q2]; exact h5 j (by omega))
        exact ⟨a1, ⟨by omega, a2.2⟩, a3⟩
      · rw [wst_r hg hd]
        have e6 := r6 (by omega)
        obtain ⟨a1, a2, a3⟩ := ih (gr + (M gr).toNat) (rd + 1 + (M gr).toNat) (cpZ pb (upZ row rd (M gr)) gr (rd + 1) (M gr).toNat) (max gp ((gr : Int) + M gr - n + C 0 - ((rd : Int) + 1 + M gr))) (by omega) (by omega) (by omega) (by omega) (fun j hj => by
          unfold cpZ
          by_cases q1 : rd + 1 ≤ j ∧ j < rd + 1 + (M gr).toNat
          · rw [if_pos q1]; exact hb _ (by omega)
          · rw [if_neg q1]
            unfold upZ
            by_cases q2 : j = rd
            · rw [if_pos q2]; omega
            · rw [if_neg q2]; exact h5 j (by omega))
        exact ⟨a1, ⟨by omega, a2.2⟩, a3⟩
    · rw [wst_e hg]
      have e : gr = n := by omega
      subst e
      rw [h.1] at h3
      exact ⟨h3, ⟨Int.le_refl _, h4.2⟩, h5⟩
theorem wst_ag {pb M D M' D' : Nat → Int} {n : Nat} {c : Int} (hM : ∀ j, j < n → M j = M' j) (hD : ∀ j, j < n → D j = D' j) (hp : ∀ j, j < n → 0 ≤ M j) : ∀ (f gr rd : Nat) (row row' : Nat → Int) (gp : Int), ag row row' rd →
    (wst pb M D n c f gr rd row gp).1 = (wst pb M' D' n c f gr rd row' gp).1 ∧ (wst pb M D n c f gr rd row gp).2.2 = (wst pb M' D' n c f gr rd row' gp).2.2 ∧ ag (wst pb M D n c f gr rd row gp).2.1 (wst pb M' D' n c f gr rd row' gp).2.1 (wst pb M D n c f gr rd row gp).1 := by
  intro f
  induction f with
  | zero => intro gr rd row row' gp h; exact ⟨rfl, rfl, h⟩
  | succ f ih =>
    intro gr rd row row' gp h
    by_cases hg : gr < n
    · by_cases hd : 0 < D gr
      · rw [wst_c hg hd, wst_c hg (by rw [← hD gr hg]; exact hd), ← hM gr hg, ← hD gr hg]
        refine ih _ _ _ _ _ (fun j hj => ?_)
        unfold upZ
        by_cases q1 : j = rd + 1
        · rw [if_pos q1, if_pos q1]
        · rw [if_neg q1, if_neg q1]
          by_cases q2 : j = rd
          · rw [if_pos q2, if_pos q2]
          · rw [if_neg q2, if_neg q2]; exact h j (by omega)
      · rw [wst_r hg hd, wst_r hg (by rw [← hD gr hg]; exact hd), ← hM gr hg]
        have hm := hp gr hg
        refine ih _ _ _ _ _ (fun j hj => ?_)
        unfold cpZ
        by_cases q1 : rd + 1 ≤ j ∧ j < rd + 1 + (M gr).toNat
        · rw [if_pos q1, if_pos q1]
        · rw [if_neg q1, if_neg q1]
          unfold upZ
          by_cases q2 : j = rd
          · rw [if_pos q2, if_pos q2]
          · rw [if_neg q2, if_neg q2]; exact h j (by omega)
    · rw [wst_e hg, wst_e hg]
      exact ⟨rfl, rfl, h⟩
/-- what is kept of a packed program is right: how many bytes, the gap, the stream -/
def Fresh (pb : Nat → Int) (n : Nat) (ln gp : Int) (strm : Nat → Int) : Prop :=
  ∃ (C M D row : Nat → Int), PS pb n C M D 0 ∧ ln = C 0 ∧ gp = (wst pb M D n (C 0) n 0 0 row (max 0 (C 0 - n))).2.2 ∧ ∀ j : Nat, (j : Int) < ln → strm j = upZ (wst pb M D n (C 0) n 0 0 row (max 0 (C 0 - n))).2.1 (wst pb M D n (C 0) n 0 0 row (max 0 (C 0 - n))).1 0 j
theorem Fresh_b {pb : Nat → Int} {n : Nat} {ln gp : Int} {strm : Nat → Int} (hn : n ≤ 160) (hb : BB pb 160) (h : Fresh pb n ln gp strm) : (1 ≤ ln ∧ ln ≤ 163) ∧ (0 ≤ gp ∧ ln - n ≤ gp ∧ gp ≤ 200) ∧ ∀ j : Nat, (j : Int) < ln → 0 ≤ strm j ∧ strm j < 256 := by
  obtain ⟨C, M, D, row, h1, h2, h3, h4⟩ := h
  have hc := (PS_163 hn h1).1
  have hc1 := (PS_mo h1 (a := 0) (b := 0) (Nat.le_refl _) (Nat.le_refl _) (Nat.zero_le _)).1
  obtain ⟨a1, a2, a3⟩ := wst_b hn hb h1 hc n 0 0 row (max 0 (C 0 - n)) (by omega) (by omega) (by omega) (by omega) (fun j hj => absurd hj (Nat.not_lt_zero j))
  refine ⟨by omega, by omega, fun j hj => ?_⟩
  rw [h4 j hj]
  unfold upZ
  by_cases e : j = (wst pb M D n (C 0) n 0 0 row (max 0 (C 0 - n))).1
  · rw [if_pos e]; omega
  · rw [if_neg e]; exact a3 j (by omega)
theorem Fresh_one {pb : Nat → Int} {n : Nat} {ln gp ln' gp' : Int} {strm strm' : Nat → Int} (hn : n ≤ 160) (hb : BB pb 160) (h : Fresh pb n ln gp strm) (h' : Fresh pb n ln' gp' strm') : ln = ln' ∧ gp = gp' ∧ ∀ j : Nat, (j : Int) < ln → strm j = strm' j := by
  obtain ⟨C, M, D, row, h1, h2, h3, h4⟩ := h
  obtain ⟨C', M', D', row', k1, k2, k3, k4⟩ := h'
  have e0 := PS_one h1 k1
  have eC : C 0 = C' 0 := (e0 n 0 (by omega)).1
  have eM : ∀ j, j < n → M j = M' j := fun j hj => ((e0 (n - j) j (by omega)).2 hj).1
  have eD : ∀ j, j < n → D j = D' j := fun j hj => ((e0 (n - j) j (by omega)).2 hj).2
  have hp : ∀ j, j < n → 0 ≤ M j := fun j hj => by
    have := (PSi_r hj (h1.2 j (by omega) hj)).1
    omega
  obtain ⟨w1, w2, w3⟩ := wst_ag (c := C 0) (pb := pb) eM eD hp n 0 0 row row' (max 0 (C 0 - n)) (fun j hj => absurd hj (Nat.not_lt_zero j))
  have hc := (PS_163 hn h1).1
  obtain ⟨a1, -, -⟩ := wst_b hn hb h1 hc n 0 0 row (max 0 (C 0 - n)) (by omega) (by omega) (by omega) (by omega) (fun j hj => absurd hj (Nat.not_lt_zero j))
  rw [← eC] at k2 k3 k4
  refine ⟨by omega, by rw [h3, k3, w2], fun j hj => ?_⟩
  rw [h4 j hj, k4 j (by omega), ← w1]
  unfold upZ
  by_cases e : j = (wst pb M D n (C 0) n 0 0 row (max 0 (C 0 - n))).1
  · rw [if_pos e, if_pos e]
  · rw [if_neg e, if_neg e]; exact w3 j (by omega)
theorem upZ_u (g : Nat → Int) (k : Nat) (v w : Int) : upZ (upZ g k v) k w = upZ g k w := by
  funext j
  unfold upZ
  by_cases e : j = k
  · rw [if_pos e, if_pos e]
  · rw [if_neg e, if_neg e, if_neg e]
theorem upZ_same {g : Nat → Int} {k : Nat} {v : Int} (h : g k = v) : upZ g k v = g := by
  funext j
  unfold upZ
  by_cases e : j = k
  · rw [if_pos e, e, h]
  · rw [if_neg e]
theorem PS_add {pb : Nat → Int} {n i : Nat} {C M D : Nat → Int} {Mi Di c : Int} (h : PS pb n C M D (i + 1)) (hi : i < n) (hp : PSi pb n C i Mi Di c) : PS pb n (upZ C i c) (upZ M i Mi) (upZ D i Di) i := by
  refine ⟨by rw [upZ_n _ _ (by omega)]; exact h.1, fun j h1 h2 => ?_⟩
  by_cases e : j = i
  · subst e
    rw [upZ_s, upZ_s, upZ_s]
    exact PSi_cong (fun a h3 h4 => by rw [upZ_n _ _ (by omega)]) hi hp
  · rw [upZ_n _ _ e, upZ_n _ _ e, upZ_n _ _ e]
    exact PSi_cong (fun a h3 h4 => by rw [upZ_n _ _ (by omega)]) h2 (h.2 j (by omega) h2)
/-- runs of fewer than t bytes looked at: r bytes the best so far (0: none), b its number; b0 the copy's -/
def CTi (C : Nat → Int) (i t r : Nat) (b b0 : Int) : Prop :=
  (r = 0 ∧ b = b0 ∧ ∀ q : Nat, 1 ≤ q → q < t → b0 ≤ 1 + q + C (i + q)) ∨ (1 ≤ r ∧ r < t ∧ b = 1 + r + C (i + r) ∧ b < b0 ∧ (∀ q : Nat, 1 ≤ q → q < t → b ≤ 1 + q + C (i + q)) ∧ ∀ q : Nat, 1 ≤ q → q < r → b < 1 + q + C (i + q))
theorem CTi_0 (C : Nat → Int) (i : Nat) (b0 : Int) : CTi C i 1 0 b0 b0 := Or.inl ⟨rfl, rfl, fun q h1 h2 => by omega⟩
theorem CTi_keep {C : Nat → Int} {i t r : Nat} {b b0 : Int} (h : CTi C i t r b b0) (h1 : b ≤ 1 + t + C (i + t)) : CTi C i (t + 1) r b b0 := by
  rcases h with ⟨e1, e2, h⟩ | ⟨e1, e2, e3, e4, h, h5⟩
  · refine Or.inl ⟨e1, e2, fun q q1 q2 => ?_⟩
    by_cases e : q = t
    · subst e; omega
    · exact h q q1 (by omega)
  · refine Or.inr ⟨e1, by omega, e3, e4, fun q q1 q2 => ?_, h5⟩
    by_cases e : q = t
    · subst e; omega
    · exact h q q1 (by omega)
theorem CTi_up {C : Nat → Int} {i t r : Nat} {b b0 : Int} (ht : 1 ≤ t) (h : CTi C i t r b b0) (h1 : 1 + t + C (i + t) < b) : CTi C i (t + 1) t (1 + t + C (i + t)) b0 := by
  have hb : b ≤ b0 := by
    rcases h with ⟨e1, e2, h⟩ | ⟨e1, e2, e3, e4, h, h5⟩ <;> omega
  have hq : ∀ q : Nat, 1 ≤ q → q < t → b ≤ 1 + q + C (i + q) := by
    rcases h with ⟨e1, e2, h⟩ | ⟨e1, e2, e3, e4, h, h5⟩
    · intro q q1 q2; have := h q q1 q2; omega
    · exact h
  refine Or.inr ⟨ht, by omega, rfl, by omega, fun q q1 q2 => ?_, fun q q1 q2 => ?_⟩
  · by_cases e : q = t
    · subst e; omega
    · have := hq q q1 (by omega); omega
  · have := hq q q1 q2; omega
theorem CTi_end {pb C : Nat → Int} {n i t r m x : Nat} {b b0 : Int} (hi : i < n) (hf : FC pb n i m x) (hb0 : (x = 0 → b0 = 1000) ∧ (0 < x → b0 = 2 + C (i + m))) (hC : C (i + 1) ≤ 400) (ht : ∀ q : Nat, q ≤ 127 → i + q ≤ n → q < t) (h1 : t ≤ 128) (h2 : i + t ≤ n + 1) (h : CTi C i t r b b0) :
    PSi pb n C i (if r = 0 then (m : Int) else r) (if r = 0 then (x : Int) else 0) b := by
  have hm := FC_le hi hf
  have hx : (x = 0 ∧ m = 0) ∨ (1 ≤ x ∧ 2 ≤ m) := by
    rcases hf with ⟨e1, e2, -⟩ | ⟨e1, e2, -⟩
    · exact Or.inl ⟨e2, e1⟩
    · exact Or.inr ⟨e2, e1⟩
  refine ⟨m, x, hf, ?_⟩
  rcases h with ⟨e1, e2, h⟩ | ⟨e1, e2, e3, e4, h, h5⟩
  · rw [if_pos e1, if_pos e1]
    rcases hx with ⟨g1, g2⟩ | ⟨g1, g2⟩
    · have a1 := h 1 (by omega) (ht 1 (by omega) (by omega))
      have a2 := hb0.1 g1
      omega
    · have a2 := hb0.2 (by omega)
      refine Or.inl ⟨g2, rfl, rfl, by omega, fun q q1 q2 q3 => ?_⟩
      have := h q q1 (ht q q2 q3)
      omega
  · rw [if_neg (by omega), if_neg (by omega)]
    refine Or.inr ⟨rfl, r, rfl, e1, by omega, by omega, e3, fun q q1 q2 q3 => h q q1 (ht q q2 q3), h5, fun g => ?_⟩
    rcases hx with ⟨g1, g2⟩ | ⟨g1, g2⟩
    · omega
    · have a2 := hb0.2 (by omega)
      omega
theorem FCp_129 {pb : Nat → Int} {n i D m x : Nat} (h : FCp pb n i D m x) : m ≤ 129 := by
  rcases h with ⟨e1, -, -⟩ | ⟨-, -, -, e4, -, -⟩
  · omega
  · unfold ca at e4; omega
