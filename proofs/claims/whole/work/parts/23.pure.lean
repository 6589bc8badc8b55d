/-! the stub -/
theorem stubZ_b (k : Nat) : 0 ≤ stubZ k ∧ stubZ k < 256 := by
  have h : ∀ k, k < 60 → 0 ≤ stubZ k ∧ stubZ k < 256 := by decide +kernel
  by_cases hk : k < 60
  · exact h k hk
  · have e : stubZ k = 0 := by
      unfold stubZ
      rw [List.getD_eq_getElem?_getD, List.getElem?_eq_none (by show 60 ≤ k; omega)]
      rfl
    omega
/-- the stub's bytes for a stub that lies at the address stub, but three of them -/
def stubS (stub : Nat) (b : Nat) : Int := if b % 2 = 0 then stubZ b else (stubZ b + (if 128 ≤ stubZ (b - 1) then (stub : Int) else 0)) % 256
def stubV (stub : Nat) (start org ent : Int) (b : Nat) : Int := if b = 1 then start else if b = 3 then org else if b = 59 then ent else stubS stub b
def stubRow (mem : Nat → Int) (stub : Nat) (start org ent : Int) : Nat → Int := fun j => if stub ≤ j ∧ j < stub + 60 then stubV stub start org ent (j - stub) else mem j
theorem stub_step {mem f : Nat → Int} {stub i : Nat} {v : Int} (he : i % 2 = 0) (hv : v = if 128 ≤ stubZ i then (stub : Int) else 0) (h : ∀ j, f j = if stub ≤ j ∧ j < stub + i then stubS stub (j - stub) else mem j) :
    ∀ j, upZ (upZ f (stub + i) (stubZ i)) (stub + i + 1) ((stubZ (i + 1) + v) % 256) j = if stub ≤ j ∧ j < stub + (i + 2) then stubS stub (j - stub) else mem j := by
  intro j
  unfold upZ
  by_cases h1 : j = stub + i + 1
  · rw [if_pos h1, if_pos (by omega), show j - stub = i + 1 by omega]
    unfold stubS
    rw [if_neg (by omega), Nat.add_sub_cancel, hv]
  · rw [if_neg h1]
    by_cases h2 : j = stub + i
    · rw [if_pos h2, if_pos (by omega), show j - stub = i by omega]
      unfold stubS
      rw [if_pos he]
    · rw [if_neg h2, h j]
      by_cases h3 : stub ≤ j ∧ j < stub + i
      · rw [if_pos h3, if_pos (by omega)]
      · rw [if_neg h3, if_neg (by omega)]
theorem stub_end {mem f : Nat → Int} {stub : Nat} {start org ent : Int} (h : ∀ j, f j = if stub ≤ j ∧ j < stub + 60 then stubS stub (j - stub) else mem j) (j : Nat) :
    stubRow mem stub start org ent j = upZ (upZ (upZ f (stub + 1) start) (stub + 3) org) (stub + 59) ent j := by
  unfold stubRow stubV upZ
  by_cases h0 : stub ≤ j ∧ j < stub + 60
  · rw [if_pos h0]
    by_cases h1 : j = stub + 59
    · rw [if_pos h1, if_neg (by omega), if_neg (by omega), if_pos (by omega)]
    · rw [if_neg h1]
      by_cases h2 : j = stub + 3
      · rw [if_pos h2, if_neg (by omega), if_pos (by omega)]
      · rw [if_neg h2]
        by_cases h3 : j = stub + 1
        · rw [if_pos h3, if_pos (by omega)]
        · rw [if_neg h3, if_neg (by omega), if_neg (by omega), if_neg (by omega), h j, if_pos h0]
  · rw [if_neg h0, if_neg (by omega), if_neg (by omega), if_neg (by omega), h j, if_neg h0]
/-! a stream is unpacked -/
/-- k bytes behind the first g, each the one that stands d before -/
def cpy1 (op : Nat → Int) (g d : Nat) : Nat → (Nat → Int)
  | 0 => op
  | k + 1 => upZ (cpy1 op g d k) (g + k) (cpy1 op g d k (g + k - d))
/-- from the place rd of the stream on, with gr bytes made: what is wrong (0: nothing), how many bytes, and the bytes -/
def unp (pb : Nat → Int) (n : Nat) : Nat → Nat → Nat → (Nat → Int) → Int × Nat × (Nat → Int)
  | 0, _, gr, op => (0, gr, op)
  | f + 1, rd, gr, op =>
    if rd < n ∧ pb rd ≠ 0 then
      if pb rd < 128 then
        if n - rd - 1 < (pb rd).toNat then (1, gr, op) else if 160 - gr < (pb rd).toNat then (4, gr, op) else unp pb n f (rd + 1 + (pb rd).toNat) (gr + (pb rd).toNat) (cpZ pb op (rd + 1) gr (pb rd).toNat)
      else if n ≤ rd + 1 then (1, gr, op) else if pb (rd + 1) = 0 ∨ gr < (pb (rd + 1)).toNat then (3, gr, op) else if 160 - gr < (pb rd).toNat - 126 then (4, gr, op) else unp pb n f (rd + 2) (gr + ((pb rd).toNat - 126)) (cpy1 op gr (pb (rd + 1)).toNat ((pb rd).toNat - 126))
    else if n ≤ rd then (1, gr, op) else if rd < n - 1 then (2, gr, op) else (0, gr, op)
theorem unp_run {pb : Nat → Int} {n f rd gr : Nat} {op : Nat → Int} (h1 : rd < n) (h2 : pb rd ≠ 0) (h3 : pb rd < 128) : unp pb n (f + 1) rd gr op = if n - rd - 1 < (pb rd).toNat then (1, gr, op) else if 160 - gr < (pb rd).toNat then (4, gr, op) else unp pb n f (rd + 1 + (pb rd).toNat) (gr + (pb rd).toNat) (cpZ pb op (rd + 1) gr (pb rd).toNat) := by
  rw [unp, if_pos ⟨h1, h2⟩, if_pos h3]
theorem unp_cpy {pb : Nat → Int} {n f rd gr : Nat} {op : Nat → Int} (h1 : rd < n) (h2 : pb rd ≠ 0) (h3 : ¬ pb rd < 128) : unp pb n (f + 1) rd gr op = if n ≤ rd + 1 then (1, gr, op) else if pb (rd + 1) = 0 ∨ gr < (pb (rd + 1)).toNat then (3, gr, op) else if 160 - gr < (pb rd).toNat - 126 then (4, gr, op) else unp pb n f (rd + 2) (gr + ((pb rd).toNat - 126)) (cpy1 op gr (pb (rd + 1)).toNat ((pb rd).toNat - 126)) := by
  rw [unp, if_pos ⟨h1, h2⟩, if_neg h3]
theorem unp_end {pb : Nat → Int} {n f rd gr : Nat} {op : Nat → Int} (h1 : ¬ (rd < n ∧ pb rd ≠ 0)) : unp pb n (f + 1) rd gr op = if n ≤ rd then (1, gr, op) else if rd < n - 1 then (2, gr, op) else (0, gr, op) := by
  rw [unp, if_neg h1]
def unpX (c : Int) : String := if c = 1 then nNS else if c = 2 then nIS else if c = 3 then nIA else nUO
theorem cpy1_b {op : Nat → Int} {g d : Nat} : ∀ (k : Nat) {N : Nat}, BB op N → g + k ≤ N → BB (cpy1 op g d k) N := by
  intro k
  induction k with
  | zero => intro N h _; exact h
  | succ k ih =>
    intro N h hk
    have h1 := ih h (by omega)
    exact BB_up h1 (h1 _ (by omega))
theorem cpZ_b {f g : Nat → Int} {sp dp n N M : Nat} (hf : BB f N) (hg : BB g M) (h : sp + n ≤ N) : BB (cpZ f g sp dp n) M := by
  intro j hj
  unfold cpZ
  by_cases e : dp ≤ j ∧ j < dp + n
  · rw [if_pos e]; exact hf _ (by omega)
  · rw [if_neg e]; exact hg j hj
theorem unp_b {pb : Nat → Int} {n : Nat} (hn : n ≤ 160) (hb : BB pb 160) : ∀ (f rd gr : Nat) (op : Nat → Int), gr ≤ 160 → BB op 160 → (unp pb n f rd gr op).2.1 ≤ 160 ∧ BB (unp pb n f rd gr op).2.2 160 := by
  intro f
  induction f with
  | zero => intro rd gr op h1 h2; exact ⟨h1, h2⟩
  | succ f ih =>
    intro rd gr op h1 h2
    rw [unp]
    by_cases c1 : rd < n ∧ pb rd ≠ 0
    · rw [if_pos c1]
      by_cases c2 : pb rd < 128
      · rw [if_pos c2]
        by_cases c3 : n - rd - 1 < (pb rd).toNat
        · rw [if_pos c3]; exact ⟨h1, h2⟩
        · rw [if_neg c3]
          by_cases c4 : 160 - gr < (pb rd).toNat
          · rw [if_pos c4]; exact ⟨h1, h2⟩
          · rw [if_neg c4]
            exact ih _ _ _ (by omega) (cpZ_b hb h2 (by omega))
      · rw [if_neg c2]
        by_cases c3 : n ≤ rd + 1
        · rw [if_pos c3]; exact ⟨h1, h2⟩
        · rw [if_neg c3]
          by_cases c4 : pb (rd + 1) = 0 ∨ gr < (pb (rd + 1)).toNat
          · rw [if_pos c4]; exact ⟨h1, h2⟩
          · rw [if_neg c4]
            by_cases c5 : 160 - gr < (pb rd).toNat - 126
            · rw [if_pos c5]; exact ⟨h1, h2⟩
            · rw [if_neg c5]
              exact ih _ _ _ (by omega) (cpy1_b _ h2 (by omega))
    · rw [if_neg c1]
      by_cases c2 : n ≤ rd
      · rw [if_pos c2]; exact ⟨h1, h2⟩
      · rw [if_neg c2]
        by_cases c3 : rd < n - 1
        · rw [if_pos c3]; exact ⟨h1, h2⟩
        · rw [if_neg c3]; exact ⟨h1, h2⟩
/-- rows that agree as far as they are made -/
def ag (f g : Nat → Int) (n : Nat) : Prop := ∀ j, j < n → f j = g j
theorem cpy1_ag {f g : Nat → Int} {n d : Nat} (hd : 0 < d) (hdn : d ≤ n) (h : ag f g n) : ∀ k, ag (cpy1 f n d k) (cpy1 g n d k) (n + k) := by
  intro k
  induction k with
  | zero => exact h
  | succ k ih =>
    intro j hj
    show upZ _ _ _ j = upZ _ _ _ j
    unfold upZ
    by_cases e : j = n + k
    · rw [if_pos e, if_pos e]; exact ih _ (by omega)
    · rw [if_neg e, if_neg e]; exact ih j (by omega)
theorem unp_ag {pb : Nat → Int} {n : Nat} (hb : ∀ j, j < n → 0 ≤ pb j) : ∀ (f rd gr : Nat) (op op' : Nat → Int), ag op op' gr → (unp pb n f rd gr op).1 = (unp pb n f rd gr op').1 ∧ (unp pb n f rd gr op).2.1 = (unp pb n f rd gr op').2.1 ∧ ag (unp pb n f rd gr op).2.2 (unp pb n f rd gr op').2.2 (unp pb n f rd gr op).2.1 := by
  intro f
  induction f with
  | zero => intro rd gr op op' h; exact ⟨rfl, rfl, h⟩
  | succ f ih =>
    intro rd gr op op' h
    rw [unp, unp]
    by_cases c1 : rd < n ∧ pb rd ≠ 0
    · rw [if_pos c1, if_pos c1]
      by_cases c2 : pb rd < 128
      · rw [if_pos c2, if_pos c2]
        by_cases c3 : n - rd - 1 < (pb rd).toNat
        · rw [if_pos c3, if_pos c3]; exact ⟨rfl, rfl, h⟩
        · rw [if_neg c3, if_neg c3]
          by_cases c4 : 160 - gr < (pb rd).toNat
          · rw [if_pos c4, if_pos c4]; exact ⟨rfl, rfl, h⟩
          · rw [if_neg c4, if_neg c4]
            refine ih _ _ _ _ (fun j hj => ?_)
            unfold cpZ
            by_cases e : gr ≤ j ∧ j < gr + (pb rd).toNat
            · rw [if_pos e, if_pos e]
            · rw [if_neg e, if_neg e]; exact h j (by omega)
      · rw [if_neg c2, if_neg c2]
        by_cases c3 : n ≤ rd + 1
        · rw [if_pos c3, if_pos c3]; exact ⟨rfl, rfl, h⟩
        · rw [if_neg c3, if_neg c3]
          by_cases c4 : pb (rd + 1) = 0 ∨ gr < (pb (rd + 1)).toNat
          · rw [if_pos c4, if_pos c4]; exact ⟨rfl, rfl, h⟩
          · rw [if_neg c4, if_neg c4]
            by_cases c5 : 160 - gr < (pb rd).toNat - 126
            · rw [if_pos c5, if_pos c5]; exact ⟨rfl, rfl, h⟩
            · rw [if_neg c5, if_neg c5]
              have c7 := hb (rd + 1) (by omega)
              exact ih _ _ _ _ (cpy1_ag (by omega) (by omega) h _)
    · rw [if_neg c1, if_neg c1]
      by_cases c2 : n ≤ rd
      · rw [if_pos c2, if_pos c2]; exact ⟨rfl, rfl, h⟩
      · rw [if_neg c2, if_neg c2]
        by_cases c3 : rd < n - 1
        · rw [if_pos c3, if_pos c3]; exact ⟨rfl, rfl, h⟩
        · rw [if_neg c3, if_neg c3]; exact ⟨rfl, rfl, h⟩
