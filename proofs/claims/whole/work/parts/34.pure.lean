/-! bytes of a long -/
def lrest (w : Int64) : Nat → Int64
  | 0 => w
  | i + 1 => ((lrest w i).toUInt64 >>> ((iZ 8).toInt64.toUInt64 &&& Int64.toUInt64 63)).toInt64
def byteZ (w : Int64) (i : Nat) : Int := (lrest w i &&& 255).toInt32.toInt
theorem byteZ_e (w : Int64) (i : Nat) : (lrest w i &&& 255).toInt32 = iZ (byteZ w i) := (iZ_of _).symm
theorem lrest_bv (w : Int64) : ∀ i, (lrest w i).toBitVec = w.toBitVec >>> (8 * i) := by
  intro i
  induction i with
  | zero => simp [lrest]
  | succ i ih =>
    have e : (lrest w (i + 1)).toBitVec = (lrest w i).toBitVec >>> 8 := by
      show ((lrest w i).toUInt64 >>> ((iZ 8).toInt64.toUInt64 &&& Int64.toUInt64 63)).toInt64.toBitVec = _
      rw [show ((iZ 8).toInt64.toUInt64 &&& Int64.toUInt64 63) = 8 by decide]
      rfl
    rw [e, ih, ← BitVec.shiftRight_add]
    rfl
theorem low32_bv (x : Int64) : (x &&& 255).toInt32.toBitVec = (x.toBitVec &&& 255#64).setWidth 32 := by
  show (x.toBitVec &&& 255#64).signExtend 32 = (x.toBitVec &&& 255#64).setWidth 32
  generalize x.toBitVec &&& 255#64 = z
  apply BitVec.eq_of_getLsbD_eq
  intro i hi
  rw [BitVec.getLsbD_signExtend, BitVec.getLsbD_setWidth, if_pos (show i < 64 by omega)]
theorem low8_bv (x : Int64) (b : BitVec 64) (h : ∀ j, j < 8 → x.toBitVec.getLsbD j = b.getLsbD j) : (x &&& 255).toInt32.toBitVec = (b &&& 255#64).setWidth 32 := by
  have e : (x &&& 255).toInt32.toBitVec = (x.toBitVec &&& 255#64).setWidth 32 := low32_bv x
  rw [e]
  congr 1
  apply BitVec.eq_of_getLsbD_eq
  intro j hj
  rw [BitVec.getLsbD_and, BitVec.getLsbD_and]
  by_cases h8 : j < 8
  · rw [h j h8]
  · have : (255#64).getLsbD j = false := by
      have key : ∀ j : Nat, j < 64 → 8 ≤ j → (255#64).getLsbD j = false := by decide +kernel
      exact key j hj (by omega)
    rw [this, Bool.and_false, Bool.and_false]
theorem byteZ_m (w : Int64) (i : Nat) (hi : i < 8) (s : Int32) (hs : ((s.toInt64 &&& 63).toBitVec.smod 64).toNat = 8 * i) : ((w >>> (s.toInt64 &&& 63)) &&& 255).toInt32 = iZ (byteZ w i) := by
  rw [← byteZ_e]
  apply Int32.toBitVec_inj.mp
  rw [low8_bv (lrest w i) (lrest w i).toBitVec (fun _ _ => rfl)]
  refine low8_bv _ _ (fun j hj => ?_)
  have e : (w >>> (s.toInt64 &&& 63)).toBitVec = w.toBitVec.sshiftRight (8 * i) := by
    rw [← hs]; rfl
  rw [e, lrest_bv, BitVec.getLsbD_sshiftRight, BitVec.getLsbD_ushiftRight]
  have h1 : ¬ 64 ≤ j := by omega
  have h2 : 8 * i + j < 64 := by omega
  simp [h1, h2]
theorem byteZ_b (w : Int64) (i : Nat) : 0 ≤ byteZ w i ∧ byteZ w i < 256 := by
  have h : (lrest w i &&& 255).toInt32.toBitVec = ((lrest w i).toBitVec &&& 255#64).setWidth 32 := low32_bv _
  have h2 : ((lrest w i).toBitVec &&& 255#64).toNat < 256 := by
    rw [BitVec.toNat_and]
    exact Nat.lt_of_le_of_lt Nat.and_le_right (by decide)
  have h3 : (lrest w i &&& 255).toInt32.toBitVec.toNat < 256 := by
    rw [h, BitVec.toNat_setWidth]
    omega
  have h4 : byteZ w i = ((lrest w i &&& 255).toInt32.toBitVec.toNat : Int) := by
    show (lrest w i &&& 255).toInt32.toBitVec.toInt = _
    rw [BitVec.toInt_eq_toNat_of_lt (by omega)]
  omega
theorem cpZ_up (f g : Nat → Int) (sp dp n j : Nat) : cpZ f g sp dp (n + 1) j = upZ (cpZ f g sp dp n) (dp + n) (f (sp + n)) j := by
  unfold cpZ upZ
  by_cases h : j = dp + n
  · subst h
    rw [if_pos ⟨by omega, by omega⟩, if_pos rfl, Nat.add_sub_cancel_left]
  · rw [if_neg h]
    show (if dp ≤ j ∧ j < dp + (n + 1) then f (sp + (j - dp)) else g j) = if dp ≤ j ∧ j < dp + n then f (sp + (j - dp)) else g j
    by_cases h2 : dp ≤ j ∧ j < dp + n
    · rw [if_pos h2, if_pos ⟨h2.1, by omega⟩]
    · rw [if_neg h2, if_neg (fun q => h2 ⟨q.1, by omega⟩)]
theorem cpZ_0 (f g : Nat → Int) (sp dp : Nat) : cpZ f g sp dp 0 = g := by
  funext j
  unfold cpZ
  rw [if_neg (by omega)]
/-! what is looked at; what is apart -/
def lookZ (regs : Nat → Int) (pl st sp po k : Int) : Int := if k < 8 then regs k.toNat else if k = 8 then pl else if k = 9 then st else if k = 10 then sp else po
def ldZ (pb : Nat → Int) (n org : Nat) (i : Nat) : Int := if org ≤ i ∧ i < org + n then pb (i - org) else 0
def apN (mem ld : Nat → Int) (a b : Int) : Nat → Int
  | 0 => 0
  | i + 1 => apN mem ld a b i + (if ((i : Int) < a ∨ b ≤ i) ∧ mem i ≠ ld i then 1 else 0)
theorem apN_s (mem ld : Nat → Int) (a b : Int) (i : Nat) : apN mem ld a b (i + 1) = apN mem ld a b i + (if ((i : Int) < a ∨ b ≤ i) ∧ mem i ≠ ld i then 1 else 0) := rfl
theorem apN_b (mem ld : Nat → Int) (a b : Int) : ∀ i : Nat, 0 ≤ apN mem ld a b i ∧ apN mem ld a b i ≤ i := by
  intro i
  induction i with
  | zero => exact ⟨Int.le_refl _, Int.le_refl _⟩
  | succ i ih => rw [apN_s]; split <;> omega
theorem mrun_stop {til : Int} {f : Nat} {v : MS} {i : Nat} (h : f = 0 ∨ ¬ (v.2.2.2.2.1 = 0) ∨ v.2.2.2.1 = til) : (i + (mrun til f v).1, (mrun til f v).2) = (i, v) := by
  cases f with
  | zero => rfl
  | succ f =>
    have h2 : ¬ (v.2.2.2.2.1 = 0 ∧ v.2.2.2.1 ≠ til) := fun q => h.elim (fun h => by omega) (fun h => h.elim (fun h => h q.1) (fun h => q.2 h))
    rw [mrun, if_neg h2]
    rfl
theorem mrun_go {til : Int} {f : Nat} {v : MS} (h : v.2.2.2.2.1 = 0 ∧ v.2.2.2.1 ≠ til) : mrun til (f + 1) v = ((mrun til f (mstep v)).1 + 1, (mrun til f (mstep v)).2) := by
  rw [mrun, if_pos h]
theorem upZ_cpZ0 (f : Nat → Int) (j : Nat) (v : Int) : upZ f j v j = v := if_pos rfl
