abbrev oR (q : Nat) (th n : Int) (pr : Nat) (org ent kn gp ln : Int) (sr le tk di ri op me re : Nat) (pl st sp ou : Int) (ot : Nat) : Nat × va_E := (q, .inr (4, [.int (iZ th), .int (iZ n), .ref pr, .int (iZ org), .int (iZ ent), .int (iZ kn), .int (iZ gp), .int (iZ ln), .ref sr, .ref le, .ref tk, .ref di, .ref ri, .ref op, .ref me, .ref re, .int (iZ pl), .int (iZ st), .int (iZ sp), .int (iZ ou), .ref ot]))
theorem iZ_rem {a : Int} (h0 : 0 ≤ a) (h : a < 2147483648) (d : Nat) (hd0 : 0 < d) (hd : d < 2147483648) : iZ a - iZ a / iZ (d : Int) * iZ (d : Int) = iZ (a % (d : Int)) := by
  obtain ⟨k, rfl⟩ := Int.eq_ofNat_of_zero_le h0
  have e := pk_rem (a := k) (d := d) (by omega) hd0 (by omega)
  rw [← iZ_nI, ← iZ_nI, ← iZ_nI] at e
  rw [e, Int.natCast_emod]
section ZX
variable {p : Program} {l : Launch} {e : Env} {R : Room} {s : State} {m : MethodId} {args : Array Value} {below : List Frame} {meth : Method} {c : Code} {H : Heap} {locs : List Loc} {cells slots : Nat} {Q : State → Prop}
variable {cc : ByteArray} {pc : Nat} {ls : Array Slot} {rest : List Value} {G : va_G} {cI : ClassId} {A : Nat → Prop} {ws : va_W}
theorem z_irem (hx : p.tables.exec = Jvm.exec) (hb : c.code = cc) {a : Int} {d : Int} (z : Int) (hz : 0 ≤ a ∧ a < 2147483648 ∧ 0 < d ∧ d < 2147483648 ∧ z = a % d) (hdg : decode cc pc = .ok (.irem, 1)) (k : W p l e R s m args below meth c H locs cells slots Q (F0 m (pc + 1) ls (.int (iZ z) :: rest))) : W p l e R s m args below meth c H locs cells slots Q (F0 m pc ls (.int (iZ d) :: .int (iZ a) :: rest)) := by
  obtain ⟨h1, h2, h3, h4, rfl⟩ := hz
  obtain ⟨dn, rfl⟩ := Int.eq_ofNat_of_zero_le (show 0 ≤ d by omega)
  refine lv_irem hx hb hdg ?_ ?_
  · intro h
    have := (iZ_inj (b := 0) ⟨by omega, by omega⟩ ⟨by decide, by decide⟩).mp h
    omega
  · rw [iZ_rem h1 h2 dn (by omega) (by omega)]
    exact k
/-- the stub's row is read -/
theorem z_tab {t : Nat} (hx : p.tables.exec = Jvm.exec) (hb : c.code = cc) (hC : zC t A s s.heap) (hp : Hp G cI A s H locs ws) {i : Int} (k : Nat) (hk : i = k ∧ k < 60) (hdg : decode cc pc = .ok (.iaload, 1))
    (kk : W p l e R s m args below meth c H locs cells slots Q (F0 m (pc + 1) ls (.int (iZ (stubZ k)) :: rest))) : W p l e R s m args below meth c H locs cells slots Q (F0 m pc ls (.int (iZ i) :: .ref t :: rest)) :=
  va_ti hx hb hC.2.2.2 hp.2.2.1 (iZ_in hk.1 hk.2 (by omega)) (by rw [iZ_cl hk.1 (by omega)]) hdg kk
end ZX
/-! the machine, in numbers -/
def BB (f : Nat → Int) (n : Nat) : Prop := ∀ j, j < n → 0 ≤ f j ∧ f j < 256
theorem BB_up {f : Nat → Int} {n k : Nat} {v : Int} (h : BB f n) (hv : 0 ≤ v ∧ v < 256) : BB (upZ f k v) n := by
  intro j hj
  unfold upZ
  by_cases e : j = k
  · rw [if_pos e]; exact hv
  · rw [if_neg e]; exact h j hj
def zand (a b : Int) : Int := (iZ a &&& iZ b).toInt
def zshr (a b : Int) : Int := (iZ a >>> (iZ b &&& 31)).toInt
theorem zand_e (a b : Int) : iZ a &&& iZ b = iZ (zand a b) := (iZ_of _).symm
theorem zshr_e (a b : Int) : iZ a >>> (iZ b &&& 31) = iZ (zshr a b) := (iZ_of _).symm
theorem zand_b {a b : Int} (ha : 0 ≤ a ∧ a < 256) (hb : 0 ≤ b ∧ b < 256) : 0 ≤ zand a b ∧ zand a b < 256 := by
  have key : ∀ x : Nat, x < 256 → ∀ y : Nat, y < 256 → (iZ (x : Int) &&& iZ (y : Int)).toInt = ((x &&& y : Nat) : Int) ∧ (x &&& y) < 256 := by
    intro x hx y hy
    have h2 : x &&& y < 256 := Nat.lt_of_le_of_lt Nat.and_le_left hx
    refine ⟨?_, h2⟩
    have e : iZ (x : Int) &&& iZ (y : Int) = iZ ((x &&& y : Nat) : Int) := by
      rw [iZ_nI, iZ_nI, iZ_nI]
      apply Int32.toBitVec_inj.mp
      apply BitVec.eq_of_toNat_eq
      rw [Int32.toBitVec_and, BitVec.toNat_and, pk_tn (by omega), pk_tn (by omega), pk_tn (by omega)]
    rw [e, iZ_toInt (by omega) (by omega)]
  obtain ⟨x, rfl⟩ := Int.eq_ofNat_of_zero_le ha.1
  obtain ⟨y, rfl⟩ := Int.eq_ofNat_of_zero_le hb.1
  obtain ⟨h1, h2⟩ := key x (by omega) y (by omega)
  unfold zand
  rw [h1]
  omega
theorem zshr_k {a : Int} (ha : rg a) : ∀ b : Nat, b < 8 → zshr a b = a / 2 ^ b := by
  intro b hb
  unfold zshr
  have hs : (((iZ (b : Int)) &&& 31).toBitVec.smod 32).toNat = b := by
    rcases (show b = 0 ∨ b = 1 ∨ b = 2 ∨ b = 3 ∨ b = 4 ∨ b = 5 ∨ b = 6 ∨ b = 7 by omega) with h | h | h | h | h | h | h | h <;> subst h <;> decide
  have h1 := pk_shr (iZ a) (iZ (b : Int) &&& 31) b hs
  rw [h1, iZ_toInt ha.1 ha.2, Int.shiftRight_eq_div_pow]
  simp
theorem zshr_4 {a : Int} (ha : rg a) : iZ a >>> (iZ 4 &&& 31) = iZ (a / 16) := by
  rw [zshr_e]
  exact congrArg iZ (zshr_k ha 4 (by decide))
theorem zshr_b {a b : Int} (ha : 0 ≤ a ∧ a < 256) (hb : 0 ≤ b ∧ b < 8) : 0 ≤ zshr a b ∧ zshr a b < 256 := by
  obtain ⟨y, rfl⟩ := Int.eq_ofNat_of_zero_le hb.1
  rw [zshr_k ⟨by omega, by omega⟩ y (by omega)]
  have h2 : (0 : Int) < 2 ^ y := Int.pow_pos (by decide)
  have h3 : (0 : Int) ≤ a / 2 ^ y := Int.ediv_nonneg ha.1 (by omega)
  have h4 : a / 2 ^ y ≤ a := Int.ediv_le_self _ ha.1
  omega
/-- what a step of kind k makes, with r the register's number and y the second byte; pl is the place behind the step -/
def aVal (mem regs : Nat → Int) (k : Int) (r : Nat) (y : Int) : Int :=
  if k = 1 then y else if k = 2 then regs (y % 8).toNat else if k = 3 then (regs r + regs (y % 8).toNat) % 256 else if k = 4 then (regs r + y) % 256 else if k = 5 then mem (regs (y % 8).toNat).toNat else if k = 7 then (regs r - regs (y % 8).toNat) % 256 else if k = 12 then zand (regs r) (regs (y % 8).toNat) else zshr (regs r) (y % 8)
def aMem (mem regs : Nat → Int) (k : Int) (r : Nat) (y : Int) : Nat → Int := if k = 6 then upZ mem (regs (y % 8).toNat).toNat (regs r) else mem
def aRegs (mem regs : Nat → Int) (k : Int) (r : Nat) (y : Int) : Nat → Int := if (1 ≤ k ∧ k ≤ 5) ∨ k = 7 ∨ k = 12 ∨ k = 13 then upZ regs r (aVal mem regs k r y) else regs
def aKept (regs kept : Nat → Int) (k : Int) (r : Nat) (po : Int) : Nat → Int := if k = 14 then upZ kept (po % 32).toNat (regs r) else kept
def aPl (regs : Nat → Int) (k : Int) (r : Nat) (y pl : Int) : Int := if k = 8 then y else if k = 9 then (if regs r = 0 then y else pl) else if k = 10 then (if 127 < regs r then y else pl) else if k = 11 then regs r else pl
def aSt (k st : Int) : Int := if k = 0 then 1 else if k = 15 then 2 else st
def aPo (k po : Int) : Int := if k = 14 then po + 1 else po
theorem aVal_b {mem regs : Nat → Int} {k : Int} {r : Nat} {y : Int} (hm : BB mem 256) (hg : BB regs 8) (hr : r < 8) (hy : 0 ≤ y ∧ y < 256) : 0 ≤ aVal mem regs k r y ∧ aVal mem regs k r y < 256 := by
  have h1 := hg r hr
  have h2 := hg (y % 8).toNat (by omega)
  have h3 := hm (regs (y % 8).toNat).toNat (by omega)
  have h4 := zand_b h1 h2
  have h5 := zshr_b (b := y % 8) h1 (by omega)
  unfold aVal
  repeat' split
  all_goals omega
theorem aMem_b {mem regs : Nat → Int} {k : Int} {r : Nat} {y : Int} (hm : BB mem 256) (hg : BB regs 8) (hr : r < 8) : BB (aMem mem regs k r y) 256 := by
  unfold aMem
  split
  · exact BB_up hm (hg r hr)
  · exact hm
theorem aRegs_b {mem regs : Nat → Int} {k : Int} {r : Nat} {y : Int} (hm : BB mem 256) (hg : BB regs 8) (hr : r < 8) (hy : 0 ≤ y ∧ y < 256) : BB (aRegs mem regs k r y) 8 := by
  unfold aRegs
  split
  · exact BB_up hg (aVal_b hm hg hr hy)
  · exact hg
theorem aKept_b {regs kept : Nat → Int} {k : Int} {r : Nat} {po : Int} (hk : BB kept 32) (hg : BB regs 8) (hr : r < 8) : BB (aKept regs kept k r po) 32 := by
  unfold aKept
  split
  · exact BB_up hk (hg r hr)
  · exact hk
theorem aPl_b {regs : Nat → Int} {k : Int} {r : Nat} {y pl : Int} (hg : BB regs 8) (hr : r < 8) (hy : 0 ≤ y ∧ y < 256) (hp : 0 ≤ pl ∧ pl < 256) : 0 ≤ aPl regs k r y pl ∧ aPl regs k r y pl < 256 := by
  have h1 := hg r hr
  unfold aPl
  repeat' split
  all_goals omega
/-- the machine's numbers: memory, registers, what is kept, place, state, steps, how many were put out -/
abbrev MS : Type := (Nat → Int) × (Nat → Int) × (Nat → Int) × Int × Int × Int × Int
def mx (u : MS) : Int := u.1 u.2.2.2.1.toNat
def my (u : MS) : Int := u.1 ((u.2.2.2.1 + 1) % 256).toNat
def mstep (u : MS) : MS :=
  (aMem u.1 u.2.1 (mx u / 16) (mx u % 8).toNat (my u), aRegs u.1 u.2.1 (mx u / 16) (mx u % 8).toNat (my u), aKept u.2.1 u.2.2.1 (mx u / 16) (mx u % 8).toNat u.2.2.2.2.2.2, aPl u.2.1 (mx u / 16) (mx u % 8).toNat (my u) ((u.2.2.2.1 + 2) % 256), aSt (mx u / 16) u.2.2.2.2.1, u.2.2.2.2.2.1 + 1, aPo (mx u / 16) u.2.2.2.2.2.2)
/-- what is always so of them; b bounds the counters -/
def MB (u : MS) (b : Int) : Prop := BB u.1 256 ∧ BB u.2.1 8 ∧ BB u.2.2.1 32 ∧ (0 ≤ u.2.2.2.1 ∧ u.2.2.2.1 < 256) ∧ (0 ≤ u.2.2.2.2.1 ∧ u.2.2.2.2.1 ≤ 2) ∧ (0 ≤ u.2.2.2.2.2.1 ∧ u.2.2.2.2.2.1 ≤ b) ∧ (0 ≤ u.2.2.2.2.2.2 ∧ u.2.2.2.2.2.2 ≤ b)
theorem mstep_b {u : MS} {b : Int} (h : MB u b) : MB (mstep u) (b + 1) := by
  obtain ⟨mem, regs, kept, pl, st, sp, po⟩ := u
  obtain ⟨h1, h2, h3, h4, h5, h6, h7⟩ := h
  dsimp only at h1 h2 h3 h4 h5 h6 h7
  have hxb : 0 ≤ mem pl.toNat ∧ mem pl.toNat < 256 := h1 _ (by omega)
  have hyb : 0 ≤ mem ((pl + 1) % 256).toNat ∧ mem ((pl + 1) % 256).toNat < 256 := h1 _ (by omega)
  have hr : (mem pl.toNat % 8).toNat < 8 := by omega
  refine ⟨aMem_b h1 h2 hr, aRegs_b h1 h2 hr hyb, aKept_b h3 h2 hr, aPl_b h2 hr hyb (by omega), ?_, ?_, ?_⟩
  · show 0 ≤ aSt _ _ ∧ aSt _ _ ≤ 2
    unfold aSt
    repeat' split
    all_goals omega
  · show 0 ≤ sp + 1 ∧ sp + 1 ≤ b + 1
    omega
  · show 0 ≤ aPo _ po ∧ aPo _ po ≤ b + 1
    unfold aPo
    repeat' split
    all_goals omega
/-- at most n steps, as long as it runs and isn't there: how many, and the machine behind them -/
def mrun (til : Int) : Nat → MS → Nat × MS
  | 0, u => (0, u)
  | n + 1, u => if u.2.2.2.2.1 = 0 ∧ u.2.2.2.1 ≠ til then ((mrun til n (mstep u)).1 + 1, (mrun til n (mstep u)).2) else (0, u)
theorem mrun_le (til : Int) : ∀ (n : Nat) (u : MS), (mrun til n u).1 ≤ n := by
  intro n
  induction n with
  | zero => intro u; exact Nat.le_refl _
  | succ n ih =>
    intro u
    unfold mrun
    split
    · exact Nat.succ_le_succ (ih _)
    · exact Nat.zero_le _
theorem mrun_b (til : Int) : ∀ (n : Nat) (u : MS) (b : Int), MB u b → MB (mrun til n u).2 (b + n) := by
  intro n
  induction n with
  | zero => intro u b h; simpa [mrun] using h
  | succ n ih =>
    intro u b h
    unfold mrun
    split
    · have := ih (mstep u) (b + 1) (mstep_b h)
      have e : b + 1 + (n : Int) = b + ((n + 1 : Nat) : Int) := by omega
      rw [e] at this
      exact this
    · obtain ⟨h1, h2, h3, h4, h5, h6, h7⟩ := h
      exact ⟨h1, h2, h3, h4, h5, ⟨h6.1, Int.le_trans h6.2 (by omega)⟩, ⟨h7.1, Int.le_trans h7.2 (by omega)⟩⟩
def rVal (mem : Nat → Int) (k v q y : Int) : Int := if k = 1 then y else if k = 2 then q else if k = 3 then v + q else if k = 4 then v + y else if k = 5 then mem q.toNat else if k = 7 then v - q else if k = 12 then zand v q else zshr v (y % 8)
def jPl (k v y pl : Int) : Int := if k = 11 then v else if k = 8 ∨ (k = 9 ∧ v = 0) ∨ (k = 10 ∧ 127 < v) then y else pl
theorem rVal_m {mem regs : Nat → Int} {k : Int} {r : Nat} {y : Int} (hk : (1 ≤ k ∧ k ≤ 5) ∨ k = 7 ∨ k = 12 ∨ k = 13) (hm : BB mem 256) (hg : BB regs 8) (hr : r < 8) (hy : 0 ≤ y ∧ y < 256) : rVal mem k (regs r) (regs (y % 8).toNat) y % 256 = aVal mem regs k r y := by
  have h1 := hg r hr
  have h2 := hg (y % 8).toNat (by omega)
  have h3 := hm (regs (y % 8).toNat).toNat (by omega)
  have h4 := zand_b h1 h2
  have h5 := zshr_b (b := y % 8) h1 (by omega)
  unfold rVal aVal
  repeat' split
  all_goals omega
