/-! numbers: an int as the Int that it shows -/
section ZN
def iZ (z : Int) : Int32 := Int32.ofInt z
theorem iZ_toInt {z : Int} (h1 : -2147483648 ≤ z) (h2 : z < 2147483648) : (iZ z).toInt = z := by
  show (Int32.ofInt z).toInt = z
  exact Int32.toInt_ofInt_of_le (by omega) (by omega)
theorem iZ_of (x : Int32) : iZ x.toInt = x := Int32.ofInt_toInt x
theorem iZ_rng (x : Int32) : -2147483648 ≤ x.toInt ∧ x.toInt < 2147483648 := by
  have h1 := Int32.le_toInt x
  have h2 := Int32.toInt_lt x
  omega
theorem iZ_add (a b : Int) : iZ a + iZ b = iZ (a + b) := (Int32.ofInt_add a b).symm
theorem iZ_sub (a b : Int) : iZ a - iZ b = iZ (a - b) := (Int32.ofInt_sub a b).symm
theorem iZ_mul (a b : Int) : iZ a * iZ b = iZ (a * b) := (Int32.ofInt_mul a b).symm
theorem iZ_nI (n : Nat) : iZ (n : Int) = nI n := Int32.ofInt_eq_ofNat
abbrev rg (z : Int) : Prop := -2147483648 ≤ z ∧ z < 2147483648
theorem iZ_inj {a b : Int} (ha : rg a) (hb : rg b) : iZ a = iZ b ↔ a = b := by
  constructor
  · intro h
    rw [← iZ_toInt ha.1 ha.2, ← iZ_toInt hb.1 hb.2, h]
  · intro h
    rw [h]
theorem iZ_le {a b : Int} (ha : rg a) (hb : rg b) : iZ a ≤ iZ b ↔ a ≤ b := by
  rw [Int32.le_iff_toInt_le, iZ_toInt ha.1 ha.2, iZ_toInt hb.1 hb.2]
theorem iZ_lt {a b : Int} (ha : rg a) (hb : rg b) : iZ a < iZ b ↔ a < b := by
  rw [Int32.lt_iff_toInt_lt, iZ_toInt ha.1 ha.2, iZ_toInt hb.1 hb.2]
theorem iZ_cl {z : Int} {k : Nat} (hk : z = k) (h : k < 2147483648) : (iZ z).toNatClampNeg = k := by
  subst hk
  show (iZ (k : Int)).toInt.toNat = k
  rw [iZ_toInt (by omega) (by omega)]
  rfl
theorem iZ_in {z : Int} {k n : Nat} (hk : z = k) (hn : k < n) (h : k < 2147483648) : vp_in (iZ z) n := by
  rw [vp_in_iff, hk, iZ_toInt (by omega) (by omega)]
  omega
theorem iZ_and (z : Int) (k : Nat) {m : Int32} (hk : k ≤ 31) (hm : m.toBitVec.toNat = 2 ^ k - 1) : iZ z &&& m = iZ (z % 2 ^ k) := by
  rw [pk_and _ k hm]
  have e : (iZ z).toBitVec.toNat = (z % 2 ^ 32).toNat := by
    show (BitVec.ofInt 32 z).toNat = _
    rw [BitVec.toNat_ofInt]
    rfl
  rw [e, ← iZ_nI]
  congr 1
  have h2 : (2 : Int) ^ k ∣ 2 ^ 32 := by
    have : (2 : Int) ^ 32 = 2 ^ k * 2 ^ (32 - k) := by rw [← Int.pow_add]; congr 1; omega
    exact ⟨_, this⟩
  have h3 : 0 ≤ z % 2 ^ 32 := Int.emod_nonneg _ (by decide)
  rw [Int.natCast_emod, Int.toNat_of_nonneg h3]
  have h4 : ((2 ^ k : Nat) : Int) = 2 ^ k := by simp
  rw [h4, Int.emod_emod_of_dvd _ h2]
theorem iZ_and255 (z : Int) : iZ z &&& iZ 255 = iZ (z % 256) := iZ_and z 8 (by decide) (by decide)
theorem iZ_and7 (z : Int) : iZ z &&& iZ 7 = iZ (z % 8) := iZ_and z 3 (by decide) (by decide)
theorem iZ_shr {z : Int} (h : rg z) (s : Int32) (k : Nat) (hs : ((s &&& 31).toBitVec.smod 32).toNat = k) : iZ z >>> (s &&& 31) = iZ (z / 2 ^ k) := by
  have h1 := pk_shr (iZ z) (s &&& 31) k hs
  rw [iZ_toInt h.1 h.2, Int.shiftRight_eq_div_pow] at h1
  rw [← iZ_of (iZ z >>> (s &&& 31)), h1]
  congr 1
/-- rows of Ints -/
def upZ (g : Nat → Int) (k : Nat) (v : Int) : Nat → Int := fun j => if j = k then v else g j
theorem upZ_s (g : Nat → Int) (k : Nat) (v : Int) : upZ g k v k = v := if_pos rfl
theorem upZ_n (g : Nat → Int) {k j : Nat} (v : Int) (h : j ≠ k) : upZ g k v j = g j := if_neg h
theorem upZ_at (g : Nat → Int) (k j : Nat) (v : Int) : upZ g k v j = if j = k then v else g j := rfl
def cpZ (f g : Nat → Int) (sp dp n : Nat) : Nat → Int := fun k => if dp ≤ k ∧ k < dp + n then f (sp + (k - dp)) else g k
end ZN
abbrev aI (cI : ClassId) (q n : Nat) (g : Nat → Int) : Nat × va_E := (q, .inl (cI, n, .inl (fun j => iZ (g j))))
/-- the cells of the system's objects -/
abbrev oM (q a b c : Nat) (pl st sp po : Int) : Nat × va_E := (q, .inr (0, [.ref a, .ref b, .ref c, .int (iZ pl), .int (iZ st), .int (iZ sp), .int (iZ po)]))
abbrev oK (q pr sr : Nat) (ln gp ed : Int) (co mk di al : Nat) : Nat × va_E := (q, .inr (1, [.ref pr, .ref sr, .int (iZ ln), .int (iZ gp), .int (iZ ed), .ref co, .ref mk, .ref di, .ref al]))
abbrev oP (q by_ op : Nat) (n org ent ed : Int) : Nat × va_E := (q, .inr (2, [.ref by_, .ref op, .int (iZ n), .int (iZ org), .int (iZ ent), .int (iZ ed)]))
abbrev oS (q pk pr mc : Nat) : Nat × va_E := (q, .inr (3, [.ref pk, .ref pr, .ref mc]))
/-- what holds of the heap between two instructions -/
def Hp (G : va_G) (cI : ClassId) (A : Nat → Prop) (s : State) (H : Heap) (locs : List Loc) (ws : va_W) : Prop :=
  va_P G vwCl ws H ∧ va_D A ws ∧ va_S A s.heap H locs ∧ va_K G vwCl [(cI, .int)] s ∧ ∀ q : Nat, s.heap.size ≤ q → A q
def zB (G : va_G) (cI : ClassId) (A : Nat → Prop) (w : va_W) (t : State) : Prop := va_P G vwCl w t.heap ∧ va_K G vwCl [(cI, .int)] t ∧ va_D A w
def zPre (G : va_G) (cI : ClassId) (W0 : va_W) (sz : Nat) (av : List Value) : Array Value → State → Prop :=
  va_Pc av (fun U => U.heap.size = sz ∧ va_P G vwCl W0 U.heap ∧ va_K G vwCl [(cI, .int)] U ∧ va_D (fun _ => True) W0)
section ZW
variable {p : Program} {l : Launch} {e : Env} {R : Room} {s : State} {m : MethodId} {args : Array Value} {below : List Frame} {meth : Method} {c : Code} {H : Heap} {locs : List Loc} {cells slots : Nat} {Q : State → Prop}
variable {cc : ByteArray} {pc : Nat} {ls : Array Slot} {rest : List Value} {G : va_G} {cI : ClassId} {A : Nat → Prop} {ws : va_W}
theorem z_iconst (hx : p.tables.exec = Jvm.exec) (hb : c.code = cc) {n : Int} (hdg : decode cc pc = .ok (.iconst n, 1)) (k : W p l e R s m args below meth c H locs cells slots Q (F0 m (pc + 1) ls (.int (iZ n) :: rest))) : W p l e R s m args below meth c H locs cells slots Q (F0 m pc ls rest) := lv_iconst hx hb hdg rfl k
theorem z_bipush (hx : p.tables.exec = Jvm.exec) (hb : c.code = cc) {n : Int} (hdg : decode cc pc = .ok (.bipush n, 2)) (hn : (Int8.ofInt n).toInt32 = iZ n) (k : W p l e R s m args below meth c H locs cells slots Q (F0 m (pc + 2) ls (.int (iZ n) :: rest))) : W p l e R s m args below meth c H locs cells slots Q (F0 m pc ls rest) := lv_bipush hx hb hdg hn k
theorem z_sipush (hx : p.tables.exec = Jvm.exec) (hb : c.code = cc) {n : Int} (hdg : decode cc pc = .ok (.sipush n, 3)) (hn : (Int16.ofInt n).toInt32 = iZ n) (k : W p l e R s m args below meth c H locs cells slots Q (F0 m (pc + 3) ls (.int (iZ n) :: rest))) : W p l e R s m args below meth c H locs cells slots Q (F0 m pc ls rest) := lv_sipush hx hb hdg hn k
theorem z_iadd (hx : p.tables.exec = Jvm.exec) (hb : c.code = cc) {a b : Int} (z : Int) (hz : a + b = z) (hdg : decode cc pc = .ok (.iadd, 1)) (k : W p l e R s m args below meth c H locs cells slots Q (F0 m (pc + 1) ls (.int (iZ z) :: rest))) : W p l e R s m args below meth c H locs cells slots Q (F0 m pc ls (.int (iZ b) :: .int (iZ a) :: rest)) := lv_iadd hx hb hdg (by rw [iZ_add, hz]; exact k)
theorem z_isub (hx : p.tables.exec = Jvm.exec) (hb : c.code = cc) {a b : Int} (z : Int) (hz : a - b = z) (hdg : decode cc pc = .ok (.isub, 1)) (k : W p l e R s m args below meth c H locs cells slots Q (F0 m (pc + 1) ls (.int (iZ z) :: rest))) : W p l e R s m args below meth c H locs cells slots Q (F0 m pc ls (.int (iZ b) :: .int (iZ a) :: rest)) := lv_isub hx hb hdg (by rw [iZ_sub, hz]; exact k)
theorem z_imul (hx : p.tables.exec = Jvm.exec) (hb : c.code = cc) {a b : Int} (z : Int) (hz : a * b = z) (hdg : decode cc pc = .ok (.imul, 1)) (k : W p l e R s m args below meth c H locs cells slots Q (F0 m (pc + 1) ls (.int (iZ z) :: rest))) : W p l e R s m args below meth c H locs cells slots Q (F0 m pc ls (.int (iZ b) :: .int (iZ a) :: rest)) := lv_imul hx hb hdg (by rw [iZ_mul, hz]; exact k)
/-- 'and' and shifts: the number is said with its proof -/
theorem z_iand (hx : p.tables.exec = Jvm.exec) (hb : c.code = cc) {a b : Int} (z : Int) (hz : iZ a &&& iZ b = iZ z) (hdg : decode cc pc = .ok (.iand, 1)) (k : W p l e R s m args below meth c H locs cells slots Q (F0 m (pc + 1) ls (.int (iZ z) :: rest))) : W p l e R s m args below meth c H locs cells slots Q (F0 m pc ls (.int (iZ b) :: .int (iZ a) :: rest)) := lv_iand hx hb hdg (by rw [hz]; exact k)
theorem z_ishr (hx : p.tables.exec = Jvm.exec) (hb : c.code = cc) {a b : Int} (z : Int) (hz : iZ a >>> (iZ b &&& 31) = iZ z) (hdg : decode cc pc = .ok (.ishr, 1)) (k : W p l e R s m args below meth c H locs cells slots Q (F0 m (pc + 1) ls (.int (iZ z) :: rest))) : W p l e R s m args below meth c H locs cells slots Q (F0 m pc ls (.int (iZ b) :: .int (iZ a) :: rest)) := lv_ishr hx hb hdg (by rw [hz]; exact k)
/-- the top said otherwise -/
theorem z_top {a : Int} (z : Int) (hz : a = z) (k : W p l e R s m args below meth c H locs cells slots Q (F0 m pc ls (.int (iZ z) :: rest))) : W p l e R s m args below meth c H locs cells slots Q (F0 m pc ls (.int (iZ a) :: rest)) := by rw [hz]; exact k
theorem z_iinc (hx : p.tables.exec = Jvm.exec) (hb : c.code = cc) {i nL k : Nat} {n a : Int} (z : Int) (hz : a + n = z) {lv lv' : List (Nat × Value)} (hdg : decode cc pc = .ok (.iinc i n, 3)) (h : lv_has ls nL lv) (hk : lv[k]? = some (i, .int (iZ a))) (hn : i < nL) (hl : (i, Value.int (iZ z)) :: lv.filter (fun q => !(q.1 == i) && !(q.1 + 1 == i && q.2.category == 2)) = lv')
    (kk : ∀ ls' : Array Slot, lv_has ls' nL lv' → W p l e R s m args below meth c H locs cells slots Q (F0 m (pc + 3) ls' rest)) : W p l e R s m args below meth c H locs cells slots Q (F0 m pc ls rest) := lv_iinc (v := iZ z) (k := k) (x := iZ a) hx hb hdg h hk (by show iZ a + iZ n = iZ z; rw [iZ_add, hz]) hn hl kk
theorem z_if_eq (hx : p.tables.exec = Jvm.exec) (hb : c.code = cc) {a : Int} {off : Int} {tgt : Nat} (hdg : decode cc pc = .ok (.ifCond .eq off, 3)) (ht : (pc : Int) + off = (tgt : Int)) (hr : rg a) (k1 : a = 0 → W p l e R s m args below meth c H locs cells slots Q (F0 m tgt ls rest)) (k2 : a ≠ 0 → W p l e R s m args below meth c H locs cells slots Q (F0 m (pc + 3) ls rest)) : W p l e R s m args below meth c H locs cells slots Q (F0 m pc ls (.int (iZ a) :: rest)) :=
  lv_if_eq hx hb hdg ht (fun h => k1 ((iZ_inj hr ⟨by decide, by decide⟩).mp h)) (fun h => k2 (fun q => h ((iZ_inj hr ⟨by decide, by decide⟩).mpr q)))
theorem z_if_ne (hx : p.tables.exec = Jvm.exec) (hb : c.code = cc) {a : Int} {off : Int} {tgt : Nat} (hdg : decode cc pc = .ok (.ifCond .ne off, 3)) (ht : (pc : Int) + off = (tgt : Int)) (hr : rg a) (k1 : a ≠ 0 → W p l e R s m args below meth c H locs cells slots Q (F0 m tgt ls rest)) (k2 : a = 0 → W p l e R s m args below meth c H locs cells slots Q (F0 m (pc + 3) ls rest)) : W p l e R s m args below meth c H locs cells slots Q (F0 m pc ls (.int (iZ a) :: rest)) :=
  lv_if_ne hx hb hdg ht (fun h => k1 (fun q => h ((iZ_inj hr ⟨by decide, by decide⟩).mpr q))) (fun h => k2 ((iZ_inj hr ⟨by decide, by decide⟩).mp h))
theorem z_if_lt (hx : p.tables.exec = Jvm.exec) (hb : c.code = cc) {a : Int} {off : Int} {tgt : Nat} (hdg : decode cc pc = .ok (.ifCond .lt off, 3)) (ht : (pc : Int) + off = (tgt : Int)) (hr : rg a) (k1 : a < 0 → W p l e R s m args below meth c H locs cells slots Q (F0 m tgt ls rest)) (k2 : 0 ≤ a → W p l e R s m args below meth c H locs cells slots Q (F0 m (pc + 3) ls rest)) : W p l e R s m args below meth c H locs cells slots Q (F0 m pc ls (.int (iZ a) :: rest)) :=
  lv_if_lt hx hb hdg ht (fun h => k1 ((iZ_lt hr (b := 0) ⟨by decide, by decide⟩).mp h)) (fun h => k2 (Int.not_lt.mp fun q => h ((iZ_lt hr (b := 0) ⟨by decide, by decide⟩).mpr q)))
theorem z_if_ge (hx : p.tables.exec = Jvm.exec) (hb : c.code = cc) {a : Int} {off : Int} {tgt : Nat} (hdg : decode cc pc = .ok (.ifCond .ge off, 3)) (ht : (pc : Int) + off = (tgt : Int)) (hr : rg a) (k1 : 0 ≤ a → W p l e R s m args below meth c H locs cells slots Q (F0 m tgt ls rest)) (k2 : a < 0 → W p l e R s m args below meth c H locs cells slots Q (F0 m (pc + 3) ls rest)) : W p l e R s m args below meth c H locs cells slots Q (F0 m pc ls (.int (iZ a) :: rest)) :=
  lv_if_ge hx hb hdg ht (fun h => k1 ((iZ_le (a := 0) ⟨by decide, by decide⟩ hr).mp h)) (fun h => k2 (Int.not_le.mp fun q => h ((iZ_le (a := 0) ⟨by decide, by decide⟩ hr).mpr q)))
theorem z_if_gt (hx : p.tables.exec = Jvm.exec) (hb : c.code = cc) {a : Int} {off : Int} {tgt : Nat} (hdg : decode cc pc = .ok (.ifCond .gt off, 3)) (ht : (pc : Int) + off = (tgt : Int)) (hr : rg a) (k1 : 0 < a → W p l e R s m args below meth c H locs cells slots Q (F0 m tgt ls rest)) (k2 : a ≤ 0 → W p l e R s m args below meth c H locs cells slots Q (F0 m (pc + 3) ls rest)) : W p l e R s m args below meth c H locs cells slots Q (F0 m pc ls (.int (iZ a) :: rest)) :=
  lv_if_gt hx hb hdg ht (fun h => k1 ((iZ_lt (a := 0) ⟨by decide, by decide⟩ hr).mp h)) (fun h => k2 (Int.not_lt.mp fun q => h ((iZ_lt (a := 0) ⟨by decide, by decide⟩ hr).mpr q)))
theorem z_if_le (hx : p.tables.exec = Jvm.exec) (hb : c.code = cc) {a : Int} {off : Int} {tgt : Nat} (hdg : decode cc pc = .ok (.ifCond .le off, 3)) (ht : (pc : Int) + off = (tgt : Int)) (hr : rg a) (k1 : a ≤ 0 → W p l e R s m args below meth c H locs cells slots Q (F0 m tgt ls rest)) (k2 : 0 < a → W p l e R s m args below meth c H locs cells slots Q (F0 m (pc + 3) ls rest)) : W p l e R s m args below meth c H locs cells slots Q (F0 m pc ls (.int (iZ a) :: rest)) :=
  lv_if_le hx hb hdg ht (fun h => k1 ((iZ_le hr (b := 0) ⟨by decide, by decide⟩).mp h)) (fun h => k2 (Int.not_le.mp fun q => h ((iZ_le hr (b := 0) ⟨by decide, by decide⟩).mpr q)))
theorem z_icmp_eq (hx : p.tables.exec = Jvm.exec) (hb : c.code = cc) {a b : Int} {off : Int} {tgt : Nat} (hdg : decode cc pc = .ok (.if_icmp .eq off, 3)) (ht : (pc : Int) + off = (tgt : Int)) (hr : rg a ∧ rg b) (k1 : a = b → W p l e R s m args below meth c H locs cells slots Q (F0 m tgt ls rest)) (k2 : a ≠ b → W p l e R s m args below meth c H locs cells slots Q (F0 m (pc + 3) ls rest)) : W p l e R s m args below meth c H locs cells slots Q (F0 m pc ls (.int (iZ b) :: .int (iZ a) :: rest)) :=
  lv_icmp_eq hx hb hdg ht (fun h => k1 ((iZ_inj hr.1 hr.2).mp h)) (fun h => k2 (fun q => h ((iZ_inj hr.1 hr.2).mpr q)))
theorem z_icmp_ne (hx : p.tables.exec = Jvm.exec) (hb : c.code = cc) {a b : Int} {off : Int} {tgt : Nat} (hdg : decode cc pc = .ok (.if_icmp .ne off, 3)) (ht : (pc : Int) + off = (tgt : Int)) (hr : rg a ∧ rg b) (k1 : a ≠ b → W p l e R s m args below meth c H locs cells slots Q (F0 m tgt ls rest)) (k2 : a = b → W p l e R s m args below meth c H locs cells slots Q (F0 m (pc + 3) ls rest)) : W p l e R s m args below meth c H locs cells slots Q (F0 m pc ls (.int (iZ b) :: .int (iZ a) :: rest)) :=
  lv_icmp_ne hx hb hdg ht (fun h => k1 (fun q => h ((iZ_inj hr.1 hr.2).mpr q))) (fun h => k2 ((iZ_inj hr.1 hr.2).mp h))
theorem z_icmp_lt (hx : p.tables.exec = Jvm.exec) (hb : c.code = cc) {a b : Int} {off : Int} {tgt : Nat} (hdg : decode cc pc = .ok (.if_icmp .lt off, 3)) (ht : (pc : Int) + off = (tgt : Int)) (hr : rg a ∧ rg b) (k1 : a < b → W p l e R s m args below meth c H locs cells slots Q (F0 m tgt ls rest)) (k2 : b ≤ a → W p l e R s m args below meth c H locs cells slots Q (F0 m (pc + 3) ls rest)) : W p l e R s m args below meth c H locs cells slots Q (F0 m pc ls (.int (iZ b) :: .int (iZ a) :: rest)) :=
  lv_icmp_lt hx hb hdg ht (fun h => k1 ((iZ_lt hr.1 hr.2).mp h)) (fun h => k2 (Int.not_lt.mp fun q => h ((iZ_lt hr.1 hr.2).mpr q)))
theorem z_icmp_ge (hx : p.tables.exec = Jvm.exec) (hb : c.code = cc) {a b : Int} {off : Int} {tgt : Nat} (hdg : decode cc pc = .ok (.if_icmp .ge off, 3)) (ht : (pc : Int) + off = (tgt : Int)) (hr : rg a ∧ rg b) (k1 : b ≤ a → W p l e R s m args below meth c H locs cells slots Q (F0 m tgt ls rest)) (k2 : a < b → W p l e R s m args below meth c H locs cells slots Q (F0 m (pc + 3) ls rest)) : W p l e R s m args below meth c H locs cells slots Q (F0 m pc ls (.int (iZ b) :: .int (iZ a) :: rest)) :=
  lv_icmp_ge hx hb hdg ht (fun h => k1 ((iZ_le hr.2 hr.1).mp h)) (fun h => k2 (Int.not_le.mp fun q => h ((iZ_le hr.2 hr.1).mpr q)))
theorem z_icmp_gt (hx : p.tables.exec = Jvm.exec) (hb : c.code = cc) {a b : Int} {off : Int} {tgt : Nat} (hdg : decode cc pc = .ok (.if_icmp .gt off, 3)) (ht : (pc : Int) + off = (tgt : Int)) (hr : rg a ∧ rg b) (k1 : b < a → W p l e R s m args below meth c H locs cells slots Q (F0 m tgt ls rest)) (k2 : a ≤ b → W p l e R s m args below meth c H locs cells slots Q (F0 m (pc + 3) ls rest)) : W p l e R s m args below meth c H locs cells slots Q (F0 m pc ls (.int (iZ b) :: .int (iZ a) :: rest)) :=
  lv_icmp_gt hx hb hdg ht (fun h => k1 ((iZ_lt hr.2 hr.1).mp h)) (fun h => k2 (Int.not_lt.mp fun q => h ((iZ_lt hr.2 hr.1).mpr q)))
theorem z_icmp_le (hx : p.tables.exec = Jvm.exec) (hb : c.code = cc) {a b : Int} {off : Int} {tgt : Nat} (hdg : decode cc pc = .ok (.if_icmp .le off, 3)) (ht : (pc : Int) + off = (tgt : Int)) (hr : rg a ∧ rg b) (k1 : a ≤ b → W p l e R s m args below meth c H locs cells slots Q (F0 m tgt ls rest)) (k2 : b < a → W p l e R s m args below meth c H locs cells slots Q (F0 m (pc + 3) ls rest)) : W p l e R s m args below meth c H locs cells slots Q (F0 m pc ls (.int (iZ b) :: .int (iZ a) :: rest)) :=
  lv_icmp_le hx hb hdg ht (fun h => k1 ((iZ_le hr.1 hr.2).mp h)) (fun h => k2 (Int.not_le.mp fun q => h ((iZ_le hr.1 hr.2).mpr q)))
/-- fields -/
theorem z_get (hx : p.tables.exec = Jvm.exec) (hb : c.code = cc) {own C : String} {T : u_T} {N ci index : Nat} {Ts : List Cond} {a : Nat} (hts : ∀ w ∈ Ts, w.before args s = true) (hin : ∀ w ∈ u_ws C T N, w ∈ Ts) (hown : s.vm.findClass own = some m.cls) (hp : Hp G cI A s H locs ws) (q0 : Nat) {fs : List Value} (he : ws[q0]? = some (a, .inr (ci, fs))) (hc : vwCl[ci]? = some (C, T, N)) (k : Nat) (hk : k < N) (hlink : (Cond.fieldLink own index (T k).1 (T k).2.1 (T k).2.2.1).before args s = true) {v : Value} (hv : fs[k]? = some v) (hdg : decode cc pc = .ok (.getfield index, 3))
    (kk : W p l e R s m args below meth c H locs cells slots Q (F0 m (pc + 3) ls (v :: rest))) : W p l e R s m args below meth c H locs cells slots Q (F0 m pc ls (.ref a :: rest)) :=
  va_get (ref := (T k).1) hx hb hts hin hown hp.2.2.2.1 hp.1 q0 he hc k hk hlink (fun _ h => h) hv hdg kk
theorem z_put (hx : p.tables.exec = Jvm.exec) (hb : c.code = cc) {own C : String} {T : u_T} {N ci index : Nat} {Ts : List Cond} {a : Nat} (hts : ∀ w ∈ Ts, w.before args s = true) (hin : ∀ w ∈ u_ws C T N, w ∈ Ts) (ty0 : Nat → FieldType) (hty : ∀ k, k < N → parseFieldDescriptor (T k).2.2.1 = some (ty0 k)) (hnm : ∀ a, a < N → ∀ b, b < N → a ≠ b → (T a).2.1 ≠ (T b).2.1) (hown : s.vm.findClass own = some m.cls) (hp : Hp G cI A s H locs ws) (q0 : Nat) {fs : List Value} (he : ws[q0]? = some (a, .inr (ci, fs))) (hc : vwCl[ci]? = some (C, T, N)) (k : Nat) (hk : k < N) (hlink : (Cond.fieldLink own index (T k).1 (T k).2.1 (T k).2.2.1).before args s = true) (hfin : (T k).2.2.2 = false) {v : Value} (hn : narrow (ty0 k) v = v) (hfit : fits (ty0 k) v = true) (hl : k < fs.length)
    (hdg : decode cc pc = .ok (.putfield index, 3)) {ws' : va_W} (hw : ws.set q0 (a, .inr (ci, fs.set k v)) = ws') (kk : ∀ (H1 : Heap) (locs1 : List Loc), Hp G cI A s H1 locs1 ws' → W p l e R s m args below meth c H1 locs1 cells slots Q (F0 m (pc + 3) ls rest)) : W p l e R s m args below meth c H locs cells slots Q (F0 m pc ls (v :: .ref a :: rest)) := by
  subst hw
  exact va_put (ref := (T k).1) hx hb hts hin ty0 hty hnm hown hp.2.2.2.1 hp.1 hp.2.1 hp.2.2.1 q0 he hc k hk hlink (fun _ h => h) hfin (hty k hk) hn hfit hl hdg (fun H1 locs1 hP hD hS => kk H1 locs1 ⟨hP, hD, hS, hp.2.2.2.1, hp.2.2.2.2⟩)
theorem z_putF (hx : p.tables.exec = Jvm.exec) (hb : c.code = cc) {own C : String} {T : u_T} {N ci index : Nat} {Ts : List Cond} {a : Nat} (hts : ∀ w ∈ Ts, w.before args s = true) (hin : ∀ w ∈ u_ws C T N, w ∈ Ts) (ty0 : Nat → FieldType) (hty : ∀ k, k < N → parseFieldDescriptor (T k).2.2.1 = some (ty0 k)) (hnm : ∀ a, a < N → ∀ b, b < N → a ≠ b → (T a).2.1 ≠ (T b).2.1) (hown : s.vm.findClass own = some m.cls) (hp : Hp G cI A s H locs ws) (q0 : Nat) {fs : List Value} (he : ws[q0]? = some (a, .inr (ci, fs))) (hc : vwCl[ci]? = some (C, T, N)) (k : Nat) (hk : k < N) (hlink : (Cond.fieldLink own index (T k).1 (T k).2.1 (T k).2.2.1).before args s = true) (hfin : (T k).2.2.2 = true) (hin2 : meth.name = "<init>") (hdecl : (T k).1 = own) {v : Value} (hn : narrow (ty0 k) v = v) (hfit : fits (ty0 k) v = true) (hl : k < fs.length)
    (hdg : decode cc pc = .ok (.putfield index, 3)) {ws' : va_W} (hw : ws.set q0 (a, .inr (ci, fs.set k v)) = ws') (kk : ∀ (H1 : Heap) (locs1 : List Loc), Hp G cI A s H1 locs1 ws' → W p l e R s m args below meth c H1 locs1 cells slots Q (F0 m (pc + 3) ls rest)) : W p l e R s m args below meth c H locs cells slots Q (F0 m pc ls (v :: .ref a :: rest)) := by
  subst hw
  exact va_putF (ref := (T k).1) hx hb hts hin ty0 hty hnm hown hp.2.2.2.1 hp.1 hp.2.1 hp.2.2.1 q0 he hc k hk hlink (fun _ h => h) hfin hin2 hdecl (hty k hk) hn hfit hl hdg (fun H1 locs1 hP hD hS => kk H1 locs1 ⟨hP, hD, hS, hp.2.2.2.1, hp.2.2.2.2⟩)
/-- rows of ints -/
theorem z_iald (hx : p.tables.exec = Jvm.exec) (hb : c.code = cc) (hp : Hp G cI A s H locs ws) (q0 : Nat) {a n : Nat} {g : Nat → Int} (he : ws[q0]? = some (aI cI a n g)) {i : Int} (k : Nat) (hk : i = k ∧ k < n ∧ k < 2147483648) (hdg : decode cc pc = .ok (.iaload, 1)) (z : Int) (hz : g k = z)
    (kk : W p l e R s m args below meth c H locs cells slots Q (F0 m (pc + 1) ls (.int (iZ z) :: rest))) : W p l e R s m args below meth c H locs cells slots Q (F0 m pc ls (.int (iZ i) :: .ref a :: rest)) := by
  refine va_iald hx hb hp.2.2.2.1 hp.1 q0 0 he rfl (iZ_in hk.1 hk.2.1 hk.2.2) hdg ?_
  rw [iZ_cl hk.1 hk.2.2]
  show W p l e R s m args below meth c H locs cells slots Q (F0 m (pc + 1) ls (.int (iZ (g k)) :: rest))
  rw [hz]
  exact kk
theorem z_iast (hx : p.tables.exec = Jvm.exec) (hb : c.code = cc) (hp : Hp G cI A s H locs ws) (q0 : Nat) {a n : Nat} {g : Nat → Int} (he : ws[q0]? = some (aI cI a n g)) {i v : Int} (k : Nat) (hk : i = k ∧ k < n ∧ k < 2147483648) (hdg : decode cc pc = .ok (.iastore, 1)) {ws' : va_W} (hw : ws.set q0 (aI cI a n (upZ g k v)) = ws')
    (kk : ∀ (H1 : Heap) (locs1 : List Loc), Hp G cI A s H1 locs1 ws' → W p l e R s m args below meth c H1 locs1 cells slots Q (F0 m (pc + 1) ls rest)) : W p l e R s m args below meth c H locs cells slots Q (F0 m pc ls (.int (iZ v) :: .int (iZ i) :: .ref a :: rest)) := by
  subst hw
  have e : (fun j => iZ (upZ g k v j)) = upd (fun j => iZ (g j)) k (iZ v) := by
    funext j
    by_cases h : j = k
    · subst h; simp [upZ, upd]
    · simp [upZ, upd, h]
  refine va_iast hx hb hp.2.2.2.1 hp.1 hp.2.1 hp.2.2.1 q0 0 he rfl (iZ_in hk.1 hk.2.1 hk.2.2) hdg (fun H1 locs1 hP hD hS => kk H1 locs1 ⟨?_, ?_, hS, hp.2.2.2.1, hp.2.2.2.2⟩)
  · rw [iZ_cl hk.1 hk.2.2] at hP
    show va_P G vwCl (ws.set q0 (a, .inl (cI, n, .inl (fun j => iZ (upZ g k v j))))) H1
    rw [e]; exact hP
  · rw [iZ_cl hk.1 hk.2.2] at hD
    show va_D A (ws.set q0 (a, .inl (cI, n, .inl (fun j => iZ (upZ g k v j)))))
    rw [e]; exact hD
/-- an array's row said otherwise, where it shows the same -/
theorem z_alike (hp : Hp G cI A s H locs ws) (q0 : Nat) {a n : Nat} {g : Nat → Int} (he : ws[q0]? = some (aI cI a n g)) (g' : Nat → Int) (hg : ∀ j, j < n → g' j = g j) {ws' : va_W} (hw : ws.set q0 (aI cI a n g') = ws') : Hp G cI A s H locs ws' := by
  subst hw
  refine ⟨hp.1.set hp.2.1 he ?_ (fun _ _ => rfl), hp.2.1.set he, hp.2.2⟩
  have h1 := hp.1 q0 _ he
  show H[a]? = some (vp_cell cI (n, .inl (fun j => iZ (g' j))))
  rw [show H[a]? = some (vp_cell cI (n, .inl (fun j => iZ (g j)))) from h1]
  congr 1
  rw [vp_cell_i, vp_cell_i]
  unfold arrV
  congr 1
  apply Array.ext
  · simp
  · intro i h1 h2
    simp at h1 h2 ⊢
    rw [hg i (by omega)]
/-- 'new' -/
theorem z_new (hx : p.tables.exec = Jvm.exec) (hb : c.code = cc) {own C : String} {T : u_T} {N ci index : Nat} {Ts : List Cond} (hts : ∀ w ∈ Ts, w.before args s = true) (hin : ∀ w ∈ u_ws C T N, w ∈ Ts) (ty : Nat → FieldType) (hty : ∀ k, k < N → parseFieldDescriptor (T k).2.2.1 = some (ty k)) (hown : s.vm.findClass own = some m.cls) (hcl : (Cond.classLink own index C).before args s = true) (hinst : (Cond.instantiable C N).before args s = true) (hini : (Cond.initialized C).before args s = true)
    (hp : Hp G cI A s H locs ws) (hc : vwCl[ci]? = some (C, T, N)) {fs : List Value} (hfs : ∀ j, j < N → defaultValue (ty j) = vp_V fs j) (hcells : cells + 1 ≤ R.cells) (hslots : slots + N ≤ R.slots) (hdg : decode cc pc = .ok (.new index, 3))
    (kk : ∀ (q : Nat) (H1 : Heap), Hp G cI A s H1 locs (ws ++ [(q, .inr (ci, fs))]) → W p l e R s m args below meth c H1 locs (cells + 1) (slots + N) Q (F0 m (pc + 3) ls (.ref q :: rest))) : W p l e R s m args below meth c H locs cells slots Q (F0 m pc ls rest) :=
  va_new hx hb hts hin ty hty hown hcl hinst hini hp.2.2.2.1 hp.1 hp.2.1 hp.2.2.1 hp.2.2.2.2 hc hfs hcells hslots hdg (fun q H1 hP hD hS => kk q H1 ⟨hP, hD, hS, hp.2.2.2.1, hp.2.2.2.2⟩)
/-- 'new int[n]' -/
theorem z_newa (hx : p.tables.exec = Jvm.exec) (hb : c.code = cc) (n : Nat) (hac : (Cond.arrayClass .int).before args s = true) (hp : Hp G cI A s H locs ws) (hn : n < 2147483648) (hbytes : n * componentBytes .int ≤ 536870912) (hz : iZ (n : Int) = iZ (n : Int)) (hcells : cells + 1 ≤ R.cells) (hslots : slots + n ≤ R.slots) (hdg : decode cc pc = .ok (.newarray .int, 2))
    (kk : ∀ (q : Nat) (H1 : Heap), Hp G cI A s H1 locs (ws ++ [aI cI q n (fun _ => 0)]) → W p l e R s m args below meth c H1 locs (cells + 1) (slots + n) Q (F0 m (pc + 2) ls (.ref q :: rest))) : W p l e R s m args below meth c H locs cells slots Q (F0 m pc ls (.int (iZ (n : Int)) :: rest)) := by
  refine va_newa (atype := .int) (ty := .int) (a0 := (n, .inl (fun _ => iZ 0))) hx hb hac rfl hp.2.2.2.1 hp.1 hp.2.1 hp.2.2.1 hp.2.2.2.2 (fun cA => rfl) ?_ (iZ_cl rfl hn) hbytes hcells hslots hdg (fun q cA H1 hK hP hD hS => kk q H1 ?_)
  · intro h
    have h2 := (iZ_lt (b := 0) ⟨by omega, by omega⟩ ⟨by decide, by decide⟩).mp h
    omega
  · have h1 : s.vm.findClass ("[" ++ (FieldType.int).toString) = some cI := (hp.2.2.2.1.2 0 (cI, .int) rfl).2
    have h2 : s.vm.findClass ("[" ++ (FieldType.int).toString) = some cA := (hK.2 1 (cA, .int) rfl).2
    cases Option.some.inj (h1.symm.trans h2)
    exact ⟨hP, hD, hS, hp.2.2.2.1, hp.2.2.2.2⟩
/-- System.arraycopy between rows of ints -/
theorem z_copy (hx : p.tables.exec = Jvm.exec) (hb : c.code = cc) (hml : c.maxLocals = ls.size) {own : String} {index : Nat} (hown : s.vm.findClass own = some m.cls) (hlink : (Cond.methodLink own index arraycopyName).before args s = true) (hnat : (Cond.native arraycopyName).before args s = true) (hstat : (Cond.static arraycopyName).before args s = true) (hini : (Cond.initialized "java/lang/System").before args s = true)
    (hp : Hp G cI A s H locs ws) (q0 q1 : Nat) {a0 a n0 n1 : Nat} {f g : Nat → Int} (ha0 : ws[q0]? = some (aI cI a0 n0 f)) (ha1 : ws[q1]? = some (aI cI a n1 g)) {sp' dp' n' : Int} (sp dp n : Nat) (h1 : sp' = sp ∧ sp < 1073741824) (h2 : dp' = dp ∧ dp < 1073741824) (h3 : n' = n ∧ n < 1073741824) (h4 : sp + n ≤ n0 ∧ dp + n ≤ n1)
    (hframes : 1 ≤ R.frames) (hlocals : (rest.map fun v => v.category).sum + (nativeFrameWords "java/lang/System" "arraycopy" 5 + 11) ≤ R.locals) (hdg : decode cc pc = .ok (.invokestatic index, 3)) {ws' : va_W} (hw : ws.set q1 (aI cI a n1 (cpZ f g sp dp n)) = ws')
    (kk : ∀ (H1 : Heap) (locs1 : List Loc), Hp G cI A s H1 locs1 ws' → W p l e R s m args below meth c H1 locs1 cells slots Q (F0 m (pc + 3) ls rest)) : W p l e R s m args below meth c H locs cells slots Q (F0 m pc ls (.int (iZ n') :: .int (iZ dp') :: .ref a :: .int (iZ sp') :: .ref a0 :: rest)) := by
  subst hw
  have c1 : (iZ sp').toNatClampNeg = sp := iZ_cl h1.1 (by omega)
  have c2 : (iZ dp').toNatClampNeg = dp := iZ_cl h2.1 (by omega)
  have c3 : (iZ n').toNatClampNeg = n := iZ_cl h3.1 (by omega)
  have ng : ∀ {z : Int} {k : Nat}, z = k → k < 1073741824 → ¬ iZ z < 0 := by
    intro z k hz hk h
    have h2 := (iZ_lt (b := 0) ⟨by omega, by omega⟩ ⟨by decide, by decide⟩).mp h
    omega
  have e : (fun j => iZ (cpZ f g sp dp n j)) = va_cpy (fun j => iZ (f j)) (fun j => iZ (g j)) sp dp n := by
    funext j
    unfold cpZ va_cpy
    split <;> rfl
  refine va_copyi hx hb hml hown hlink hnat hstat hini hp.2.2.2.1 hp.1 hp.2.1 hp.2.2.1 q0 q1 0 0 ha0 ha1 rfl rfl rfl (ng h1.1 h1.2) (ng h2.1 h2.2) (ng h3.1 h3.2) (by rw [c1, c3]; exact h4.1) (by rw [c2, c3]; exact h4.2) (fun i hi => rfl) hframes hlocals hdg (fun H1 locs1 hP hD hS => kk H1 locs1 ⟨?_, ?_, hS, hp.2.2.2.1, hp.2.2.2.2⟩)
  · rw [c1, c2, c3] at hP
    show va_P G vwCl (ws.set q1 (a, .inl (cI, n1, .inl (fun j => iZ (cpZ f g sp dp n j))))) H1
    rw [e]; exact hP
  · rw [c1, c2, c3] at hD
    show va_D A (ws.set q1 (a, .inl (cI, n1, .inl (fun j => iZ (cpZ f g sp dp n j)))))
    rw [e]; exact hD
theorem z_mmax (hx : p.tables.exec = Jvm.exec) (hb : c.code = cc) (hml : c.maxLocals = ls.size) {own : String} {index : Nat} (hown : s.vm.findClass own = some m.cls) (hlink : (Cond.methodLink own index Lib.Math.max.name).before args s = true) (hstat : (Cond.static Lib.Math.max.name).before args s = true) (hini : (Cond.initialized "java/lang/Math").before args s = true) (hcode : (Cond.code Lib.Math.max.name Lib.Math.max.code 2 (some .int)).before args s = true)
    (hframes : 1 ≤ R.frames) (hlocals : (rest.map fun v => v.category).sum + 13 ≤ R.locals) (hc : cells ≤ R.cells) (hs : slots ≤ R.slots) {a b : Int} (z : Int) (hr : rg a ∧ rg b) (hz : z = max a b) (hdg : decode cc pc = .ok (.invokestatic index, 3))
    (kk : W p l e R s m args below meth c H locs cells slots Q (F0 m (pc + 3) ls (.int (iZ z) :: rest))) : W p l e R s m args below meth c H locs cells slots Q (F0 m pc ls (.int (iZ b) :: .int (iZ a) :: rest)) := by
  refine va_mmax hx hb hml hown hlink hstat hini hcode hframes hlocals hc hs hdg ?_
  have e : (if iZ a < iZ b then iZ b else iZ a) = iZ z := by
    by_cases h : a < b
    · rw [if_pos ((iZ_lt hr.1 hr.2).mpr h)]; congr 1; omega
    · rw [if_neg (fun q => h ((iZ_lt hr.1 hr.2).mp q))]; congr 1; omega
  rw [e]; exact kk
theorem z_mmin (hx : p.tables.exec = Jvm.exec) (hb : c.code = cc) (hml : c.maxLocals = ls.size) {own : String} {index : Nat} (hown : s.vm.findClass own = some m.cls) (hlink : (Cond.methodLink own index Lib.Math.min.name).before args s = true) (hstat : (Cond.static Lib.Math.min.name).before args s = true) (hini : (Cond.initialized "java/lang/Math").before args s = true) (hcode : (Cond.code Lib.Math.min.name Lib.Math.min.code 2 (some .int)).before args s = true)
    (hframes : 1 ≤ R.frames) (hlocals : (rest.map fun v => v.category).sum + 13 ≤ R.locals) (hc : cells ≤ R.cells) (hs : slots ≤ R.slots) {a b : Int} (z : Int) (hr : rg a ∧ rg b) (hz : z = min a b) (hdg : decode cc pc = .ok (.invokestatic index, 3))
    (kk : W p l e R s m args below meth c H locs cells slots Q (F0 m (pc + 3) ls (.int (iZ z) :: rest))) : W p l e R s m args below meth c H locs cells slots Q (F0 m pc ls (.int (iZ b) :: .int (iZ a) :: rest)) := by
  refine va_mmin hx hb hml hown hlink hstat hini hcode hframes hlocals hc hs hdg ?_
  have e : (if iZ b < iZ a then iZ b else iZ a) = iZ z := by
    by_cases h : b < a
    · rw [if_pos ((iZ_lt hr.2 hr.1).mpr h)]; congr 1; omega
    · rw [if_neg (fun q => h ((iZ_lt hr.2 hr.1).mp q))]; congr 1; omega
  rw [e]; exact kk
theorem z_cst {v : Int32} (z : Int) (hz : v = iZ z) (k : W p l e R s m args below meth c H locs cells slots Q (F0 m pc ls (.int (iZ z) :: rest))) : W p l e R s m args below meth c H locs cells slots Q (F0 m pc ls (.int v :: rest)) := by rw [hz]; exact k
theorem z_tsI (hx : p.tables.exec = Jvm.exec) (hb : c.code = cc) {dflt lo hi : Int} {offs : Array Int} {len : Nat} {z : Int} (off : Int) {tgt : Nat} (hdg : decode cc pc = .ok (.tableswitch dflt lo hi offs, len)) (hr : rg z) (h1 : lo ≤ z) (h2 : z ≤ hi) (ho : offs[(z - lo).toNat]? = some off) (ht : (pc : Int) + off = (tgt : Int))
    (k : W p l e R s m args below meth c H locs cells slots Q (F0 m tgt ls rest)) : W p l e R s m args below meth c H locs cells slots Q (F0 m pc ls (.int (iZ z) :: rest)) := by
  refine lv_tableIn (off := off) (tgt := tgt) hx hb hdg ?_ ?_ ?_ ht k
  · rw [iZ_toInt hr.1 hr.2]; omega
  · rw [iZ_toInt hr.1 hr.2]; omega
  · rw [iZ_toInt hr.1 hr.2]; exact ho
theorem z_tsO (hx : p.tables.exec = Jvm.exec) (hb : c.code = cc) {dflt lo hi : Int} {offs : Array Int} {len : Nat} {z : Int} {tgt : Nat} (hdg : decode cc pc = .ok (.tableswitch dflt lo hi offs, len)) (hr : rg z) (h : z < lo ∨ hi < z) (ht : (pc : Int) + dflt = (tgt : Int))
    (k : W p l e R s m args below meth c H locs cells slots Q (F0 m tgt ls rest)) : W p l e R s m args below meth c H locs cells slots Q (F0 m pc ls (.int (iZ z) :: rest)) := by
  refine lv_tableOut (tgt := tgt) hx hb hdg ?_ ht k
  rw [iZ_toInt hr.1 hr.2]; exact h
end ZW
