/-! the law's own methods: what they catch; the row of one long -/
abbrev aJ (cJ : ClassId) (q : Nat) (v : Int64) : Nat × va_E := (q, .inl (cJ, 1, .inr (.inl (fun _ => v))))
def zPreL (t : Nat) (G : va_G) (cI cJ : ClassId) (W0 : va_W) (sz : Nat) (av : List Value) : Array Value → State → Prop :=
  va_Pc av (fun U => ((U.heap.size = sz ∧ va_P G vwCl W0 U.heap ∧ va_K G vwCl [(cI, .int)] U ∧ va_D (fun _ => True) W0) ∧ zC t (va_A W0 sz) U U.heap) ∧ va_K G vwCl [(cJ, .long)] U)
theorem zPreL_blind {t : Nat} {G : va_G} {cI cJ : ClassId} {W0 : va_W} {sz : Nat} {av : List Value} : FrameBlind (zPreL t G cI cJ W0 sz av) := fun _ U g mk q => by
  obtain ⟨q0, ⟨⟨q1, qP, qK, qD⟩, h1, h2, h3⟩, hJ⟩ := q
  exact ⟨q0, ⟨⟨q1, qP, va_K.moved (u := U) (U := U.calling g mk _) (Vm.Alike.refl U.vm) qK, qD⟩, zE.same (s := U) (U := U.calling g mk _) rfl h1, h2.moved (U := U.calling g mk _) (Vm.Alike.refl U.vm), h3.moved (U := U.calling g mk _) (Vm.Alike.refl U.vm)⟩, va_K.moved (u := U) (U := U.calling g mk _) (Vm.Alike.refl U.vm) hJ⟩
section ZL
variable {p : Program} {l : Launch} {e : Env} {R : Room} {s : State} {m : MethodId} {args : Array Value} {below : List Frame} {meth : Method} {c : Code} {H : Heap} {locs : List Loc} {cells slots : Nat} {Q : State → Prop}
variable {cc : ByteArray} {pc : Nat} {ls : Array Slot} {rest : List Value} {G : va_G} {cI cJ : ClassId} {A : Nat → Prop} {ws W0 : va_W}
theorem z_preL {t : Nat} (hC0 : zC t A s s.heap) (hJ : va_K G vwCl [(cJ, .long)] s) (hp : Hp G cI A s H locs ws) (isC : List Nat) (hC : isC.map (fun i => ws[i]?) = W0.map some) (hn : va_nd isC = true) (av : List Value) : ∀ U : State, U.heap = H → s.WarmedH U.vm → zPreL t G cI cJ W0 H.size av av.toArray U := fun U hU hW =>
  ⟨rfl, ⟨⟨by rw [hU], by rw [hU]; exact hp.1.sub isC (z_fm hC), va_K.moved hW.alike hp.2.2.2.1, (hp.2.1.sub isC hn hC).weaken (fun _ _ _ _ => trivial)⟩, hC0.go hp.2.2.1 (va_free hp.2.1 hp.2.2.1 hp.2.2.2.2 isC hC) hU hW⟩, va_K.moved hW.alike hJ⟩
theorem z_lald (hx : p.tables.exec = Jvm.exec) (hb : c.code = cc) (hJ : va_K G vwCl [(cJ, .long)] s) (hp : Hp G cI A s H locs ws) (q0 : Nat) {a : Nat} {v : Int64} (he : ws[q0]? = some (aJ cJ a v)) (hdg : decode cc pc = .ok (.laload, 1))
    (kk : W p l e R s m args below meth c H locs cells slots Q (F0 m (pc + 1) ls (.long v :: rest))) : W p l e R s m args below meth c H locs cells slots Q (F0 m pc ls (.int (iZ 0) :: .ref a :: rest)) :=
  va_lald hx hb hJ hp.1 q0 0 he rfl (iZ_in (k := 0) rfl (by decide) (by decide)) hdg kk
theorem z_last (hx : p.tables.exec = Jvm.exec) (hb : c.code = cc) (hJ : va_K G vwCl [(cJ, .long)] s) (hp : Hp G cI A s H locs ws) (q0 : Nat) {a : Nat} {v x : Int64} (he : ws[q0]? = some (aJ cJ a v)) (hdg : decode cc pc = .ok (.lastore, 1)) {ws' : va_W} (hw : ws.set q0 (aJ cJ a x) = ws')
    (kk : ∀ (H1 : Heap) (locs1 : List Loc), Hp G cI A s H1 locs1 ws' → W p l e R s m args below meth c H1 locs1 cells slots Q (F0 m (pc + 1) ls rest)) : W p l e R s m args below meth c H locs cells slots Q (F0 m pc ls (.long x :: .int (iZ 0) :: .ref a :: rest)) := by
  subst hw
  refine va_last hx hb hJ hp.1 hp.2.1 hp.2.2.1 q0 0 he rfl (iZ_in (k := 0) rfl (by decide) (by decide)) hdg (fun H1 locs1 hP hD hS => kk H1 locs1 ?_)
  have hlt : q0 < ws.length := (List.getElem?_eq_some_iff.mp he).1
  have h0 : (iZ 0).toNatClampNeg = 0 := iZ_cl (k := 0) rfl (by decide)
  have he2 := List.getElem?_set_self (l := ws) (a := ((a, .inl (cJ, 1, .inr (.inl (vp_updL (fun _ => v) (iZ 0).toNatClampNeg x)))) : Nat × va_E)) hlt
  have h1 := hP q0 _ he2
  have e : ws.set q0 (aJ cJ a x) = (ws.set q0 (a, .inl (cJ, 1, .inr (.inl (vp_updL (fun _ => v) (iZ 0).toNatClampNeg x))))).set q0 (aJ cJ a x) := by rw [List.set_set]
  rw [e]
  refine ⟨hP.set hD he2 ?_ (fun _ _ => rfl), hD.set he2, hS, hp.2.2.2.1, hp.2.2.2.2⟩
  show H1[a]? = some (vp_cell cJ (1, .inr (.inl (fun _ => x))))
  rw [show H1[a]? = some (vp_cell cJ (1, .inr (.inl (vp_updL (fun _ => v) (iZ 0).toNatClampNeg x)))) from h1]
  congr 1
theorem z_sld (hx : p.tables.exec = Jvm.exec) (hb : c.code = cc) {b L : Nat} {xs : Nat → Int32} (hX : va_X b L xs s s.heap) (hbl : b < s.heap.size) (hbA : ¬ A b) (hp : Hp G cI A s H locs ws) {i : Int} (k : Nat) (hk : i = k ∧ k < L ∧ k < 2147483648) (z : Int) (hz : xs k = iZ z) (hdg : decode cc pc = .ok (.iaload, 1))
    (kk : W p l e R s m args below meth c H locs cells slots Q (F0 m (pc + 1) ls (.int (iZ z) :: rest))) : W p l e R s m args below meth c H locs cells slots Q (F0 m pc ls (.int (iZ i) :: .ref b :: rest)) := by
  refine va_sld hx hb hX hbl hbA hp.2.2.1 (iZ_in hk.1 hk.2.1 hk.2.2) hdg ?_
  rw [iZ_cl hk.1 hk.2.2, hz]
  exact kk
theorem z_slen (hx : p.tables.exec = Jvm.exec) (hb : c.code = cc) {b L : Nat} {xs : Nat → Int32} (hX : va_X b L xs s s.heap) (hbl : b < s.heap.size) (hbA : ¬ A b) (hp : Hp G cI A s H locs ws) (hdg : decode cc pc = .ok (.arraylength, 1))
    (kk : W p l e R s m args below meth c H locs cells slots Q (F0 m (pc + 1) ls (.int (iZ (L : Int)) :: rest))) : W p l e R s m args below meth c H locs cells slots Q (F0 m pc ls (.ref b :: rest)) :=
  va_slen hx hb hX hbl hbA hp.2.2.1 hdg (by rw [iZ_nI] at kk; exact kk)
theorem z_cmp0 (x : Int64) : lg_cmp x x = iZ 0 := by
  unfold lg_cmp
  have h : ¬ x < x := by
    rw [Int64.lt_iff_toInt_lt]; omega
  simp [h]
  rfl
end ZL
section ZLM
variable {l : Launch} {y : MethodName} {ws ws' : List Cond} {rm : Room} {cc : ByteArray} {maxL : Nat} {ty : FieldType} {G : va_G} {cI cJ : ClassId} {W0 : va_W} {av : List Value} {sz : Nat} {S : Type} {W1 : S → va_W} {mc ms : Nat}
/-- a method with a table, that returns an int and lets nothing out -/
theorem zm_h {t : Nat} {hh : List (Nat × Nat × Nat × Nat)} {post : Int32 → S → Prop} (hy : plainName y.cls = true) (hw : ws = Cond.codeWith y cc maxL (some ty) hh :: ws') (hlen : (lg_sl av).length ≤ maxL)
    (body : ∀ (p : Program) (e : Env) (s : State) (m : MethodId) (args : Array Value) (below : List Frame) (meth : Method) (c : Code) (A : Nat → Prop) (Q : State → Prop) (ls : Array Slot), s.heap.size = sz → p.tables.exec = Jvm.exec → c.code = cc → c.maxLocals = maxL → s.vm.findClass y.cls = some m.cls → (∀ w ∈ ws, w.before args s = true) → zC t A s s.heap → va_K G vwCl [(cJ, .long)] s → c.exceptionTable.toList = tableOf hh →
      (∀ (H : Heap) (locs : List Loc) (cells slots : Nat) (ls : Array Slot) (pc : Nat) (z : Int) (u : S), post (iZ z) u → Hp G cI A s H locs (W1 u) → decode cc pc = .ok (.ireturn, 1) → narrow ty (.int (iZ z)) = .int (iZ z) → cells ≤ mc → slots ≤ ms → W p l e rm s m args below meth c H locs cells slots Q (F0 m pc ls [.int (iZ z)])) →
      Hp G cI A s s.heap [] W0 → lv_has ls maxL (lv_args 0 av) → W p l e rm s m args below meth c s.heap [] 0 0 Q (F0 m 0 ls [])) :
    Met l y ws rm (zPreL t G cI cJ W0 sz av) (va_Qi post (fun u t => zB G cI (va_A W0 sz) (W1 u) t) (va_A W0 sz)) mc ms (va_A W0 sz) := by
  refine MetFree.of_bodyS (code := cc) (maxLocals := maxL) (ret := some ty) hy ?_ ?_
  · intro args s m h hn
    obtain ⟨m9, meth, c, hn9, h1, h2, h3, h4, -, h5, h6, -⟩ := Cond.codeWith_spec (atoms_spec (ws := ws) h _ (by rw [hw]; exact List.mem_cons_self))
    cases hn.symm.trans hn9
    exact ⟨meth, c, h1, h2, h3, h4, h5, h6⟩
  · intro p e s m args below meth c s₁ B hml hv _
    have hh0 : s₁.heap = s.heap := by rw [B.state]; rfl
    obtain ⟨rfl, ⟨⟨hsz, hP, hK, hD0⟩, hC⟩, hJ⟩ := hv
    subst hsz
    have hts := atoms_spec (ws := ws) B.pre
    have htab : c.exceptionTable.toList = tableOf hh := vx_table (x := y) B (hts _ (by rw [hw]; exact List.mem_cons_self))
    have hl := lv_entry av (n := maxL) hlen
    have key : W p l e rm s m av.toArray below meth c s.heap [] 0 0 (MQ below (va_Qi post (fun u t => zB G cI (va_A W0 s.heap.size) (W1 u) t) (va_A W0 s.heap.size)) av.toArray s mc ms (va_A W0 s.heap.size)) (entryFrame m av.toArray maxL) := by
      rw [lg_entry_eq]
      generalize (lg_sl av ++ List.replicate (maxL - (lg_sl av).length) Slot.unset).toArray = ls at hl ⊢
      refine body p e s m _ below meth c (va_A W0 s.heap.size) _ ls rfl B.exec B.bytes hml (findClass_of_methodNamed B.named) hts hC hJ htab ?_ ⟨hP, hD0.self, va_S.rf, hK, fun q h => Or.inr h⟩ hl
      intro H locs cells slots ls' pc z u hpost hp hdg hn hc hs
      refine W.widen hc hs ?_
      exact W.zret B.exec B.bytes B.returns hn (fun t ht hW => ⟨⟨iZ z, u, rfl, hpost, by rw [ht]; exact hp.1, va_K.moved hW.alike hp.2.2.2.1, hp.2.1⟩, hp.2.2.1.F ht⟩) hp.2.2.1.2.2 hdg B.notSynchronized
    obtain ⟨t, a1, o, b1, b2, b3⟩ := key s₁ hh0 (Stand.of_body B)
    exact ⟨t, o, a1, b1, b2, ⟨b3.1, b3.2⟩⟩
end ZLM
/-! what an unpacked stream may say -/
theorem unp_c (pb : Nat → Int) (n : Nat) : ∀ (f rd gr : Nat) (op : Nat → Int), 0 ≤ (unp pb n f rd gr op).1 ∧ (unp pb n f rd gr op).1 ≤ 4 := by
  intro f
  induction f with
  | zero => intro rd gr op; exact ⟨Int.le_refl 0, by show (0 : Int) ≤ 4; decide⟩
  | succ f ih =>
    intro rd gr op
    rw [unp]
    (repeat' split) <;> first | exact ih _ _ _ | (dsimp only; omega)
