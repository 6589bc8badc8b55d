/-! a method's entry, its end, and calls -/
def nRT : String := "java/lang/RuntimeException"
def nEX : String := "java/lang/Exception"
def nTH : String := "java/lang/Throwable"
abbrev nOB : String := "java/lang/IndexOutOfBoundsException"
abbrev nIA : String := "java/lang/IllegalArgumentException"
abbrev nNS : String := "java/util/NoSuchElementException"
abbrev nIS : String := "java/lang/IllegalStateException"
abbrev nUO : String := "java/lang/UnsupportedOperationException"
/-- the stub's row, as the tables have it -/
def stubL : List Int := [17, 0, 18, 0, 83, 1, 65, 1, 147, 50, 163, 26, 84, 1, 100, 2, 65, 1, 66, 1, 67, 255, 147, 4, 128, 12, 67, 130, 84, 1, 65, 1, 38, 2, 118, 4, 84, 6, 100, 2, 70, 1, 66, 1, 67, 255, 147, 4, 128, 36, 17, 0, 18, 0, 20, 0, 22, 0, 128, 0]
def stubZ (j : Nat) : Int := stubL.getD j 0
/-- words of the exceptions that the tables alone decide -/
def zE (U : State) : Prop := (va_Nw (.declares ⟨"java/lang/RuntimeException", "<init>", "()V"⟩) U ∧ va_Nw (.declares ⟨"java/lang/Exception", "<init>", "()V"⟩) U ∧ va_Nw (.declares ⟨"java/lang/Throwable", "<init>", "()V"⟩) U) ∧
  (∀ X ∈ [nOB, nIA, nNS, nIS, nUO], va_Nw (.castable X X) U) ∧
  (va_Nc nIA nOB U ∧ va_Nc nIS nNS U ∧ va_Nc nIA nNS U ∧ va_Nc nUO nNS U ∧ va_Nc nIA nIS U ∧ va_Nc nUO nIS U ∧ va_Nc nUO nIA U)
def zU (A : Nat → Prop) (U : State) (H : Heap) : Prop := vx_Zq Bundle.tN "UNASSIGNED_STACK" Bundle.steD A U H ∧ vx_Zq Bundle.tN "SUPPRESSED_SENTINEL" Bundle.listD A U H
def zT (t : Nat) (A : Nat → Prop) (U : State) (H : Heap) : Prop := va_Z "SelfOpener$Machine" "STUB" "[I" (.ref t) A U H ∧ va_T .int t 60 (fun j => .int (iZ (stubZ j))) A U H
/-- what the start gives beside the world: carried along -/
def zC (t : Nat) (A : Nat → Prop) (U : State) (H : Heap) : Prop := zE U ∧ zU A U H ∧ zT t A U H
section ZC
variable {t : Nat} {A B : Nat → Prop} {U s : State} {H H1 : Heap}
theorem zE.moved (hW : s.WarmedH U.vm) (h : zE s) : zE U := by
  obtain ⟨⟨h1, h2, h3⟩, h4, h5, h6, h7, h8, h9, h10, h11⟩ := h
  have al := hW.alike
  exact ⟨⟨h1.warmD hW, h2.warmD hW, h3.warmD hW⟩, fun X hX => (h4 X hX).warmC hW, h5.moved al, h6.moved al, h7.moved al, h8.moved al, h9.moved al, h10.moved al, h11.moved al⟩
theorem zE.same (hv : s.vm = U.vm) (h : zE s) : zE U := by
  obtain ⟨⟨h1, h2, h3⟩, h4, h5, h6, h7, h8, h9, h10, h11⟩ := h
  have al : s.vm.Alike U.vm := by rw [hv]; exact Vm.Alike.refl _
  exact ⟨⟨h1.same rfl hv, h2.same rfl hv, h3.same rfl hv⟩, fun X hX => (h4 X hX).same rfl hv, h5.moved al, h6.moved al, h7.moved al, h8.moved al, h9.moved al, h10.moved al, h11.moved al⟩
theorem zU.moved (hv : s.vm.Alike U.vm) (h : zU A s H) : zU A U H := ⟨vx_Zq.moved hv h.1, vx_Zq.moved hv h.2⟩
theorem zU.kept (hq : ∀ a : Nat, a < H.size → ¬ A a → H1[a]? = H[a]?) (h : zU A U H) : zU A U H1 := ⟨vx_Zq.kept h.1 hq, vx_Zq.kept h.2 hq⟩
theorem zU.narrow (hAB : ∀ q, B q → A q) (h : zU A U H) : zU B U H := ⟨vx_Zq.narrow h.1 hAB, vx_Zq.narrow h.2 hAB⟩
theorem zT.moved (hv : s.vm.Alike U.vm) (h : zT t A s H) : zT t A U H := ⟨va_Z.moved hv h.1, va_T.moved hv h.2⟩
theorem zT.kept (hq : ∀ a : Nat, a < H.size → ¬ A a → H1[a]? = H[a]?) (h : zT t A U H) : zT t A U H1 := ⟨va_Z.kept h.1 hq, va_T.kept h.2 hq⟩
theorem zT.narrow (hAB : ∀ q, B q → A q) (h : zT t A U H) : zT t B U H := ⟨va_Z.narrow h.1 hAB, va_T.narrow h.2 hAB⟩
/-- at a call: to the callee's start -/
theorem zC.go (h : zC t A s s.heap) {locs : List Loc} (hS : va_S A s.heap H locs) (hAB : ∀ q, B q → A q) (hU : U.heap = H) (hW : s.WarmedH U.vm) : zC t B U U.heap := by
  rw [hU]
  exact ⟨h.1.moved hW, ((h.2.1.kept hS.2.1).narrow hAB).moved hW.alike, ((h.2.2.kept hS.2.1).narrow hAB).moved hW.alike⟩
end ZC
def zPreC (t : Nat) (G : va_G) (cI : ClassId) (W0 : va_W) (sz : Nat) (av : List Value) : Array Value → State → Prop :=
  va_Pc av (fun U => (U.heap.size = sz ∧ va_P G vwCl W0 U.heap ∧ va_K G vwCl [(cI, .int)] U ∧ va_D (fun _ => True) W0) ∧ zC t (va_A W0 sz) U U.heap)
theorem zPre_blind {G : va_G} {cI : ClassId} {W0 : va_W} {sz : Nat} {av : List Value} : FrameBlind (zPre G cI W0 sz av) := fun _ U g mk q => by
  obtain ⟨q0, q1, qP, qK, qD⟩ := q
  exact ⟨q0, q1, qP, va_K.moved (u := U) (U := U.calling g mk _) (Vm.Alike.refl U.vm) qK, qD⟩
theorem zPreC_blind {t : Nat} {G : va_G} {cI : ClassId} {W0 : va_W} {sz : Nat} {av : List Value} : FrameBlind (zPreC t G cI W0 sz av) := fun _ U g mk q => by
  obtain ⟨q0, ⟨q1, qP, qK, qD⟩, h1, h2, h3⟩ := q
  exact ⟨q0, ⟨q1, qP, va_K.moved (u := U) (U := U.calling g mk _) (Vm.Alike.refl U.vm) qK, qD⟩, zE.same (s := U) (U := U.calling g mk _) rfl h1, h2.moved (U := U.calling g mk _) (Vm.Alike.refl U.vm), h3.moved (U := U.calling g mk _) (Vm.Alike.refl U.vm)⟩
section ZM
variable {l : Launch} {y : MethodName} {ws ws' : List Cond} {rm : Room} {cc : ByteArray} {maxL : Nat} {ty : FieldType} {G : va_G} {cI : ClassId} {W0 : va_W} {av : List Value} {sz : Nat} {S : Type} {W1 : S → va_W} {mc ms : Nat}
/-- a method that returns an int (or a boolean) -/
theorem zm_i {post : Int32 → S → Prop} (hy : plainName y.cls = true) (hw : ws = Cond.code y cc maxL (some ty) :: ws') (hlen : (lg_sl av).length ≤ maxL)
    (body : ∀ (p : Program) (e : Env) (s : State) (m : MethodId) (args : Array Value) (below : List Frame) (meth : Method) (c : Code) (A : Nat → Prop) (Q : State → Prop) (ls : Array Slot), s.heap.size = sz → p.tables.exec = Jvm.exec → c.code = cc → c.maxLocals = maxL → s.vm.findClass y.cls = some m.cls → (∀ w ∈ ws, w.before args s = true) →
      (∀ (H : Heap) (locs : List Loc) (cells slots : Nat) (ls : Array Slot) (pc : Nat) (z : Int) (u : S), post (iZ z) u → Hp G cI A s H locs (W1 u) → decode cc pc = .ok (.ireturn, 1) → narrow ty (.int (iZ z)) = .int (iZ z) → cells ≤ mc → slots ≤ ms → W p l e rm s m args below meth c H locs cells slots Q (F0 m pc ls [.int (iZ z)])) →
      Hp G cI A s s.heap [] W0 → lv_has ls maxL (lv_args 0 av) → W p l e rm s m args below meth c s.heap [] 0 0 Q (F0 m 0 ls [])) :
    Met l y ws rm (zPre G cI W0 sz av) (va_Qi post (fun u t => zB G cI (va_A W0 sz) (W1 u) t) (va_A W0 sz)) mc ms (va_A W0 sz) := by
  refine Met.ofW (cc := cc) (maxL := maxL) (ret := some ty) hy hw ?_
  intro p e s m args below meth c s₁ B hml hv
  obtain ⟨rfl, hsz, hP, hK, hD0⟩ := hv
  subst hsz
  have hl := lv_entry av (n := maxL) hlen
  rw [lg_entry_eq]
  generalize (lg_sl av ++ List.replicate (maxL - (lg_sl av).length) Slot.unset).toArray = ls at hl ⊢
  refine body p e s m _ below meth c (va_A W0 s.heap.size) _ ls rfl B.exec B.bytes hml (findClass_of_methodNamed B.named) (atoms_spec (ws := ws) B.pre) ?_ ⟨hP, hD0.self, va_S.rf, hK, fun q h => Or.inr h⟩ hl
  intro H locs cells slots ls' pc z u hpost hp hdg hn hc hs
  refine W.widen hc hs ?_
  exact W.zret B.exec B.bytes B.returns hn (fun t ht hW => ⟨⟨iZ z, u, rfl, hpost, by rw [ht]; exact hp.1, va_K.moved hW.alike hp.2.2.2.1, hp.2.1⟩, hp.2.2.1.F ht⟩) hp.2.2.1.2.2 hdg B.notSynchronized
theorem zm_v {post : S → Prop} (hy : plainName y.cls = true) (hw : ws = Cond.code y cc maxL none :: ws') (hlen : (lg_sl av).length ≤ maxL)
    (body : ∀ (p : Program) (e : Env) (s : State) (m : MethodId) (args : Array Value) (below : List Frame) (meth : Method) (c : Code) (A : Nat → Prop) (Q : State → Prop) (ls : Array Slot), s.heap.size = sz → p.tables.exec = Jvm.exec → c.code = cc → c.maxLocals = maxL → s.vm.findClass y.cls = some m.cls → (∀ w ∈ ws, w.before args s = true) → meth.name = y.name →
      (∀ (H : Heap) (locs : List Loc) (cells slots : Nat) (ls : Array Slot) (pc : Nat) (u : S), post u → Hp G cI A s H locs (W1 u) → decode cc pc = .ok (.return_, 1) → cells ≤ mc → slots ≤ ms → W p l e rm s m args below meth c H locs cells slots Q (F0 m pc ls [])) →
      Hp G cI A s s.heap [] W0 → lv_has ls maxL (lv_args 0 av) → W p l e rm s m args below meth c s.heap [] 0 0 Q (F0 m 0 ls [])) :
    Met l y ws rm (zPre G cI W0 sz av) (va_Qv post (fun u t => zB G cI (va_A W0 sz) (W1 u) t) (va_A W0 sz)) mc ms (va_A W0 sz) := by
  refine Met.ofW (cc := cc) (maxL := maxL) (ret := none) hy hw ?_
  intro p e s m args below meth c s₁ B hml hv
  obtain ⟨rfl, hsz, hP, hK, hD0⟩ := hv
  subst hsz
  have hl := lv_entry av (n := maxL) hlen
  rw [lg_entry_eq]
  generalize (lg_sl av ++ List.replicate (maxL - (lg_sl av).length) Slot.unset).toArray = ls at hl ⊢
  refine body p e s m _ below meth c (va_A W0 s.heap.size) _ ls rfl B.exec B.bytes hml (findClass_of_methodNamed B.named) (atoms_spec (ws := ws) B.pre) (name_of_methodNamed B.named B.method).1 ?_ ⟨hP, hD0.self, va_S.rf, hK, fun q h => Or.inr h⟩ hl
  intro H locs cells slots ls' pc u hpost hp hdg hc hs
  refine W.widen hc hs ?_
  exact W.vret B.exec B.bytes B.returns (fun t ht hW => ⟨⟨u, rfl, hpost, by rw [ht]; exact hp.1, va_K.moved hW.alike hp.2.2.2.1, hp.2.1⟩, hp.2.2.1.F ht⟩) hp.2.2.1.2.2 hdg B.notSynchronized
/-- the same, with what the start gives -/
theorem zm_cv {t : Nat} {post : S → Prop} (hy : plainName y.cls = true) (hw : ws = Cond.code y cc maxL none :: ws') (hlen : (lg_sl av).length ≤ maxL)
    (body : ∀ (p : Program) (e : Env) (s : State) (m : MethodId) (args : Array Value) (below : List Frame) (meth : Method) (c : Code) (A : Nat → Prop) (Q : State → Prop) (ls : Array Slot), s.heap.size = sz → p.tables.exec = Jvm.exec → c.code = cc → c.maxLocals = maxL → s.vm.findClass y.cls = some m.cls → (∀ w ∈ ws, w.before args s = true) → zC t A s s.heap →
      (∀ (H : Heap) (locs : List Loc) (cells slots : Nat) (ls : Array Slot) (pc : Nat) (u : S), post u → Hp G cI A s H locs (W1 u) → decode cc pc = .ok (.return_, 1) → cells ≤ mc → slots ≤ ms → W p l e rm s m args below meth c H locs cells slots Q (F0 m pc ls [])) →
      Hp G cI A s s.heap [] W0 → lv_has ls maxL (lv_args 0 av) → W p l e rm s m args below meth c s.heap [] 0 0 Q (F0 m 0 ls [])) :
    Met l y ws rm (zPreC t G cI W0 sz av) (va_Qv post (fun u t => zB G cI (va_A W0 sz) (W1 u) t) (va_A W0 sz)) mc ms (va_A W0 sz) := by
  refine Met.ofW (cc := cc) (maxL := maxL) (ret := none) hy hw ?_
  intro p e s m args below meth c s₁ B hml hv
  obtain ⟨rfl, ⟨hsz, hP, hK, hD0⟩, hC⟩ := hv
  subst hsz
  have hl := lv_entry av (n := maxL) hlen
  rw [lg_entry_eq]
  generalize (lg_sl av ++ List.replicate (maxL - (lg_sl av).length) Slot.unset).toArray = ls at hl ⊢
  refine body p e s m _ below meth c (va_A W0 s.heap.size) _ ls rfl B.exec B.bytes hml (findClass_of_methodNamed B.named) (atoms_spec (ws := ws) B.pre) hC ?_ ⟨hP, hD0.self, va_S.rf, hK, fun q h => Or.inr h⟩ hl
  intro H locs cells slots ls' pc u hpost hp hdg hc hs
  refine W.widen hc hs ?_
  exact W.vret B.exec B.bytes B.returns (fun t ht hW => ⟨⟨u, rfl, hpost, by rw [ht]; exact hp.1, va_K.moved hW.alike hp.2.2.2.1, hp.2.1⟩, hp.2.2.1.F ht⟩) hp.2.2.1.2.2 hdg B.notSynchronized
/-- a throw of 'new X()', for a method without a table -/
abbrev zThr (l : Launch) (p : Program) (e : Env) (rm : Room) (s : State) (m : MethodId) (args : Array Value) (below : List Frame) (meth : Method) (c : Code) (Q : State → Prop) (G : va_G) (cI : ClassId) (A : Nat → Prop) (own : String) (cc : ByteArray) (maxL mc ms : Nat) {SX : Type} (px : String → SX → Prop) (WX : SX → va_W) : Prop :=
  ∀ (H : Heap) (locs : List Loc) (cells slots : Nat) (ls : Array Slot) (pc : Nat) (rest : List Value) (X : String) (ik ic : Nat) (u : SX), px X u → Hp G cI A s H locs (WX u) → ls.size = maxL → X ∈ [nOB, nIA, nNS, nIS, nUO] →
    (Cond.classLink own ik X).before args s = true → (Cond.initialized X).before args s = true → (∀ w ∈ (vx_at0 own ic X ["java/lang/RuntimeException", "java/lang/Exception"]).filter goodWord, w.before args s = true) →
    (∀ w ∈ (vx_at0 own ic X ["java/lang/RuntimeException", "java/lang/Exception"]).filter (fun w => !goodWord w), w ∈ [Cond.declares ⟨"java/lang/RuntimeException", "<init>", "()V"⟩, .declares ⟨"java/lang/Exception", "<init>", "()V"⟩, .declares ⟨"java/lang/Throwable", "<init>", "()V"⟩, .castable X X]) →
    (∀ w ∈ Cond.classLink own ik X :: Cond.initialized X :: vx_at0 own ic X ["java/lang/RuntimeException", "java/lang/Exception"], vx_ot w = true) →
    decode cc pc = .ok (.new ik, 3) → decode cc (pc + 3) = .ok (.dup, 1) → decode cc (pc + 4) = .ok (.invokespecial ic, 3) → decode cc (pc + 7) = .ok (.athrow, 1) →
    (rest.map fun v => v.category).sum ≤ 8 → 5 < rm.frames → 89 ≤ rm.locals → cells + 1 ≤ mc → slots + 6 ≤ ms → W p l e rm s m args below meth c H locs cells slots Q (F0 m pc ls rest)
/-- what a callee threw goes on -/
abbrev zOut (l : Launch) (p : Program) (e : Env) (rm : Room) (s : State) (m : MethodId) (args : Array Value) (below : List Frame) (meth : Method) (c : Code) (Q : State → Prop) (G : va_G) (cI : ClassId) (A : Nat → Prop) (mc ms : Nat) {SX : Type} (px : String → SX → Prop) (WX : SX → va_W) : Prop :=
  ∀ (H : Heap) (locs : List Loc) (cells slots : Nat) (ls : Array Slot) (pc : Nat) (rest : List Value) (X : String) (ce : Cell) (q : Addr) (u : SX), px X u → Hp G cI A s H locs (WX u) → H[q]? = some ce → ce.vm = .none → s.vm.findClass X = some ce.cls → cells ≤ mc → slots ≤ ms → vx_W p l e rm s m args below meth c H locs cells slots Q (F0 m pc ls rest) q
theorem z_thr {p : Program} {e : Env} {s : State} {m : MethodId} {args : Array Value} {below : List Frame} {meth : Method} {c : Code} {A : Nat → Prop} {own : String} {t : Nat} {Qc : Array Value → State → Outcome → State → Prop} {SX : Type} {px : String → SX → Prop} {WX : SX → va_W}
    (hx : p.tables.exec = Jvm.exec) (hb : c.code = cc) (hml : c.maxLocals = maxL) (hst : l.stackTraces = false) (hown : s.vm.findClass own = some m.cls) (hout : ∀ x ∈ c.exceptionTable.toList, False) (hlocks : meth.locks = false) (hC : zC t A s s.heap) (hrc : rm.cells = mc) (hrs : rm.slots = ms) :
    zThr l p e rm s m args below meth c (vx_MQ below Qc (vx_X (fun _ => True) (fun X (u : SX) t => px X u ∧ zB G cI A (WX u) t) A) args s mc ms A) G cI A own cc maxL mc ms px WX := by
  intro H locs cells slots ls pc rest X ik ic u hpx hp hls hX hk hini hg hng hot d0 d3 d4 d7 hr hRf hRl hc hs
  have hfit : Bundle.fit X = true := by
    simp only [List.mem_cons, List.not_mem_nil, or_false] at hX
    rcases hX with rfl | rfl | rfl | rfl | rfl <;> decide +kernel
  have hat : ∀ w ∈ vx_at0 own ic X ["java/lang/RuntimeException", "java/lang/Exception"], w.before args s = true :=
    vx_hat hg hng (vx_c (hC.1.1.1.use rfl) (vx_c (hC.1.1.2.1.use rfl) (vx_c (hC.1.1.2.2.use rfl) (vx_c ((hC.1.2.1 X hX).use rfl) vx_n))))
  refine vx_throw0 (names := ["java/lang/RuntimeException", "java/lang/Exception"]) (A := A) hx hb hst hown hfit (by decide +kernel) hk hini hat hot hC.2.1.1 hC.2.1.2 hp.2.2.1 (by rw [hls, hml]) d0 d3 d4 d7 (fun x h => (hout x h).elim) ?_ ?_ ?_ ?_ hlocks ?_ hp.2.2.1.2.2 hc hs
  · show 5 < rm.frames
    exact hRf
  · show _ + (13 * 3 + 42) ≤ rm.locals
    omega
  · rw [hrc]; exact hc
  · rw [hrs]; exact hs
  · intro t' hal h1 h2
    refine ⟨u, trivial, ⟨hpx, hp.1.kept (fun k q hk => h2 q.1 (hp.1 k q hk).lt), va_K.moved hal hp.2.2.2.1, hp.2.1⟩, ?_, ?_⟩
    · exact Nat.le_trans hp.2.2.1.1 h1
    · intro q g1 g2
      rw [h2 q (Nat.lt_of_lt_of_le g1 hp.2.2.1.1)]
      exact hp.2.2.1.2.1 q g1 g2
theorem z_out {p : Program} {e : Env} {s : State} {m : MethodId} {args : Array Value} {below : List Frame} {meth : Method} {c : Code} {A : Nat → Prop} {Qc : Array Value → State → Outcome → State → Prop} {SX : Type} {px : String → SX → Prop} {WX : SX → va_W}
    (hout : ∀ x ∈ c.exceptionTable.toList, False) (hlocks : meth.locks = false) :
    zOut l p e rm s m args below meth c (vx_MQ below Qc (vx_X (fun _ => True) (fun X (u : SX) t => px X u ∧ zB G cI A (WX u) t) A) args s mc ms A) G cI A mc ms px WX := by
  intro H locs cells slots ls pc rest X ce q u hpx hp hce hcv hcl hc hs
  exact vx_out (fun x h => (hout x h).elim) hlocks hce hcv hcl (fun t' ht hal => ⟨u, trivial, ⟨hpx, by rw [ht]; exact hp.1, va_K.moved hal hp.2.2.2.1, hp.2.1⟩, hp.2.2.1.F ht⟩) hp.2.2.1.2.2 hc hs
/-- a method without a table, that returns an int or throws -/
theorem zm_xi {t : Nat} {post : Int32 → S → Prop} {SX : Type} {px : String → SX → Prop} {WX : SX → va_W} (hst : l.stackTraces = false) (hrc : rm.cells = mc) (hrs : rm.slots = ms) (hy : plainName y.cls = true) (hw : ws = Cond.code y cc maxL (some ty) :: ws') (hlen : (lg_sl av).length ≤ maxL)
    (body : ∀ (p : Program) (e : Env) (s : State) (m : MethodId) (args : Array Value) (below : List Frame) (meth : Method) (c : Code) (A : Nat → Prop) (Q : State → Prop) (ls : Array Slot), s.heap.size = sz → p.tables.exec = Jvm.exec → c.code = cc → c.maxLocals = maxL → s.vm.findClass y.cls = some m.cls → (∀ w ∈ ws, w.before args s = true) → zC t A s s.heap →
      (∀ (H : Heap) (locs : List Loc) (cells slots : Nat) (ls : Array Slot) (pc : Nat) (z : Int) (u : S), post (iZ z) u → Hp G cI A s H locs (W1 u) → decode cc pc = .ok (.ireturn, 1) → narrow ty (.int (iZ z)) = .int (iZ z) → cells ≤ mc → slots ≤ ms → W p l e rm s m args below meth c H locs cells slots Q (F0 m pc ls [.int (iZ z)])) →
      zThr l p e rm s m args below meth c Q G cI A y.cls cc maxL mc ms px WX → zOut l p e rm s m args below meth c Q G cI A mc ms px WX →
      Hp G cI A s s.heap [] W0 → lv_has ls maxL (lv_args 0 av) → W p l e rm s m args below meth c s.heap [] 0 0 Q (F0 m 0 ls [])) :
    vx_Met l y ws rm (zPreC t G cI W0 sz av) (va_Qi post (fun u t => zB G cI (va_A W0 sz) (W1 u) t) (va_A W0 sz)) (vx_X (fun _ => True) (fun X (u : SX) t => px X u ∧ zB G cI (va_A W0 sz) (WX u) t) (va_A W0 sz)) mc ms (va_A W0 sz) := by
  refine vx_ofW (cc := cc) (maxL := maxL) (ret := some ty) hy hw ?_
  intro p e s m args below meth c s₁ B hml hout hv
  obtain ⟨rfl, ⟨hsz, hP, hK, hD0⟩, hC⟩ := hv
  subst hsz
  have hl := lv_entry av (n := maxL) hlen
  rw [lg_entry_eq]
  generalize (lg_sl av ++ List.replicate (maxL - (lg_sl av).length) Slot.unset).toArray = ls at hl ⊢
  refine body p e s m _ below meth c (va_A W0 s.heap.size) _ ls rfl B.exec B.bytes hml (findClass_of_methodNamed B.named) (atoms_spec (ws := ws) B.pre) hC ?_ (z_thr B.exec B.bytes hml hst (findClass_of_methodNamed B.named) hout B.notSynchronized hC hrc hrs) (z_out hout B.notSynchronized) ⟨hP, hD0.self, va_S.rf, hK, fun q h => Or.inr h⟩ hl
  intro H locs cells slots ls' pc z u hpost hp hdg hn hc hs
  refine vx_ret (W.widen hc hs ?_)
  exact W.zret B.exec B.bytes B.returns hn (fun t ht hW => ⟨⟨iZ z, u, rfl, hpost, by rw [ht]; exact hp.1, va_K.moved hW.alike hp.2.2.2.1, hp.2.1⟩, hp.2.2.1.F ht⟩) hp.2.2.1.2.2 hdg B.notSynchronized
theorem zm_xv {t : Nat} {post : S → Prop} {SX : Type} {px : String → SX → Prop} {WX : SX → va_W} (hst : l.stackTraces = false) (hrc : rm.cells = mc) (hrs : rm.slots = ms) (hy : plainName y.cls = true) (hw : ws = Cond.code y cc maxL none :: ws') (hlen : (lg_sl av).length ≤ maxL)
    (body : ∀ (p : Program) (e : Env) (s : State) (m : MethodId) (args : Array Value) (below : List Frame) (meth : Method) (c : Code) (A : Nat → Prop) (Q : State → Prop) (ls : Array Slot), s.heap.size = sz → p.tables.exec = Jvm.exec → c.code = cc → c.maxLocals = maxL → s.vm.findClass y.cls = some m.cls → (∀ w ∈ ws, w.before args s = true) → zC t A s s.heap →
      (∀ (H : Heap) (locs : List Loc) (cells slots : Nat) (ls : Array Slot) (pc : Nat) (u : S), post u → Hp G cI A s H locs (W1 u) → decode cc pc = .ok (.return_, 1) → cells ≤ mc → slots ≤ ms → W p l e rm s m args below meth c H locs cells slots Q (F0 m pc ls [])) →
      zThr l p e rm s m args below meth c Q G cI A y.cls cc maxL mc ms px WX → zOut l p e rm s m args below meth c Q G cI A mc ms px WX →
      Hp G cI A s s.heap [] W0 → lv_has ls maxL (lv_args 0 av) → W p l e rm s m args below meth c s.heap [] 0 0 Q (F0 m 0 ls [])) :
    vx_Met l y ws rm (zPreC t G cI W0 sz av) (va_Qv post (fun u t => zB G cI (va_A W0 sz) (W1 u) t) (va_A W0 sz)) (vx_X (fun _ => True) (fun X (u : SX) t => px X u ∧ zB G cI (va_A W0 sz) (WX u) t) (va_A W0 sz)) mc ms (va_A W0 sz) := by
  refine vx_ofW (cc := cc) (maxL := maxL) (ret := none) hy hw ?_
  intro p e s m args below meth c s₁ B hml hout hv
  obtain ⟨rfl, ⟨hsz, hP, hK, hD0⟩, hC⟩ := hv
  subst hsz
  have hl := lv_entry av (n := maxL) hlen
  rw [lg_entry_eq]
  generalize (lg_sl av ++ List.replicate (maxL - (lg_sl av).length) Slot.unset).toArray = ls at hl ⊢
  refine body p e s m _ below meth c (va_A W0 s.heap.size) _ ls rfl B.exec B.bytes hml (findClass_of_methodNamed B.named) (atoms_spec (ws := ws) B.pre) hC ?_ (z_thr B.exec B.bytes hml hst (findClass_of_methodNamed B.named) hout B.notSynchronized hC hrc hrs) (z_out hout B.notSynchronized) ⟨hP, hD0.self, va_S.rf, hK, fun q h => Or.inr h⟩ hl
  intro H locs cells slots ls' pc u hpost hp hdg hc hs
  refine vx_ret (W.widen hc hs ?_)
  exact W.vret B.exec B.bytes B.returns (fun t ht hW => ⟨⟨u, rfl, hpost, by rw [ht]; exact hp.1, va_K.moved hW.alike hp.2.2.2.1, hp.2.1⟩, hp.2.2.1.F ht⟩) hp.2.2.1.2.2 hdg B.notSynchronized
end ZM
section ZK
variable {p : Program} {l : Launch} {e : Env} {R : Room} {s : State} {m : MethodId} {args : Array Value} {below : List Frame} {meth : Method} {c : Code} {H : Heap} {locs : List Loc} {cells slots : Nat} {Q : State → Prop}
variable {cc : ByteArray} {own : String} {Ts : List Cond} {pc : Nat} {ls : Array Slot} {st0 rest As : List Value} {G : va_G} {cI : ClassId} {A : Nat → Prop} {wl W0 wr : va_W}
theorem z_fm {α : Type} {ws ws' : List α} {is : List Nat} (h : is.map (fun i => ws[i]?) = ws'.map some) : is.filterMap (fun i => ws[i]?) = ws' := by
  have e : is.filterMap (fun i => ws[i]?) = (is.map (fun i => ws[i]?)).filterMap id := by
    rw [List.filterMap_map]; rfl
  rw [e, h, List.filterMap_map]
  simp
theorem z_pre (hp : Hp G cI A s H locs wl) (isC : List Nat) (hC : isC.map (fun i => wl[i]?) = W0.map some) (hn : va_nd isC = true) (av : List Value) : ∀ U : State, U.heap = H → s.WarmedH U.vm → zPre G cI W0 H.size av av.toArray U := fun U hU hW =>
  ⟨rfl, by rw [hU], by rw [hU]; exact hp.1.sub isC (z_fm hC), va_K.moved hW.alike hp.2.2.2.1, (hp.2.1.sub isC hn hC).weaken (fun _ _ _ _ => trivial)⟩
theorem z_preC {t : Nat} (hC0 : zC t A s s.heap) (hp : Hp G cI A s H locs wl) (isC : List Nat) (hC : isC.map (fun i => wl[i]?) = W0.map some) (hn : va_nd isC = true) (av : List Value) : ∀ U : State, U.heap = H → s.WarmedH U.vm → zPreC t G cI W0 H.size av av.toArray U := fun U hU hW =>
  ⟨rfl, ⟨by rw [hU], by rw [hU]; exact hp.1.sub isC (z_fm hC), va_K.moved hW.alike hp.2.2.2.1, (hp.2.1.sub isC hn hC).weaken (fun _ _ _ _ => trivial)⟩, hC0.go hp.2.2.1 (va_free hp.2.1 hp.2.2.1 hp.2.2.2.2 isC hC) hU hW⟩
theorem z_after {W1 wl2 : va_W} {t : State} {H1 : Heap} {locs1 : List Loc} (hp : Hp G cI A s H locs wl) (isC isR ord : List Nat) (hC : isC.map (fun i => wl[i]?) = W0.map some) (hR : isR.map (fun i => wl[i]?) = wr.map some) (hk : va_nd isR = true ∧ (∀ i ∈ isR, i ∉ isC) ∧ va_nd ord = true) (hord : ord.map (fun i => (wr ++ W1)[i]?) = wl2.map some)
    (hB : zB G cI (va_A W0 H.size) W1 t) (ht : t.heap = H1) (hk1 : ∀ q : Nat, q < H.size → ¬ va_A W0 H.size q → H1[q]? = H[q]?) (hS : va_S A s.heap H1 locs1) : Hp G cI A s H1 locs1 wl2 := by
  obtain ⟨hP, hD⟩ := va_join (wr := wr) (w1 := W1) hp.1 hp.2.1 isC isR hC hR hk.1 hk.2.1 hk1 (va_free hp.2.1 hp.2.2.1 hp.2.2.2.2 isC hC) (by rw [← ht]; exact hB.1) hB.2.2
  exact ⟨hP.sub ord (z_fm hord), hD.sub ord hk.2.2 hord, hS, hp.2.2.2.1, hp.2.2.2.2⟩
variable {y : MethodName} {bytes : ByteArray} {maxL mc ms n index nL : Nat} {ret : Option FieldType} {wsY : List Cond} {rmY : Room} {C : String} {b : Addr} {Pc : Array Value → State → Prop} {S SX : Type} {W1 wl2 : S → va_W} {WX wlX : SX → va_W}
/-- virtual calls -/
theorem zc_i {post : Int32 → S → Prop} (hx : p.tables.exec = Jvm.exec) (hb : c.code = cc) (hml : c.maxLocals = nL) (hown : s.vm.findClass own = some m.cls) (hts : ∀ w ∈ Ts, w.before args s = true) (hp : Hp G cI A s H locs wl)
    (hM : Met l y wsY rmY Pc (va_Qi post (fun u t => zB G cI (va_A W0 H.size) (W1 u) t) (va_A W0 H.size)) mc ms (va_A W0 H.size)) (hbl : FrameBlind Pc) (hpre : ∀ U : State, U.heap = H → s.WarmedH U.vm → Pc (Value.ref b :: As).toArray U)
    (cw : CallW R s args own C index y bytes maxL ret wsY rmY mc ms n) (isC isR ord : List Nat) (hC : isC.map (fun i => wl[i]?) = W0.map some) (hR : isR.map (fun i => wl[i]?) = wr.map some) (hk : va_nd isR = true ∧ (∀ i ∈ isR, i ∉ isC) ∧ va_nd ord = true) (hord : ∀ u : S, ord.map (fun i => (wr ++ W1 u)[i]?) = (wl2 u).map some)
    (q0 ci : Nat) {q : vw_C} {fs : List Value} (hc : vwCl[ci]? = some q) (he : wl[q0]? = some (b, .inr (ci, fs))) (hqC : q.1 = C) (hn : As.length = n) (hls : ls.size = nL) (hst : st0 = As.reverse ++ .ref b :: rest) (hW : (rest.map fun v => v.category).sum ≤ 8) (hdg : decode cc pc = .ok (.invokevirtual index, 3)) (hf : cells + mc ≤ R.cells ∧ slots + ms ≤ R.slots)
    (kk : ∀ (r : Int32) (u : S) (H1 : Heap) (locs1 : List Loc), post r u → Hp G cI A s H1 locs1 (wl2 u) → W p l e R s m args below meth c H1 locs1 (cells + mc) (slots + ms) Q (F0 m (pc + 3) ls (.int r :: rest))) : W p l e R s m args below meth c H locs cells slots Q (F0 m pc ls st0) := by
  subst hqC
  have hFc := va_free hp.2.1 hp.2.2.1 hp.2.2.2.2 isC hC
  refine va_calli (va_runV (As := As) (rest := rest) ⟨hx, hb, hml, hown, hts⟩ hM cw ⟨hbl, va_recv hp.2.2.2.1 hp.1 hc he, hpre⟩ rfl hn hls hst (lv_room hW) hdg hf) hp.2.2.1 (fun q _ h => hFc q h) hFc (fun r u t H1 locs1 ht hvm hw hB hz1 hk1 hS => kk r u H1 locs1 hw (z_after hp isC isR ord hC hR hk (hord u) hB ht hk1 hS))
theorem zc_v {post : S → Prop} (hx : p.tables.exec = Jvm.exec) (hb : c.code = cc) (hml : c.maxLocals = nL) (hown : s.vm.findClass own = some m.cls) (hts : ∀ w ∈ Ts, w.before args s = true) (hp : Hp G cI A s H locs wl)
    (hM : Met l y wsY rmY Pc (va_Qv post (fun u t => zB G cI (va_A W0 H.size) (W1 u) t) (va_A W0 H.size)) mc ms (va_A W0 H.size)) (hbl : FrameBlind Pc) (hpre : ∀ U : State, U.heap = H → s.WarmedH U.vm → Pc (Value.ref b :: As).toArray U)
    (cw : CallW R s args own C index y bytes maxL ret wsY rmY mc ms n) (isC isR ord : List Nat) (hC : isC.map (fun i => wl[i]?) = W0.map some) (hR : isR.map (fun i => wl[i]?) = wr.map some) (hk : va_nd isR = true ∧ (∀ i ∈ isR, i ∉ isC) ∧ va_nd ord = true) (hord : ∀ u : S, ord.map (fun i => (wr ++ W1 u)[i]?) = (wl2 u).map some)
    (q0 ci : Nat) {q : vw_C} {fs : List Value} (hc : vwCl[ci]? = some q) (he : wl[q0]? = some (b, .inr (ci, fs))) (hqC : q.1 = C) (hn : As.length = n) (hls : ls.size = nL) (hst : st0 = As.reverse ++ .ref b :: rest) (hW : (rest.map fun v => v.category).sum ≤ 8) (hdg : decode cc pc = .ok (.invokevirtual index, 3)) (hf : cells + mc ≤ R.cells ∧ slots + ms ≤ R.slots)
    (kk : ∀ (u : S) (H1 : Heap) (locs1 : List Loc), post u → Hp G cI A s H1 locs1 (wl2 u) → W p l e R s m args below meth c H1 locs1 (cells + mc) (slots + ms) Q (F0 m (pc + 3) ls rest)) : W p l e R s m args below meth c H locs cells slots Q (F0 m pc ls st0) := by
  subst hqC
  have hFc := va_free hp.2.1 hp.2.2.1 hp.2.2.2.2 isC hC
  refine va_callv (va_runV (As := As) (rest := rest) ⟨hx, hb, hml, hown, hts⟩ hM cw ⟨hbl, va_recv hp.2.2.2.1 hp.1 hc he, hpre⟩ rfl hn hls hst (lv_room hW) hdg hf) hp.2.2.1 (fun q _ h => hFc q h) hFc (fun u t H1 locs1 ht hvm hw hB hz1 hk1 hS => kk u H1 locs1 hw (z_after hp isC isR ord hC hR hk (hord u) hB ht hk1 hS))
/-- a static call that returns an int -/
theorem zs_i {post : Int32 → S → Prop} (hx : p.tables.exec = Jvm.exec) (hb : c.code = cc) (hml : c.maxLocals = nL) (hown : s.vm.findClass own = some m.cls) (hts : ∀ w ∈ Ts, w.before args s = true) (hp : Hp G cI A s H locs wl)
    (hM : Met l y wsY rmY Pc (va_Qi post (fun u t => zB G cI (va_A W0 H.size) (W1 u) t) (va_A W0 H.size)) mc ms (va_A W0 H.size)) (hbl : FrameBlind Pc) (hpre : ∀ U : State, U.heap = H → s.WarmedH U.vm → Pc As.toArray U)
    (cw : CallB R s args own index y bytes maxL ret wsY rmY mc ms n ∧ (Cond.static y).before args s = true) (isC isR ord : List Nat) (hC : isC.map (fun i => wl[i]?) = W0.map some) (hR : isR.map (fun i => wl[i]?) = wr.map some) (hk : va_nd isR = true ∧ (∀ i ∈ isR, i ∉ isC) ∧ va_nd ord = true) (hord : ∀ u : S, ord.map (fun i => (wr ++ W1 u)[i]?) = (wl2 u).map some)
    (hn : As.length = n) (hls : ls.size = nL) (hst : st0 = As.reverse ++ rest) (hW : (rest.map fun v => v.category).sum ≤ 8) (hdg : decode cc pc = .ok (.invokestatic index, 3)) (hf : cells + mc ≤ R.cells ∧ slots + ms ≤ R.slots)
    (kk : ∀ (r : Int32) (u : S) (H1 : Heap) (locs1 : List Loc), post r u → Hp G cI A s H1 locs1 (wl2 u) → W p l e R s m args below meth c H1 locs1 (cells + mc) (slots + ms) Q (F0 m (pc + 3) ls (.int r :: rest))) : W p l e R s m args below meth c H locs cells slots Q (F0 m pc ls st0) := by
  have hFc := va_free hp.2.1 hp.2.2.1 hp.2.2.2.2 isC hC
  refine va_calli (va_runS (As := As) (rest := rest) ⟨hx, hb, hml, hown, hts⟩ hM cw ⟨hbl, hpre⟩ rfl hn hls hst (lv_room hW) hdg hf) hp.2.2.1 (fun q _ h => hFc q h) hFc (fun r u t H1 locs1 ht hvm hw hB hz1 hk1 hS => kk r u H1 locs1 hw (z_after hp isC isR ord hC hR hk (hord u) hB ht hk1 hS))
/-- a static call of a method with a table -/
theorem zt_i {hh : List (Nat × Nat × Nat × Nat)} {post : Int32 → S → Prop} (hx : p.tables.exec = Jvm.exec) (hb : c.code = cc) (hml : c.maxLocals = nL) (hown : s.vm.findClass own = some m.cls) (hts : ∀ w ∈ Ts, w.before args s = true) (hp : Hp G cI A s H locs wl)
    (hM : Met l y wsY rmY Pc (va_Qi post (fun u t => zB G cI (va_A W0 H.size) (W1 u) t) (va_A W0 H.size)) mc ms (va_A W0 H.size)) (hbl : FrameBlind Pc) (hpre : ∀ U : State, U.heap = H → s.WarmedH U.vm → Pc As.toArray U)
    (cw : vx_CSW R s args own index y bytes maxL ret hh wsY rmY mc ms n) (isC isR ord : List Nat) (hC : isC.map (fun i => wl[i]?) = W0.map some) (hR : isR.map (fun i => wl[i]?) = wr.map some) (hk : va_nd isR = true ∧ (∀ i ∈ isR, i ∉ isC) ∧ va_nd ord = true) (hord : ∀ u : S, ord.map (fun i => (wr ++ W1 u)[i]?) = (wl2 u).map some)
    (hn : As.length = n) (hls : ls.size = nL) (hst : st0 = As.reverse ++ rest) (hW : (rest.map fun v => v.category).sum ≤ 8) (hdg : decode cc pc = .ok (.invokestatic index, 3)) (hf : cells + mc ≤ R.cells ∧ slots + ms ≤ R.slots)
    (kk : ∀ (r : Int32) (u : S) (H1 : Heap) (locs1 : List Loc), post r u → Hp G cI A s H1 locs1 (wl2 u) → W p l e R s m args below meth c H1 locs1 (cells + mc) (slots + ms) Q (F0 m (pc + 3) ls (.int r :: rest))) : W p l e R s m args below meth c H locs cells slots Q (F0 m pc ls st0) := by
  have hFc := va_free hp.2.1 hp.2.2.1 hp.2.2.2.2 isC hC
  refine va_calli (vx_runSW (As := As) (rest := rest) ⟨hx, hb, hml, hown, hts⟩ hM cw ⟨hbl, hpre⟩ rfl hn hls hst (lv_room hW) hdg hf) hp.2.2.1 (fun q _ h => hFc q h) hFc (fun r u t H1 locs1 ht hvm hw hB hz1 hk1 hS => kk r u H1 locs1 hw (z_after hp isC isR ord hC hR hk (hord u) hB ht hk1 hS))
/-- a constructor -/
theorem zn_v {post : S → Prop} (hx : p.tables.exec = Jvm.exec) (hb : c.code = cc) (hml : c.maxLocals = nL) (hown : s.vm.findClass own = some m.cls) (hts : ∀ w ∈ Ts, w.before args s = true) (hp : Hp G cI A s H locs wl)
    (hM : Met l y wsY rmY Pc (va_Qv post (fun u t => zB G cI (va_A W0 H.size) (W1 u) t) (va_A W0 H.size)) mc ms (va_A W0 H.size)) (hbl : FrameBlind Pc) (hpre : ∀ U : State, U.heap = H → s.WarmedH U.vm → Pc (Value.ref b :: As).toArray U)
    (cw : CallB R s args own index y bytes maxL none wsY rmY mc ms n ∧ y.name = "<init>" ∧ (Cond.instanceMethod y).before args s = true) (isC isR ord : List Nat) (hC : isC.map (fun i => wl[i]?) = W0.map some) (hR : isR.map (fun i => wl[i]?) = wr.map some) (hk : va_nd isR = true ∧ (∀ i ∈ isR, i ∉ isC) ∧ va_nd ord = true) (hord : ∀ u : S, ord.map (fun i => (wr ++ W1 u)[i]?) = (wl2 u).map some)
    (hn : As.length = n) (hls : ls.size = nL) (hst : st0 = As.reverse ++ .ref b :: rest) (hW : (rest.map fun v => v.category).sum ≤ 8) (hdg : decode cc pc = .ok (.invokespecial index, 3)) (hf : cells + mc ≤ R.cells ∧ slots + ms ≤ R.slots)
    (kk : ∀ (u : S) (H1 : Heap) (locs1 : List Loc), post u → Hp G cI A s H1 locs1 (wl2 u) → W p l e R s m args below meth c H1 locs1 (cells + mc) (slots + ms) Q (F0 m (pc + 3) ls rest)) : W p l e R s m args below meth c H locs cells slots Q (F0 m pc ls st0) := by
  have hFc := va_free hp.2.1 hp.2.2.1 hp.2.2.2.2 isC hC
  refine va_callv (va_runI (As := As) (rest := rest) ⟨hx, hb, hml, hown, hts⟩ hM cw ⟨hbl, hpre⟩ rfl hn hls hst (lv_room hW) hdg hf) hp.2.2.1 (fun q _ h => hFc q h) hFc (fun u t H1 locs1 ht hvm hw hB hz1 hk1 hS => kk u H1 locs1 hw (z_after hp isC isR ord hC hR hk (hord u) hB ht hk1 hS))
/-- virtual calls that may throw -/
theorem zx_i {post : Int32 → S → Prop} {px : String → SX → Prop} (hx : p.tables.exec = Jvm.exec) (hb : c.code = cc) (hml : c.maxLocals = nL) (hown : s.vm.findClass own = some m.cls) (hts : ∀ w ∈ Ts, w.before args s = true) (hp : Hp G cI A s H locs wl)
    (hM : vx_Met l y wsY rmY Pc (va_Qi post (fun u t => zB G cI (va_A W0 H.size) (W1 u) t) (va_A W0 H.size)) (vx_X (fun _ => True) (fun X (u : SX) t => px X u ∧ zB G cI (va_A W0 H.size) (WX u) t) (va_A W0 H.size)) mc ms (va_A W0 H.size)) (hbl : FrameBlind Pc) (hpre : ∀ U : State, U.heap = H → s.WarmedH U.vm → Pc (Value.ref b :: As).toArray U)
    (cw : CallW R s args own C index y bytes maxL ret wsY rmY mc ms n) (isC isR ord : List Nat) (hC : isC.map (fun i => wl[i]?) = W0.map some) (hR : isR.map (fun i => wl[i]?) = wr.map some) (hk : va_nd isR = true ∧ (∀ i ∈ isR, i ∉ isC) ∧ va_nd ord = true) (hord : ∀ u : S, ord.map (fun i => (wr ++ W1 u)[i]?) = (wl2 u).map some) (hordX : ∀ u : SX, ord.map (fun i => (wr ++ WX u)[i]?) = (wlX u).map some)
    (q0 ci : Nat) {q : vw_C} {fs : List Value} (hc : vwCl[ci]? = some q) (he : wl[q0]? = some (b, .inr (ci, fs))) (hqC : q.1 = C) (hn : As.length = n) (hls : ls.size = nL) (hst : st0 = As.reverse ++ .ref b :: rest) (hW : (rest.map fun v => v.category).sum ≤ 8) (hdg : decode cc pc = .ok (.invokevirtual index, 3)) (hf : cells + mc ≤ R.cells ∧ slots + ms ≤ R.slots)
    (kx : ∀ (X : String) (ce : Cell) (q9 : Addr) (u : SX) (H1 : Heap) (locs1 : List Loc), px X u → Hp G cI A s H1 locs1 (wlX u) → H1[q9]? = some ce → ce.vm = .none → s.vm.findClass X = some ce.cls → vx_W p l e R s m args below meth c H1 locs1 (cells + mc) (slots + ms) Q (F0 m pc ls rest) q9)
    (kk : ∀ (r : Int32) (u : S) (H1 : Heap) (locs1 : List Loc), post r u → Hp G cI A s H1 locs1 (wl2 u) → W p l e R s m args below meth c H1 locs1 (cells + mc) (slots + ms) Q (F0 m (pc + 3) ls (.int r :: rest))) : W p l e R s m args below meth c H locs cells slots Q (F0 m pc ls st0) := by
  subst hqC
  have hFc := va_free hp.2.1 hp.2.2.1 hp.2.2.2.2 isC hC
  refine vx_calli (vx_runV (As := As) (rest := rest) ⟨hx, hb, hml, hown, hts⟩ hM cw ⟨hbl, va_recv hp.2.2.2.1 hp.1 hc he, hpre⟩ rfl hn hls hst (lv_room hW) hdg hf) hp.2.2.1 (fun q _ h => hFc q h) hFc (fun q _ h => hFc q h)
    (fun X ce q9 u t H1 locs1 ht hvm _ hB hz1 hk1 hS hce hcv hcl => kx X ce q9 u H1 locs1 hB.1 (z_after hp isC isR ord hC hR hk (hordX u) hB.2 ht hk1 hS) hce hcv hcl)
    (fun r u t H1 locs1 ht hvm hw hB hz1 hk1 hS => kk r u H1 locs1 hw (z_after hp isC isR ord hC hR hk (hord u) hB ht hk1 hS))
theorem zx_v {post : S → Prop} {px : String → SX → Prop} (hx : p.tables.exec = Jvm.exec) (hb : c.code = cc) (hml : c.maxLocals = nL) (hown : s.vm.findClass own = some m.cls) (hts : ∀ w ∈ Ts, w.before args s = true) (hp : Hp G cI A s H locs wl)
    (hM : vx_Met l y wsY rmY Pc (va_Qv post (fun u t => zB G cI (va_A W0 H.size) (W1 u) t) (va_A W0 H.size)) (vx_X (fun _ => True) (fun X (u : SX) t => px X u ∧ zB G cI (va_A W0 H.size) (WX u) t) (va_A W0 H.size)) mc ms (va_A W0 H.size)) (hbl : FrameBlind Pc) (hpre : ∀ U : State, U.heap = H → s.WarmedH U.vm → Pc (Value.ref b :: As).toArray U)
    (cw : CallW R s args own C index y bytes maxL ret wsY rmY mc ms n) (isC isR ord : List Nat) (hC : isC.map (fun i => wl[i]?) = W0.map some) (hR : isR.map (fun i => wl[i]?) = wr.map some) (hk : va_nd isR = true ∧ (∀ i ∈ isR, i ∉ isC) ∧ va_nd ord = true) (hord : ∀ u : S, ord.map (fun i => (wr ++ W1 u)[i]?) = (wl2 u).map some) (hordX : ∀ u : SX, ord.map (fun i => (wr ++ WX u)[i]?) = (wlX u).map some)
    (q0 ci : Nat) {q : vw_C} {fs : List Value} (hc : vwCl[ci]? = some q) (he : wl[q0]? = some (b, .inr (ci, fs))) (hqC : q.1 = C) (hn : As.length = n) (hls : ls.size = nL) (hst : st0 = As.reverse ++ .ref b :: rest) (hW : (rest.map fun v => v.category).sum ≤ 8) (hdg : decode cc pc = .ok (.invokevirtual index, 3)) (hf : cells + mc ≤ R.cells ∧ slots + ms ≤ R.slots)
    (kx : ∀ (X : String) (ce : Cell) (q9 : Addr) (u : SX) (H1 : Heap) (locs1 : List Loc), px X u → Hp G cI A s H1 locs1 (wlX u) → H1[q9]? = some ce → ce.vm = .none → s.vm.findClass X = some ce.cls → vx_W p l e R s m args below meth c H1 locs1 (cells + mc) (slots + ms) Q (F0 m pc ls rest) q9)
    (kk : ∀ (u : S) (H1 : Heap) (locs1 : List Loc), post u → Hp G cI A s H1 locs1 (wl2 u) → W p l e R s m args below meth c H1 locs1 (cells + mc) (slots + ms) Q (F0 m (pc + 3) ls rest)) : W p l e R s m args below meth c H locs cells slots Q (F0 m pc ls st0) := by
  subst hqC
  have hFc := va_free hp.2.1 hp.2.2.1 hp.2.2.2.2 isC hC
  refine vx_callv (vx_runV (As := As) (rest := rest) ⟨hx, hb, hml, hown, hts⟩ hM cw ⟨hbl, va_recv hp.2.2.2.1 hp.1 hc he, hpre⟩ rfl hn hls hst (lv_room hW) hdg hf) hp.2.2.1 (fun q _ h => hFc q h) hFc (fun q _ h => hFc q h)
    (fun X ce q9 u t H1 locs1 ht hvm _ hB hz1 hk1 hS hce hcv hcl => kx X ce q9 u H1 locs1 hB.1 (z_after hp isC isR ord hC hR hk (hordX u) hB.2 ht hk1 hS) hce hcv hcl)
    (fun u t H1 locs1 ht hvm hw hB hz1 hk1 hS => kk u H1 locs1 hw (z_after hp isC isR ord hC hR hk (hord u) hB ht hk1 hS))
end ZK
