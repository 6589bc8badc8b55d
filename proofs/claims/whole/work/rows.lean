section
-- ===== PART A: goes FIRST, ahead of the names: the tables' words, and 'selects' of the private methods out of them =====
/-- a private method of a class that the tables say can be made, by its rows of tables_1 -/
def lw_okq (q : MethodName × Nat) : Prop := (q.1.cls ≠ "java/lang/invoke/MethodHandle" ∧ q.1.cls ≠ "java/lang/invoke/VarHandle") ∧ Cond.instantiable q.1.cls q.2 ∈ tables_1 ∧ Cond.privateMethod q.1 ∈ tables_1 ∧ Cond.instanceMethod q.1 ∈ tables_1
theorem lw_p0 : lw_okq (⟨"SelfOpener$Packing", "findCopy", "(I)V"⟩, 9) := ⟨⟨by decide +kernel, by decide +kernel⟩, List.mem_of_getElem? (i := 25) (by decide +kernel), List.mem_of_getElem? (i := 170) (by decide +kernel), List.mem_of_getElem? (i := 171) (by decide +kernel)⟩
theorem lw_p1 : lw_okq (⟨"SelfOpener$Packing", "chooseToken", "(I)V"⟩, 9) := ⟨⟨by decide +kernel, by decide +kernel⟩, List.mem_of_getElem? (i := 25) (by decide +kernel), List.mem_of_getElem? (i := 177) (by decide +kernel), List.mem_of_getElem? (i := 178) (by decide +kernel)⟩
theorem lw_p2 : lw_okq (⟨"SelfOpener$Packing", "writeStream", "()V"⟩, 9) := ⟨⟨by decide +kernel, by decide +kernel⟩, List.mem_of_getElem? (i := 25) (by decide +kernel), List.mem_of_getElem? (i := 181) (by decide +kernel), List.mem_of_getElem? (i := 182) (by decide +kernel)⟩
theorem lw_p3 : lw_okq (⟨"java/lang/Throwable", "fillInStackTrace", "(I)Ljava/lang/Throwable;"⟩, 6) := ⟨⟨by decide +kernel, by decide +kernel⟩, List.mem_of_getElem? (i := 244) (by decide +kernel), List.mem_of_getElem? (i := 242) (by decide +kernel), List.mem_of_getElem? (i := 243) (by decide +kernel)⟩
theorem lw_p4 : lw_okq (⟨"SelfOpener$Program", "openRun", "(III)I"⟩, 6) := ⟨⟨by decide +kernel, by decide +kernel⟩, List.mem_of_getElem? (i := 31) (by decide +kernel), List.mem_of_getElem? (i := 330) (by decide +kernel), List.mem_of_getElem? (i := 331) (by decide +kernel)⟩
theorem lw_p5 : lw_okq (⟨"SelfOpener$Program", "openCopy", "(III)I"⟩, 6) := ⟨⟨by decide +kernel, by decide +kernel⟩, List.mem_of_getElem? (i := 31) (by decide +kernel), List.mem_of_getElem? (i := 365) (by decide +kernel), List.mem_of_getElem? (i := 366) (by decide +kernel)⟩
theorem lw_p6 : lw_okq (⟨"SelfOpener$Machine", "act", "(III)V"⟩, 7) := ⟨⟨by decide +kernel, by decide +kernel⟩, List.mem_of_getElem? (i := 96) (by decide +kernel), List.mem_of_getElem? (i := 453) (by decide +kernel), List.mem_of_getElem? (i := 454) (by decide +kernel)⟩
theorem lw_p7 : lw_okq (⟨"SelfOpener$Machine", "jump", "(III)V"⟩, 7) := ⟨⟨by decide +kernel, by decide +kernel⟩, List.mem_of_getElem? (i := 96) (by decide +kernel), List.mem_of_getElem? (i := 457) (by decide +kernel), List.mem_of_getElem? (i := 458) (by decide +kernel)⟩
theorem lw_p8 : lw_okq (⟨"SelfOpener$Machine", "reckon", "(IIII)I"⟩, 7) := ⟨⟨by decide +kernel, by decide +kernel⟩, List.mem_of_getElem? (i := 96) (by decide +kernel), List.mem_of_getElem? (i := 461) (by decide +kernel), List.mem_of_getElem? (i := 462) (by decide +kernel)⟩
theorem lw_p9 : lw_okq (⟨"SelfOpenerModel", "pack", "()V"⟩, 21) := ⟨⟨by decide +kernel, by decide +kernel⟩, List.mem_of_getElem? (i := 501) (by decide +kernel), List.mem_of_getElem? (i := 607) (by decide +kernel), List.mem_of_getElem? (i := 608) (by decide +kernel)⟩
theorem lw_p10 : lw_okq (⟨"SelfOpenerModel", "choose", "(I)V"⟩, 21) := ⟨⟨by decide +kernel, by decide +kernel⟩, List.mem_of_getElem? (i := 501) (by decide +kernel), List.mem_of_getElem? (i := 611) (by decide +kernel), List.mem_of_getElem? (i := 612) (by decide +kernel)⟩
theorem lw_p11 : lw_okq (⟨"SelfOpenerModel", "wrong", "(II)I"⟩, 21) := ⟨⟨by decide +kernel, by decide +kernel⟩, List.mem_of_getElem? (i := 501) (by decide +kernel), List.mem_of_getElem? (i := 628) (by decide +kernel), List.mem_of_getElem? (i := 629) (by decide +kernel)⟩
theorem lw_p12 : lw_okq (⟨"SelfOpenerModel", "fail", "(I)I"⟩, 21) := ⟨⟨by decide +kernel, by decide +kernel⟩, List.mem_of_getElem? (i := 501) (by decide +kernel), List.mem_of_getElem? (i := 632) (by decide +kernel), List.mem_of_getElem? (i := 633) (by decide +kernel)⟩
theorem lw_p13 : lw_okq (⟨"SelfOpenerModel", "clear", "(I)V"⟩, 21) := ⟨⟨by decide +kernel, by decide +kernel⟩, List.mem_of_getElem? (i := 501) (by decide +kernel), List.mem_of_getElem? (i := 640) (by decide +kernel), List.mem_of_getElem? (i := 641) (by decide +kernel)⟩
theorem lw_p14 : lw_okq (⟨"SelfOpenerModel", "isPackable", "()Z"⟩, 21) := ⟨⟨by decide +kernel, by decide +kernel⟩, List.mem_of_getElem? (i := 501) (by decide +kernel), List.mem_of_getElem? (i := 648) (by decide +kernel), List.mem_of_getElem? (i := 649) (by decide +kernel)⟩
theorem lw_p15 : lw_okq (⟨"SelfOpenerModel", "second", "(II)I"⟩, 21) := ⟨⟨by decide +kernel, by decide +kernel⟩, List.mem_of_getElem? (i := 501) (by decide +kernel), List.mem_of_getElem? (i := 662) (by decide +kernel), List.mem_of_getElem? (i := 663) (by decide +kernel)⟩
def lw_privs_1 : List (MethodName × Nat) := [(⟨"SelfOpener$Packing", "findCopy", "(I)V"⟩, 9), (⟨"SelfOpener$Packing", "chooseToken", "(I)V"⟩, 9), (⟨"SelfOpener$Packing", "writeStream", "()V"⟩, 9), (⟨"java/lang/Throwable", "fillInStackTrace", "(I)Ljava/lang/Throwable;"⟩, 6), (⟨"SelfOpener$Program", "openRun", "(III)I"⟩, 6), (⟨"SelfOpener$Program", "openCopy", "(III)I"⟩, 6), (⟨"SelfOpener$Machine", "act", "(III)V"⟩, 7), (⟨"SelfOpener$Machine", "jump", "(III)V"⟩, 7), (⟨"SelfOpener$Machine", "reckon", "(IIII)I"⟩, 7), (⟨"SelfOpenerModel", "pack", "()V"⟩, 21), (⟨"SelfOpenerModel", "choose", "(I)V"⟩, 21), (⟨"SelfOpenerModel", "wrong", "(II)I"⟩, 21), (⟨"SelfOpenerModel", "fail", "(I)I"⟩, 21), (⟨"SelfOpenerModel", "clear", "(I)V"⟩, 21), (⟨"SelfOpenerModel", "isPackable", "()Z"⟩, 21), (⟨"SelfOpenerModel", "second", "(II)I"⟩, 21)]
theorem lw_r1 : ∀ q ∈ lw_privs_1, lw_okq q := List.forall_mem_cons.mpr ⟨lw_p0, List.forall_mem_cons.mpr ⟨lw_p1, List.forall_mem_cons.mpr ⟨lw_p2, List.forall_mem_cons.mpr ⟨lw_p3, List.forall_mem_cons.mpr ⟨lw_p4, List.forall_mem_cons.mpr ⟨lw_p5, List.forall_mem_cons.mpr ⟨lw_p6, List.forall_mem_cons.mpr ⟨lw_p7, List.forall_mem_cons.mpr ⟨lw_p8, List.forall_mem_cons.mpr ⟨lw_p9, List.forall_mem_cons.mpr ⟨lw_p10, List.forall_mem_cons.mpr ⟨lw_p11, List.forall_mem_cons.mpr ⟨lw_p12, List.forall_mem_cons.mpr ⟨lw_p13, List.forall_mem_cons.mpr ⟨lw_p14, List.forall_mem_cons.mpr ⟨lw_p15, fun _ h => absurd h List.not_mem_nil⟩⟩⟩⟩⟩⟩⟩⟩⟩⟩⟩⟩⟩⟩⟩⟩
theorem lw_p16 : lw_okq (⟨"SelfOpenerModel", "step", "()V"⟩, 21) := ⟨⟨by decide +kernel, by decide +kernel⟩, List.mem_of_getElem? (i := 501) (by decide +kernel), List.mem_of_getElem? (i := 675) (by decide +kernel), List.mem_of_getElem? (i := 676) (by decide +kernel)⟩
theorem lw_p17 : lw_okq (⟨"SelfOpenerModel", "putOut", "(I)V"⟩, 21) := ⟨⟨by decide +kernel, by decide +kernel⟩, List.mem_of_getElem? (i := 501) (by decide +kernel), List.mem_of_getElem? (i := 679) (by decide +kernel), List.mem_of_getElem? (i := 680) (by decide +kernel)⟩
def lw_privs_2 : List (MethodName × Nat) := [(⟨"SelfOpenerModel", "step", "()V"⟩, 21), (⟨"SelfOpenerModel", "putOut", "(I)V"⟩, 21)]
theorem lw_r2 : ∀ q ∈ lw_privs_2, lw_okq q := List.forall_mem_cons.mpr ⟨lw_p16, List.forall_mem_cons.mpr ⟨lw_p17, fun _ h => absurd h List.not_mem_nil⟩⟩
def lw_privs : List (MethodName × Nat) := lw_privs_1 ++ (lw_privs_2)
def lw_tbl : List Cond := k2_sels lw_privs ++ tables_1
theorem lw_privs_ok : ∀ q ∈ lw_privs, lw_okq q := by
  show ∀ q ∈ lw_privs_1 ++ (lw_privs_2), lw_okq q
  exact List.forall_mem_append.mpr ⟨lw_r1, lw_r2⟩
/-! ===== BEGIN words of one list among another's, by their places ===== -/
theorem goodIn_r {big : List Cond} (ws : List Cond) (ps : List Nat) (hp : ws = ps.filterMap (fun i => big[i]?)) (h : ws.all goodWord = true) : GoodIn big ws := by
  intro w hw
  have h1 := List.all_eq_true.mp h w hw
  rw [hp] at hw
  obtain ⟨i, -, hi⟩ := List.mem_filterMap.mp hw
  have hm : w ∈ big := by first | exact List.mem_of_getElem? hi | exact List.getElem?_mem hi
  exact ⟨hm, good_of_word h1⟩
theorem goodIn_app {big a b : List Cond} (ha : GoodIn big a) (hb : GoodIn big b) : GoodIn big (a ++ b) := fun w h => (List.mem_append.mp h).elim (ha w) (hb w)
theorem goodIn_ca {big a b : List Cond} {c : Cond} (ha : GoodIn big (c :: a)) (hb : GoodIn big b) : GoodIn big (c :: (a ++ b)) := fun w h => (List.mem_cons.mp h).elim (fun e => ha w (List.mem_cons.mpr (Or.inl e))) (fun h => (List.mem_append.mp h).elim (fun h => ha w (List.mem_cons.mpr (Or.inr h))) (hb w))
theorem goodIn_sub {big ws : List Cond} (hm : ∀ w ∈ ws, w ∈ big) (h : ws.all goodWord = true) : GoodIn big ws := fun w hw => ⟨hm w hw, good_of_word (List.all_eq_true.mp h w hw)⟩
/-! ===== END ===== -/

/-! ===== BEGIN exceptions that leave a method, and their catching by the caller (launches without stack traces) ===== -/
section VXA
/-! The laws vx_back, vx_callV, vx_callS, vx_callSW, vx_throw0, vx_throwS follow proofs of the library, with one case more: JvmDerived/Free/Laws.lean (Back.of_free), Shelf42/LK1.lean (callV, callS), Shelf/KitTraced.lean (throwNew0V, throwNewS). -/
/-- where a method has thrown q: the class by its name, the cell, what was written, the world -/
def vx_T (XC : String → State → State → Prop) (st : State) (q : Addr) (t : State) (mc ms : Nat) (free : Addr → Prop) : Prop :=
  ∃ (E : String) (ce : Cell) (L : List Loc), XC E st t ∧ t.heap[q]? = some ce ∧ ce.vm = .none ∧ st.vm.findClass E = some ce.cls ∧ st.WarmedH t.vm ∧ st.sameButNew ({ t with vm := st.vm } : State) L mc ms ∧ ∀ z ∈ L, free z.base
def vx_Q (Qc : Array Value → State → Outcome → State → Prop) (XC : String → State → State → Prop) (mc ms : Nat) (free : Addr → Prop) : Array Value → State → Outcome → State → Prop := fun a st o t =>
  (Qc a st o t ∧ ∃ L, FrameEnd st o t L mc ms ∧ ∀ q ∈ L, free q.base) ∨ ∃ q, o = .threw q ∧ vx_T XC st q t mc ms free
/-- a callee that returns or throws -/
def vx_Met (l : Launch) (y : MethodName) (ws : List Cond) (rm : Room) (Pc : Array Value → State → Prop) (Qc : Array Value → State → Outcome → State → Prop) (XC : String → State → State → Prop) (mc ms : Nat) (free : Addr → Prop) : Prop :=
  MetFree l y (headSpec ws rm) Pc (fun _ _ _ _ _ => True) (vx_Q Qc XC mc ms free)
def vx_Post (XC : String → State → State → Prop) (mc ms : Nat) (free : Addr → Prop) : Pt → Array Value → Addr → Pt → Prop := fun A a q B =>
  ∃ (g : JFrame) (mk : MethodId) (t : State) (L : List Loc) (E : String) (ce : Cell), B.U.heap = t.heap ∧ B.U.vm = t.vm ∧ XC E (A.U.calling g mk a) t ∧ t.heap[q]? = some ce ∧ ce.vm = .none ∧ A.U.vm.findClass E = some ce.cls ∧ B.locs = A.locs ++ L ∧ (∀ z ∈ L, free z.base) ∧ B.cells = A.cells + mc ∧ B.slots = A.slots + ms
def vx_Back (l : Launch) (R : Room) (p : Program) (e : Env) (below : List Frame) (s : State) (sargs : Array Value) (y : MethodName) (len W9 : Nat)
    (Pre : Pt → Array Value → Prop) (Post : Pt → Array Value → Option Value → Pt → Prop) (PostX : Pt → Array Value → Addr → Pt → Prop) : Prop :=
  ∀ (m : MethodId) (meth : Method) (c : Code) (A : Pt) (g : JFrame) (ig : Instr) (mk : MethodId) (a : Array Value),
    Stand p l e R s m sargs below meth c A.U A.locs A.cells A.slots → g.method = m → g.locals.size = c.maxLocals → decode c.code g.pc = .ok (ig, len) →
    2 * g.monitorRoom + (g.stack.map fun v => v.category).sum ≤ W9 → A.U.methodNamed? y = some mk → Pre A a →
    (∃ (v : Option Value) (B : Pt), Stand p l e R s m sargs below meth c B.U B.locs B.cells B.slots ∧ Post A a v B ∧
      Steps p.tables e below (doInvoke e (A.U.setTop g) [] mk a).1 (B.U.setTop { g with pc := g.pc + len, stack := v.toList ++ g.stack })) ∨
    (∃ (q : Addr) (B : Pt), Stand p l e R s m sargs below meth c B.U B.locs B.cells B.slots ∧ PostX A a q B ∧
      Steps p.tables e below (doInvoke e (A.U.setTop g) [] mk a).1 ((B.U.setTop g).pushFrame (.throwing q)))
section Payer
variable {l : Launch} {R : Room} {p : Program} {e : Env} {below : List Frame} {s : State} {sargs : Array Value} {y : MethodName} {len W9 : Nat}
theorem vx_back {ws : List Cond} {rm : Room} {Pc : Array Value → State → Prop} {Qc : Array Value → State → Outcome → State → Prop} {XC : String → State → State → Prop} {mc ms : Nat} {free : Addr → Prop} {bytes : ByteArray} {maxL : Nat} {ret : Option FieldType}
    (hM : vx_Met l y ws rm Pc Qc XC mc ms free) (hblind : FrameBlind Pc) (hrc : rm.cells = mc) (hrs : rm.slots = ms)
    (hframes : rm.frames + 1 ≤ R.frames) (hlocals : W9 + (maxL + 11) + rm.locals ≤ R.locals)
    (hws : ∀ w ∈ ws, ∀ a' U, s.WarmedH U.vm → w.before a' U = true) (hcode : Cond.code y bytes maxL ret ∈ ws) (hinit : ∀ a' U, s.WarmedH U.vm → (Cond.initialized y.cls).before a' U = true) :
    vx_Back l R p e below s sargs y len W9 (PreOf R mc ms Pc) (PostOf Qc mc ms free) (vx_Post XC mc ms free) := by
  intro m meth c A g ig mk a X hg hsize hdg hW hn hp
  have h1 : (headSpec ws rm).pre.before a A.U = true := atoms_intro fun w hw => hws w hw _ _ X.warmed
  have h2 : (Cond.code y bytes maxL ret).before a A.U = true := hws _ hcode _ _ X.warmed
  have h3 : (Cond.initialized y.cls).before a A.U = true := hinit _ _ X.warmed
  have h4 : A.cells + (headSpec ws rm).room.cells ≤ R.cells := by rw [show (headSpec ws rm).room.cells = mc from hrc]; exact hp.1
  have h5 : A.slots + (headSpec ws rm).room.slots ≤ R.slots := by rw [show (headSpec ws rm).room.slots = ms from hrs]; exact hp.2.1
  have hPc : Pc a (A.U.calling g mk a) := hblind _ _ _ _ hp.2.2
  obtain ⟨U, Ls, c0, s0⟩ := A
  dsimp only [Pt.U, Pt.locs, Pt.cells, Pt.slots] at h1 h2 h3 h4 h5 X hn hPc ⊢
  obtain ⟨methY, cY, hmY, hcY, -, hlY, -, -, -, -⟩ := Cond.code_spec hn h2
  obtain ⟨kY, hkY, -⟩ := className_of_methodNamed hn
  have hinitY : kY.init = .initialized := Cond.initialized_spec (findClass_of_methodNamed hn) hkY h3
  have h : At U g.method c below := by rw [hg]; exact X.here
  have hlocals9 : W9 + (maxL + 11) + (headSpec ws rm).room.locals ≤ R.locals := hlocals
  have happ : (headSpec ws rm).appliesLoose y e.platform (U.calling g mk a) = true :=
    Spec.appliesLoose_calling (g := g) h hdg hn hkY hinitY
      (X.room_calling (g := g) (R' := (headSpec ws rm).room) hsize hmY hcY hframes (by rw [hlY]; omega) h4 h5) h1
  obtain ⟨mid, hmid⟩ := h.above
  have hfr : (U.setTop g).frames = (.java g :: mid) ++ below := by rw [State.frames_setTop' g h.top, hmid]; rfl
  obtain ⟨o, s₂, hsteps, -, hend, hq⟩ := Steps.callFree hM p X.admits X.cas X.clock (acts := []) hfr happ hPc trivial
  have hq' : vx_Q Qc XC mc ms free a (U.calling g mk a) o s₂ := hq
  rw [State.frames_setTop' g h.top] at hend
  obtain ⟨g₀, hg0⟩ := Option.isSome_iff_exists.mp h.top
  obtain ⟨r, hr⟩ := State.topJava?_eq_some.mp hg0
  have hr' : (({ U with heap := s₂.heap, slotsUsed := s₂.slotsUsed } : State).setVm s₂.vm).frames = .java g₀ :: r := hr
  rcases hq' with ⟨hqc, L, hfe, hL⟩ | ⟨q, rfl, E, ce, L, hx, hce, hcv, hcl, hW₂, hsm, hL⟩
  · obtain ⟨⟨v, rfl⟩, hW₂, e2, q2, q3, q4, q5, q6⟩ := id hfe
    have e3 : s₂ = ({ (U.calling g mk a).setFrames s₂.frames with heap := s₂.heap, slotsUsed := s₂.slotsUsed } : State).setVm s₂.vm := by
      have : s₂ = ({ s₂ with vm := (U.calling g mk a).vm } : State).setVm s₂.vm := rfl
      rw [e2] at this
      exact this
    obtain ⟨c₂, i₂, len₂, hc₂, hd₂, hf₂⟩ := hend
    have hW' : U.WarmedH s₂.vm := hW₂
    have hcc : c₂ = c := by
      have h1 : s₂.code? g.method = U.code? g.method := by
        rw [State.code?_eq, State.code?_eq, hW'.alike.method?]
      exact Option.some.inj (hc₂.symm.trans (h1.trans h.code))
    subst hcc
    have hlen : len₂ = len := by rw [hdg] at hd₂; cases hd₂; rfl
    subst hlen
    have hs₂ : s₂ = (({ U with heap := s₂.heap, slotsUsed := s₂.slotsUsed } : State).setVm s₂.vm).setTop { g with pc := g.pc + len₂, stack := v.toList ++ g.stack } := by
      refine e3.trans ?_
      rw [hf₂, State.calling_eq h.top, State.setFrames_setFrames, State.setTop_of_frames _ hr', hr]
      rfl
    have hsame : U.sameButNew ({ U with heap := s₂.heap, slotsUsed := s₂.slotsUsed } : State) L mc ms := by
      refine ⟨?_, q2, q3, q4, q5, q6⟩
      obtain ⟨t, ht, -⟩ := State.frames_cons hr
      show ({ U with heap := s₂.heap, slotsUsed := s₂.slotsUsed } : State) = { U.setFrames U.frames with heap := s₂.heap, slotsUsed := s₂.slotsUsed }
      rw [State.setFrames_self ht]
    subst hg
    refine Or.inl ⟨v, ⟨(({ U with heap := s₂.heap, slotsUsed := s₂.slotsUsed } : State).setVm s₂.vm), Ls ++ L, c0 + mc, s0 + ms⟩,
      ⟨X.admits, X.cas, X.clock, X.frames, X.room, X.hears, X.method, X.code, (X.here.setHeapUsed s₂.heap s₂.slotsUsed).setVm hW'.alike, X.tail, State.WarmedH.trans X.warmed hW', X.limits, X.bytes, X.same.trans (hsame.setVm s.vm)⟩,
      ⟨g, mk, s₂, L, rfl, rfl, hqc, rfl, hL, rfl, rfl⟩, ?_⟩
    show Steps p.tables e below _ ((({ U with heap := s₂.heap, slotsUsed := s₂.slotsUsed } : State).setVm s₂.vm).setTop { g with pc := g.pc + len₂, stack := v.toList ++ g.stack })
    rw [← hs₂]
    exact hsteps
  · obtain ⟨e2, q2, q3, q4, q5, q6⟩ := id hsm
    have e3 : s₂ = ({ (U.calling g mk a).setFrames s₂.frames with heap := s₂.heap, slotsUsed := s₂.slotsUsed } : State).setVm s₂.vm := by
      have : s₂ = ({ s₂ with vm := (U.calling g mk a).vm } : State).setVm s₂.vm := rfl
      rw [e2] at this
      exact this
    have hf₂ : s₂.frames = .throwing q :: .java g :: U.frames.tail := hend
    have hW' : U.WarmedH s₂.vm := hW₂
    have hs₂ : s₂ = ((({ U with heap := s₂.heap, slotsUsed := s₂.slotsUsed } : State).setVm s₂.vm).setTop g).pushFrame (.throwing q) := by
      refine e3.trans ?_
      rw [hf₂, State.calling_eq h.top, State.setFrames_setFrames, State.pushFrame, State.frames_setTop _ hr', State.setTop_of_frames _ hr', State.setFrames_setFrames, hr]
      rfl
    have hsame : U.sameButNew ({ U with heap := s₂.heap, slotsUsed := s₂.slotsUsed } : State) L mc ms := by
      refine ⟨?_, q2, q3, q4, q5, q6⟩
      obtain ⟨t, ht, -⟩ := State.frames_cons hr
      show ({ U with heap := s₂.heap, slotsUsed := s₂.slotsUsed } : State) = { U.setFrames U.frames with heap := s₂.heap, slotsUsed := s₂.slotsUsed }
      rw [State.setFrames_self ht]
    subst hg
    refine Or.inr ⟨q, ⟨(({ U with heap := s₂.heap, slotsUsed := s₂.slotsUsed } : State).setVm s₂.vm), Ls ++ L, c0 + mc, s0 + ms⟩,
      ⟨X.admits, X.cas, X.clock, X.frames, X.room, X.hears, X.method, X.code, (X.here.setHeapUsed s₂.heap s₂.slotsUsed).setVm hW'.alike, X.tail, State.WarmedH.trans X.warmed hW', X.limits, X.bytes, X.same.trans (hsame.setVm s.vm)⟩,
      ⟨g, mk, s₂, L, E, ce, rfl, rfl, hx, hce, hcv, hcl, rfl, hL, rfl, rfl⟩, ?_⟩
    show Steps p.tables e below _ (((({ U with heap := s₂.heap, slotsUsed := s₂.slotsUsed } : State).setVm s₂.vm).setTop g).pushFrame (.throwing q))
    rw [← hs₂]
    exact hsteps
end Payer
section Calls
variable {p : Program} {l : Launch} {e : Env} {R : Room} {s : State} {m : MethodId} {args : Array Value} {below : List Frame} {meth : Method} {c : Code} {T : State} {locs : List Loc} {cells slots : Nat}
theorem vx_callV (X : Stand p l e R s m args below meth c T locs cells slots) (hexec : p.tables.exec = Jvm.exec) {own C : String} {index : Nat} {y : MethodName} {bytes : ByteArray} {maxL : Nat} {ret : Option FieldType}
    (hown : s.vm.findClass own = some m.cls) (hlink : (Cond.methodLink own index y).before args s = true) (hinst : (Cond.instanceMethod y).before args s = true) (hsel : (Cond.selects C y y).before args s = true)
    (hcode : (Cond.code y bytes maxL ret).before args s = true) (hy : y.cls ≠ "java/lang/invoke/MethodHandle" ∧ y.cls ≠ "java/lang/invoke/VarHandle")
    {W9 : Nat} {Pre : Pt → Array Value → Prop} {Post : Pt → Array Value → Option Value → Pt → Prop} {PostX : Pt → Array Value → Addr → Pt → Prop} (hK : vx_Back l R p e below s args y 3 W9 Pre Post PostX)
    {b : Addr} {cellB : Cell} (hcell : T.heap[b]? = some cellB) (hobj : cellB.vm.isStatics = false) (hcls : s.vm.findClass C = some cellB.cls)
    {g : JFrame} (hg : g.method = m) (hsize : g.locals.size = c.maxLocals) {argsL rest : List Value} (hlen : ∀ sig, parseMethodDescriptor y.desc = some sig → argsL.length = sig.parameters.length)
    (hstack : g.stack = argsL.reverse ++ .ref b :: rest) (hW : 2 * g.monitorRoom + (rest.map fun v => v.category).sum ≤ W9) (hdg : decode c.code g.pc = .ok (.invokevirtual index, 3))
    (hpre : ∀ vm₁, s.WarmedH vm₁ → Pre ⟨T.setVm vm₁, locs, cells, slots⟩ (Value.ref b :: argsL).toArray) :
    (∃ (v : Option Value) (vm₁ : Vm) (B : Pt), s.WarmedH vm₁ ∧ Stand p l e R s m args below meth c B.U B.locs B.cells B.slots ∧ Post ⟨T.setVm vm₁, locs, cells, slots⟩ (Value.ref b :: argsL).toArray v B ∧
      ∀ target, Steps p.tables e below (B.U.setTop { g with pc := g.pc + 3, stack := v.toList ++ rest }) target → Steps p.tables e below (T.setTop g) target) ∨
    (∃ (q : Addr) (vm₁ : Vm) (B : Pt), s.WarmedH vm₁ ∧ Stand p l e R s m args below meth c B.U B.locs B.cells B.slots ∧ PostX ⟨T.setVm vm₁, locs, cells, slots⟩ (Value.ref b :: argsL).toArray q B ∧
      Steps p.tables e below (T.setTop g) ((B.U.setTop { g with stack := rest }).pushFrame (.throwing q))) := by
  obtain ⟨mk, methM, hnamed, hmethM, hstM, habM⟩ := Cond.instanceMethod_spec hinst
  obtain ⟨methM', cM, hmethM', -, -, -, -, -, -, hsigM⟩ := Cond.code_spec hnamed hcode
  cases hmethM.symm.trans hmethM'
  obtain ⟨c2, r2, m2, q1, q2, q3, q4, kP, hkP, hkPi⟩ := Cond.selects_spec hsel
  cases hcls.symm.trans q1
  cases (State.methodFound?_of_named hnamed hy).symm.trans q2
  cases hnamed.symm.trans q3
  have hselP : selectMethod e.platform s.vm cellB.cls mk = .method mk := by rw [Launch.admits_selectMethod X.admits]; exact q4
  obtain ⟨vm₁, X₁, hstep₁⟩ := X.invokevirtual hexec hown hlink hnamed hmethM hstM hkP hkPi hy (a := b) (cell := cellB) hcell
    (fun z h => by rw [h] at hobj; cases hobj) hselP hmethM habM hkP hkPi (g := g) hg (argsL := argsL) (rest := rest) (hlen _ hsigM) hstack hdg
  rcases hK m meth c ⟨T.setVm vm₁, locs, cells, slots⟩ { g with stack := rest } (.invokevirtual index) mk (Value.ref b :: argsL).toArray X₁ hg hsize hdg hW (X₁.named hnamed) (hpre vm₁ X₁.warmed) with ⟨v, B, X', hpost, hsteps⟩ | ⟨q, B, X', hpost, hsteps⟩
  · exact Or.inl ⟨v, vm₁, B, X₁.warmed, X', hpost, fun target h => hstep₁ _ fun acts => by rw [doInvoke_state]; exact hsteps.trans h⟩
  · exact Or.inr ⟨q, vm₁, B, X₁.warmed, X', hpost, hstep₁ _ fun acts => by rw [doInvoke_state]; exact hsteps⟩
theorem vx_callS (X : Stand p l e R s m args below meth c T locs cells slots) (hexec : p.tables.exec = Jvm.exec) {own : String} {index : Nat} {y : MethodName} {bytes : ByteArray} {maxL : Nat} {ret : Option FieldType}
    (hown : s.vm.findClass own = some m.cls) (hlink : (Cond.methodLink own index y).before args s = true) (hstat : (Cond.static y).before args s = true) (hinit : (Cond.initialized y.cls).before args s = true)
    (hcode : (Cond.code y bytes maxL ret).before args s = true) (hy : y.cls ≠ "java/lang/invoke/MethodHandle" ∧ y.cls ≠ "java/lang/invoke/VarHandle")
    {W9 : Nat} {Pre : Pt → Array Value → Prop} {Post : Pt → Array Value → Option Value → Pt → Prop} {PostX : Pt → Array Value → Addr → Pt → Prop} (hK : vx_Back l R p e below s args y 3 W9 Pre Post PostX)
    {g : JFrame} (hg : g.method = m) (hsize : g.locals.size = c.maxLocals) {argsL rest : List Value} (hlen : ∀ sig, parseMethodDescriptor y.desc = some sig → argsL.length = sig.parameters.length)
    (hstack : g.stack = argsL.reverse ++ rest) (hW : 2 * g.monitorRoom + (rest.map fun v => v.category).sum ≤ W9) (hdg : decode c.code g.pc = .ok (.invokestatic index, 3))
    (hpre : ∀ vm₁, s.WarmedH vm₁ → Pre ⟨T.setVm vm₁, locs, cells, slots⟩ argsL.toArray) :
    (∃ (v : Option Value) (vm₁ : Vm) (B : Pt), s.WarmedH vm₁ ∧ Stand p l e R s m args below meth c B.U B.locs B.cells B.slots ∧ Post ⟨T.setVm vm₁, locs, cells, slots⟩ argsL.toArray v B ∧
      ∀ target, Steps p.tables e below (B.U.setTop { g with pc := g.pc + 3, stack := v.toList ++ rest }) target → Steps p.tables e below (T.setTop g) target) ∨
    (∃ (q : Addr) (vm₁ : Vm) (B : Pt), s.WarmedH vm₁ ∧ Stand p l e R s m args below meth c B.U B.locs B.cells B.slots ∧ PostX ⟨T.setVm vm₁, locs, cells, slots⟩ argsL.toArray q B ∧
      Steps p.tables e below (T.setTop g) ((B.U.setTop { g with stack := rest }).pushFrame (.throwing q))) := by
  obtain ⟨mk, hnamed⟩ := Cond.code_named hcode
  obtain ⟨methM, cM, hmethM, -, -, -, -, -, -, hsigM⟩ := Cond.code_spec hnamed hcode
  have hstatic : methM.isStatic = true := Cond.static_spec hnamed hmethM hstat
  obtain ⟨kP, hkP, -⟩ := className_of_methodNamed hnamed
  have hinitP : kP.init = .initialized := Cond.initialized_spec (findClass_of_methodNamed hnamed) hkP hinit
  obtain ⟨vm₁, X₁, hstep₁⟩ := X.invokestatic hexec hown hlink hnamed hmethM hstatic hkP hinitP hy (g := g) hg (argsL := argsL) (rest := rest) (hlen _ hsigM) hstack hdg
  rcases hK m meth c ⟨T.setVm vm₁, locs, cells, slots⟩ { g with stack := rest } (.invokestatic index) mk argsL.toArray X₁ hg hsize hdg hW (X₁.named hnamed) (hpre vm₁ X₁.warmed) with ⟨v, B, X', hpost, hsteps⟩ | ⟨q, B, X', hpost, hsteps⟩
  · exact Or.inl ⟨v, vm₁, B, X₁.warmed, X', hpost, fun target h => hstep₁ _ fun acts => by rw [doInvoke_state]; exact hsteps.trans h⟩
  · exact Or.inr ⟨q, vm₁, B, X₁.warmed, X', hpost, hstep₁ _ fun acts => by rw [doInvoke_state]; exact hsteps⟩
end Calls
theorem vx_cls {s : State} {T : State} {vm₁ : Vm} {E : String} {k : ClassId} (hW : s.WarmedH vm₁) (h : (T.setVm vm₁).vm.findClass E = some k) : s.vm.findClass E = some k := by
  have h1 : vm₁.findClass E = some k := h
  rw [hW.alike.findClass] at h1
  exact h1
/-- the method's frame g, with q thrown over it -/
def vx_W (p : Program) (l : Launch) (e : Env) (R : Room) (s : State) (m : MethodId) (args : Array Value) (below : List Frame) (meth : Method) (c : Code) (H : Heap) (locs : List Loc) (cells slots : Nat) (Q : State → Prop) (g : JFrame) (q : Addr) : Prop :=
  ∀ T : State, T.heap = H → Stand p l e R s m args below meth c T locs cells slots → ∃ t, Steps p.tables e below ((T.setTop g).pushFrame (.throwing q)) t ∧ Q t
def vx_Run (p : Program) (l : Launch) (e : Env) (R : Room) (s : State) (m : MethodId) (args : Array Value) (below : List Frame) (meth : Method) (c : Code) (H : Heap) (locs : List Loc) (cells slots mc ms : Nat) (g : JFrame) (rest : List Value) (Qa : State → Outcome → State → Prop) (XC : String → State → State → Prop) (free : Addr → Prop) : Prop :=
  ∀ T : State, T.heap = H → Stand p l e R s m args below meth c T locs cells slots →
    (∃ (v : Option Value) (st₀ t T' : State) (L : List Loc), st₀.heap = H ∧ Stand p l e R s m args below meth c T' (locs ++ L) (cells + mc) (slots + ms) ∧ (∀ q ∈ L, free q.base) ∧ T'.heap = t.heap ∧ T'.vm = t.vm ∧ Qa st₀ (.returned v) t ∧
      Goes p e below T g T' { g with pc := g.pc + 3, stack := v.toList ++ rest }) ∨
    (∃ (q : Addr) (st₀ t T' : State) (L : List Loc) (E : String) (ce : Cell), st₀.heap = H ∧ Stand p l e R s m args below meth c T' (locs ++ L) (cells + mc) (slots + ms) ∧ (∀ z ∈ L, free z.base) ∧ T'.heap = t.heap ∧ T'.vm = t.vm ∧ XC E st₀ t ∧ t.heap[q]? = some ce ∧ ce.vm = .none ∧ s.vm.findClass E = some ce.cls ∧
      Steps p.tables e below (T.setTop g) ((T'.setTop { g with stack := rest }).pushFrame (.throwing q)))
def vx_X {S : Type} (px : S → Prop) (B : String → S → State → Prop) (A : Nat → Prop) : String → State → State → Prop := fun E st t => ∃ u : S, px u ∧ B E u t ∧ va_F A st t
section Runs
variable {p : Program} {l : Launch} {e : Env} {R : Room} {s : State} {m : MethodId} {args : Array Value} {below : List Frame} {meth : Method} {c : Code} {H : Heap} {locs : List Loc} {cells slots : Nat}
variable {y : MethodName} {bytes cc : ByteArray} {maxL nL mc ms n index : Nat} {ret : Option FieldType} {ws : List Cond} {rm : Room} {Pc : Array Value → State → Prop} {Qc : Array Value → State → Outcome → State → Prop} {XC : String → State → State → Prop} {free : Addr → Prop} {Ts : List Cond} {own C : String} {b : Addr} {As rest : List Value} {g : JFrame}
theorem vx_callBack (cb : CallB R s args own index y bytes maxL ret ws rm mc ms n) (hM : vx_Met l y ws rm Pc Qc XC mc ms free) (hbl : FrameBlind Pc) : vx_Back l R p e below s args y 3 8 (PreOf R mc ms Pc) (PostOf Qc mc ms free) (vx_Post XC mc ms free) := by
  obtain ⟨hrc, hrs, hfr, hlo, hws, hcw, -, hini, -⟩ := cb
  exact vx_back (bytes := bytes) (maxL := maxL) (ret := ret) hM hbl hrc hrs hfr hlo hws hcw (fun a' U hW => word_at hW (Or.inl (by first | rfl | simp [Cond.onTables, Cond.keeps, Cond.steady])) hini)
theorem vx_runV (S : CallFix p m c cc nL s args Ts own) (hM : vx_Met l y ws rm Pc Qc XC mc ms free) (cw : CallW R s args own C index y bytes maxL ret ws rm mc ms n) (hp : PreV s H C b Pc As)
    (hg : g.method = m) (hn : As.length = n) (hsize : g.locals.size = nL) (hstack : g.stack = As.reverse ++ .ref b :: rest) (hW : 2 * g.monitorRoom + (rest.map fun v => v.category).sum ≤ 8) (hdg : decode cc g.pc = .ok (.invokevirtual index, 3)) (hf : cells + mc ≤ R.cells ∧ slots + ms ≤ R.slots) :
    vx_Run p l e R s m args below meth c H locs cells slots mc ms g rest (Qc (Value.ref b :: As).toArray) XC free := by
  have hK : vx_Back l R p e below s args y 3 8 (PreOf R mc ms Pc) (PostOf Qc mc ms free) (vx_Post XC mc ms free) := vx_callBack cw.1 hM hp.1
  obtain ⟨⟨-, -, -, -, -, -, hcode, -, hy, hlen, hl⟩, hin, hse⟩ := cw
  obtain ⟨hx, hb, hml, ho, -⟩ := S
  obtain ⟨-, ⟨cellB, hcB, hoB, hclB⟩, hPc⟩ := hp
  intro T hT X
  rcases vx_callV X hx (C := C) (bytes := bytes) (maxL := maxL) (ret := ret) ho hl hin hse hcode hy hK (by rw [hT]; exact hcB) hoB hclB hg (hsize.trans hml.symm) (argsL := As) (rest := rest) (fun sig h => hn.trans (hlen sig h)) hstack hW (by rw [hb]; exact hdg)
    (fun vm₁ hW₁ => ⟨hf.1, hf.2, hPc (T.setVm vm₁) hT hW₁⟩) with ⟨v, vm₁, ⟨U', l2, c2, s2⟩, hW₁, X', ⟨g', mk, t, L, e1, e2, hq, h1, hL, h2, h3⟩, st⟩ | ⟨q, vm₁, ⟨U', l2, c2, s2⟩, hW₁, X', ⟨g', mk, t, L, E, ce, e1, e2, hq, hce, hcv, hcl, h1, hL, h2, h3⟩, st⟩
  · dsimp only [Pt.U, Pt.locs, Pt.cells, Pt.slots] at X' e1 e2 h1 h2 h3 st
    subst h1; subst h2; subst h3
    exact Or.inl ⟨v, (T.setVm vm₁).calling g' mk (Value.ref b :: As).toArray, t, U', L, hT, X', hL, e1, e2, hq, st⟩
  · dsimp only [Pt.U, Pt.locs, Pt.cells, Pt.slots] at X' e1 e2 h1 h2 h3 st hcl
    subst h1; subst h2; subst h3
    exact Or.inr ⟨q, (T.setVm vm₁).calling g' mk (Value.ref b :: As).toArray, t, U', L, E, ce, hT, X', hL, e1, e2, hq, hce, hcv, vx_cls hW₁ hcl, st⟩
theorem vx_runS (S : CallFix p m c cc nL s args Ts own) (hM : vx_Met l y ws rm Pc Qc XC mc ms free) (cw : CallB R s args own index y bytes maxL ret ws rm mc ms n ∧ (Cond.static y).before args s = true) (hp : PreS s H Pc As)
    (hg : g.method = m) (hn : As.length = n) (hsize : g.locals.size = nL) (hstack : g.stack = As.reverse ++ rest) (hW : 2 * g.monitorRoom + (rest.map fun v => v.category).sum ≤ 8) (hdg : decode cc g.pc = .ok (.invokestatic index, 3)) (hf : cells + mc ≤ R.cells ∧ slots + ms ≤ R.slots) :
    vx_Run p l e R s m args below meth c H locs cells slots mc ms g rest (Qc As.toArray) XC free := by
  have hK : vx_Back l R p e below s args y 3 8 (PreOf R mc ms Pc) (PostOf Qc mc ms free) (vx_Post XC mc ms free) := vx_callBack cw.1 hM hp.1
  obtain ⟨⟨-, -, -, -, -, -, hcode, hini, hy, hlen, hl⟩, hstt⟩ := cw
  obtain ⟨hx, hb, hml, ho, -⟩ := S
  intro T hT X
  rcases vx_callS X hx (bytes := bytes) (maxL := maxL) (ret := ret) ho hl hstt hini hcode hy hK hg (hsize.trans hml.symm) (argsL := As) (rest := rest) (fun sig h => hn.trans (hlen sig h)) hstack hW (by rw [hb]; exact hdg)
    (fun vm₁ hW₁ => ⟨hf.1, hf.2, hp.2 (T.setVm vm₁) hT hW₁⟩) with ⟨v, vm₁, ⟨U', l2, c2, s2⟩, hW₁, X', ⟨g', mk, t, L, e1, e2, hq, h1, hL, h2, h3⟩, st⟩ | ⟨q, vm₁, ⟨U', l2, c2, s2⟩, hW₁, X', ⟨g', mk, t, L, E, ce, e1, e2, hq, hce, hcv, hcl, h1, hL, h2, h3⟩, st⟩
  · dsimp only [Pt.U, Pt.locs, Pt.cells, Pt.slots] at X' e1 e2 h1 h2 h3 st
    subst h1; subst h2; subst h3
    exact Or.inl ⟨v, (T.setVm vm₁).calling g' mk As.toArray, t, U', L, hT, X', hL, e1, e2, hq, st⟩
  · dsimp only [Pt.U, Pt.locs, Pt.cells, Pt.slots] at X' e1 e2 h1 h2 h3 st hcl
    subst h1; subst h2; subst h3
    exact Or.inr ⟨q, (T.setVm vm₁).calling g' mk As.toArray, t, U', L, E, ce, hT, X', hL, e1, e2, hq, hce, hcv, vx_cls hW₁ hcl, st⟩
end Runs
section Rows
variable {p : Program} {l : Launch} {e : Env} {R : Room} {s : State} {m : MethodId} {args : Array Value} {below : List Frame} {meth : Method} {c : Code} {H : Heap} {locs : List Loc} {cells slots : Nat} {Q : State → Prop}
variable {mc ms : Nat} {free : Addr → Prop} {A0 A1 : Nat → Prop} {H0 : Heap} {a : Array Value} {pc : Nat} {ls : Array Slot} {st0 rest : List Value}
theorem vx_keep {st₀ t T' : State} {L : List Loc} (h0 : st₀.heap = H) (e1 : T'.heap = t.heap) (hS : va_S A0 H0 H locs) (hA : ∀ q, q < H.size → A1 q → A0 q) (hf : ∀ q, free q → A0 q) (hL : ∀ q ∈ L, free q.base) (hF : va_F A1 st₀ t) :
    H.size ≤ T'.heap.size ∧ (∀ q : Nat, q < H.size → ¬ A1 q → T'.heap[q]? = H[q]?) ∧ va_S A0 H0 T'.heap (locs ++ L) := by
  obtain ⟨hz, hk⟩ := hF
  rw [h0] at hz hk
  exact ⟨by rw [e1]; exact hz, fun q h1 h2 => by rw [e1]; exact hk q h1 h2,
    ⟨Nat.le_trans hS.1 (by rw [e1]; exact hz), fun q h1 h2 => by rw [e1, hk q (Nat.lt_of_lt_of_le h1 hS.1) (fun z => h2 (hA q (Nat.lt_of_lt_of_le h1 hS.1) z))]; exact hS.2.1 q h1 h2, fun q hq => by
      rcases List.mem_append.mp hq with h | h
      · exact hS.2.2 q h
      · exact hf _ (hL q h)⟩⟩
theorem vx_calli {S SX : Type} {post : Int32 → S → Prop} {px : SX → Prop} {B : S → State → Prop} {BX : String → SX → State → Prop} {AX : Nat → Prop} (hr : vx_Run p l e R s m args below meth c H locs cells slots mc ms (F0 m pc ls st0) rest (va_Qi post B A1 a) (vx_X px BX AX) free) (hS : va_S A0 H0 H locs) (hA : ∀ q, q < H.size → A1 q → A0 q) (hf : ∀ q, free q → A0 q) (hAX : ∀ q, q < H.size → AX q → A0 q)
    (kx : ∀ (E : String) (ce : Cell) (q9 : Addr) (u : SX) (t : State) (H1 : Heap) (locs1 : List Loc), t.heap = H1 → s.vm.Alike t.vm → px u → BX E u t → H.size ≤ H1.size → (∀ q : Nat, q < H.size → ¬ AX q → H1[q]? = H[q]?) → va_S A0 H0 H1 locs1 → H1[q9]? = some ce → ce.vm = .none → s.vm.findClass E = some ce.cls → vx_W p l e R s m args below meth c H1 locs1 (cells + mc) (slots + ms) Q (F0 m pc ls rest) q9)
    (kk : ∀ (r : Int32) (u : S) (t : State) (H1 : Heap) (locs1 : List Loc), t.heap = H1 → s.vm.Alike t.vm → post r u → B u t → H.size ≤ H1.size → (∀ q : Nat, q < H.size → ¬ A1 q → H1[q]? = H[q]?) → va_S A0 H0 H1 locs1 → W p l e R s m args below meth c H1 locs1 (cells + mc) (slots + ms) Q (F0 m (pc + 3) ls (.int r :: rest))) : W p l e R s m args below meth c H locs cells slots Q (F0 m pc ls st0) := by
  intro T hT X
  rcases hr T hT X with ⟨v, st₀, t, T', L, h0, X', hL, e1, e2, ⟨⟨r, u, hv, hp, hb⟩, hF⟩, st⟩ | ⟨q, st₀, t, T', L, E, ce, h0, X', hL, e1, e2, ⟨u, hp, hb, hF⟩, hce, hcv, hcl, st⟩
  · cases hv
    obtain ⟨k1, k2, k3⟩ := vx_keep h0 e1 hS hA hf hL hF
    obtain ⟨t2, a1, b1⟩ := kk r u t T'.heap (locs ++ L) e1.symm (by rw [← e2]; exact X'.warmed.alike) hp hb k1 k2 k3 T' rfl X'
    exact ⟨t2, st t2 a1, b1⟩
  · obtain ⟨k1, k2, k3⟩ := vx_keep h0 e1 hS hAX hf hL hF
    obtain ⟨t2, a1, b1⟩ := kx E ce q u t T'.heap (locs ++ L) e1.symm (by rw [← e2]; exact X'.warmed.alike) hp hb k1 k2 k3 (by rw [e1]; exact hce) hcv hcl T' rfl X'
    exact ⟨t2, st.trans a1, b1⟩
theorem vx_calll {S SX : Type} {post : Int64 → S → Prop} {px : SX → Prop} {B : S → State → Prop} {BX : String → SX → State → Prop} {AX : Nat → Prop} (hr : vx_Run p l e R s m args below meth c H locs cells slots mc ms (F0 m pc ls st0) rest (va_Ql post B A1 a) (vx_X px BX AX) free) (hS : va_S A0 H0 H locs) (hA : ∀ q, q < H.size → A1 q → A0 q) (hf : ∀ q, free q → A0 q) (hAX : ∀ q, q < H.size → AX q → A0 q)
    (kx : ∀ (E : String) (ce : Cell) (q9 : Addr) (u : SX) (t : State) (H1 : Heap) (locs1 : List Loc), t.heap = H1 → s.vm.Alike t.vm → px u → BX E u t → H.size ≤ H1.size → (∀ q : Nat, q < H.size → ¬ AX q → H1[q]? = H[q]?) → va_S A0 H0 H1 locs1 → H1[q9]? = some ce → ce.vm = .none → s.vm.findClass E = some ce.cls → vx_W p l e R s m args below meth c H1 locs1 (cells + mc) (slots + ms) Q (F0 m pc ls rest) q9)
    (kk : ∀ (r : Int64) (u : S) (t : State) (H1 : Heap) (locs1 : List Loc), t.heap = H1 → s.vm.Alike t.vm → post r u → B u t → H.size ≤ H1.size → (∀ q : Nat, q < H.size → ¬ A1 q → H1[q]? = H[q]?) → va_S A0 H0 H1 locs1 → W p l e R s m args below meth c H1 locs1 (cells + mc) (slots + ms) Q (F0 m (pc + 3) ls (.long r :: rest))) : W p l e R s m args below meth c H locs cells slots Q (F0 m pc ls st0) := by
  intro T hT X
  rcases hr T hT X with ⟨v, st₀, t, T', L, h0, X', hL, e1, e2, ⟨⟨r, u, hv, hp, hb⟩, hF⟩, st⟩ | ⟨q, st₀, t, T', L, E, ce, h0, X', hL, e1, e2, ⟨u, hp, hb, hF⟩, hce, hcv, hcl, st⟩
  · cases hv
    obtain ⟨k1, k2, k3⟩ := vx_keep h0 e1 hS hA hf hL hF
    obtain ⟨t2, a1, b1⟩ := kk r u t T'.heap (locs ++ L) e1.symm (by rw [← e2]; exact X'.warmed.alike) hp hb k1 k2 k3 T' rfl X'
    exact ⟨t2, st t2 a1, b1⟩
  · obtain ⟨k1, k2, k3⟩ := vx_keep h0 e1 hS hAX hf hL hF
    obtain ⟨t2, a1, b1⟩ := kx E ce q u t T'.heap (locs ++ L) e1.symm (by rw [← e2]; exact X'.warmed.alike) hp hb k1 k2 k3 (by rw [e1]; exact hce) hcv hcl T' rfl X'
    exact ⟨t2, st.trans a1, b1⟩
theorem vx_callf {S SX : Type} {post : UInt32 → S → Prop} {px : SX → Prop} {B : S → State → Prop} {BX : String → SX → State → Prop} {AX : Nat → Prop} (hr : vx_Run p l e R s m args below meth c H locs cells slots mc ms (F0 m pc ls st0) rest (va_Qf post B A1 a) (vx_X px BX AX) free) (hS : va_S A0 H0 H locs) (hA : ∀ q, q < H.size → A1 q → A0 q) (hf : ∀ q, free q → A0 q) (hAX : ∀ q, q < H.size → AX q → A0 q)
    (kx : ∀ (E : String) (ce : Cell) (q9 : Addr) (u : SX) (t : State) (H1 : Heap) (locs1 : List Loc), t.heap = H1 → s.vm.Alike t.vm → px u → BX E u t → H.size ≤ H1.size → (∀ q : Nat, q < H.size → ¬ AX q → H1[q]? = H[q]?) → va_S A0 H0 H1 locs1 → H1[q9]? = some ce → ce.vm = .none → s.vm.findClass E = some ce.cls → vx_W p l e R s m args below meth c H1 locs1 (cells + mc) (slots + ms) Q (F0 m pc ls rest) q9)
    (kk : ∀ (r : UInt32) (u : S) (t : State) (H1 : Heap) (locs1 : List Loc), t.heap = H1 → s.vm.Alike t.vm → post r u → B u t → H.size ≤ H1.size → (∀ q : Nat, q < H.size → ¬ A1 q → H1[q]? = H[q]?) → va_S A0 H0 H1 locs1 → W p l e R s m args below meth c H1 locs1 (cells + mc) (slots + ms) Q (F0 m (pc + 3) ls (.float r :: rest))) : W p l e R s m args below meth c H locs cells slots Q (F0 m pc ls st0) := by
  intro T hT X
  rcases hr T hT X with ⟨v, st₀, t, T', L, h0, X', hL, e1, e2, ⟨⟨r, u, hv, hp, hb⟩, hF⟩, st⟩ | ⟨q, st₀, t, T', L, E, ce, h0, X', hL, e1, e2, ⟨u, hp, hb, hF⟩, hce, hcv, hcl, st⟩
  · cases hv
    obtain ⟨k1, k2, k3⟩ := vx_keep h0 e1 hS hA hf hL hF
    obtain ⟨t2, a1, b1⟩ := kk r u t T'.heap (locs ++ L) e1.symm (by rw [← e2]; exact X'.warmed.alike) hp hb k1 k2 k3 T' rfl X'
    exact ⟨t2, st t2 a1, b1⟩
  · obtain ⟨k1, k2, k3⟩ := vx_keep h0 e1 hS hAX hf hL hF
    obtain ⟨t2, a1, b1⟩ := kx E ce q u t T'.heap (locs ++ L) e1.symm (by rw [← e2]; exact X'.warmed.alike) hp hb k1 k2 k3 (by rw [e1]; exact hce) hcv hcl T' rfl X'
    exact ⟨t2, st.trans a1, b1⟩
theorem vx_calld {S SX : Type} {post : UInt64 → S → Prop} {px : SX → Prop} {B : S → State → Prop} {BX : String → SX → State → Prop} {AX : Nat → Prop} (hr : vx_Run p l e R s m args below meth c H locs cells slots mc ms (F0 m pc ls st0) rest (va_Qd post B A1 a) (vx_X px BX AX) free) (hS : va_S A0 H0 H locs) (hA : ∀ q, q < H.size → A1 q → A0 q) (hf : ∀ q, free q → A0 q) (hAX : ∀ q, q < H.size → AX q → A0 q)
    (kx : ∀ (E : String) (ce : Cell) (q9 : Addr) (u : SX) (t : State) (H1 : Heap) (locs1 : List Loc), t.heap = H1 → s.vm.Alike t.vm → px u → BX E u t → H.size ≤ H1.size → (∀ q : Nat, q < H.size → ¬ AX q → H1[q]? = H[q]?) → va_S A0 H0 H1 locs1 → H1[q9]? = some ce → ce.vm = .none → s.vm.findClass E = some ce.cls → vx_W p l e R s m args below meth c H1 locs1 (cells + mc) (slots + ms) Q (F0 m pc ls rest) q9)
    (kk : ∀ (r : UInt64) (u : S) (t : State) (H1 : Heap) (locs1 : List Loc), t.heap = H1 → s.vm.Alike t.vm → post r u → B u t → H.size ≤ H1.size → (∀ q : Nat, q < H.size → ¬ A1 q → H1[q]? = H[q]?) → va_S A0 H0 H1 locs1 → W p l e R s m args below meth c H1 locs1 (cells + mc) (slots + ms) Q (F0 m (pc + 3) ls (.double r :: rest))) : W p l e R s m args below meth c H locs cells slots Q (F0 m pc ls st0) := by
  intro T hT X
  rcases hr T hT X with ⟨v, st₀, t, T', L, h0, X', hL, e1, e2, ⟨⟨r, u, hv, hp, hb⟩, hF⟩, st⟩ | ⟨q, st₀, t, T', L, E, ce, h0, X', hL, e1, e2, ⟨u, hp, hb, hF⟩, hce, hcv, hcl, st⟩
  · cases hv
    obtain ⟨k1, k2, k3⟩ := vx_keep h0 e1 hS hA hf hL hF
    obtain ⟨t2, a1, b1⟩ := kk r u t T'.heap (locs ++ L) e1.symm (by rw [← e2]; exact X'.warmed.alike) hp hb k1 k2 k3 T' rfl X'
    exact ⟨t2, st t2 a1, b1⟩
  · obtain ⟨k1, k2, k3⟩ := vx_keep h0 e1 hS hAX hf hL hF
    obtain ⟨t2, a1, b1⟩ := kx E ce q u t T'.heap (locs ++ L) e1.symm (by rw [← e2]; exact X'.warmed.alike) hp hb k1 k2 k3 (by rw [e1]; exact hce) hcv hcl T' rfl X'
    exact ⟨t2, st.trans a1, b1⟩
theorem vx_callv {S SX : Type} {post : S → Prop} {px : SX → Prop} {B : S → State → Prop} {BX : String → SX → State → Prop} {AX : Nat → Prop} (hr : vx_Run p l e R s m args below meth c H locs cells slots mc ms (F0 m pc ls st0) rest (va_Qv post B A1 a) (vx_X px BX AX) free) (hS : va_S A0 H0 H locs) (hA : ∀ q, q < H.size → A1 q → A0 q) (hf : ∀ q, free q → A0 q) (hAX : ∀ q, q < H.size → AX q → A0 q)
    (kx : ∀ (E : String) (ce : Cell) (q9 : Addr) (u : SX) (t : State) (H1 : Heap) (locs1 : List Loc), t.heap = H1 → s.vm.Alike t.vm → px u → BX E u t → H.size ≤ H1.size → (∀ q : Nat, q < H.size → ¬ AX q → H1[q]? = H[q]?) → va_S A0 H0 H1 locs1 → H1[q9]? = some ce → ce.vm = .none → s.vm.findClass E = some ce.cls → vx_W p l e R s m args below meth c H1 locs1 (cells + mc) (slots + ms) Q (F0 m pc ls rest) q9)
    (kk : ∀ (u : S) (t : State) (H1 : Heap) (locs1 : List Loc), t.heap = H1 → s.vm.Alike t.vm → post u → B u t → H.size ≤ H1.size → (∀ q : Nat, q < H.size → ¬ A1 q → H1[q]? = H[q]?) → va_S A0 H0 H1 locs1 → W p l e R s m args below meth c H1 locs1 (cells + mc) (slots + ms) Q (F0 m (pc + 3) ls (rest))) : W p l e R s m args below meth c H locs cells slots Q (F0 m pc ls st0) := by
  intro T hT X
  rcases hr T hT X with ⟨v, st₀, t, T', L, h0, X', hL, e1, e2, ⟨⟨u, hv, hp, hb⟩, hF⟩, st⟩ | ⟨q, st₀, t, T', L, E, ce, h0, X', hL, e1, e2, ⟨u, hp, hb, hF⟩, hce, hcv, hcl, st⟩
  · cases hv
    obtain ⟨k1, k2, k3⟩ := vx_keep h0 e1 hS hA hf hL hF
    obtain ⟨t2, a1, b1⟩ := kk u t T'.heap (locs ++ L) e1.symm (by rw [← e2]; exact X'.warmed.alike) hp hb k1 k2 k3 T' rfl X'
    exact ⟨t2, st t2 a1, b1⟩
  · obtain ⟨k1, k2, k3⟩ := vx_keep h0 e1 hS hAX hf hL hF
    obtain ⟨t2, a1, b1⟩ := kx E ce q u t T'.heap (locs ++ L) e1.symm (by rw [← e2]; exact X'.warmed.alike) hp hb k1 k2 k3 (by rw [e1]; exact hce) hcv hcl T' rfl X'
    exact ⟨t2, st.trans a1, b1⟩
/-- caught by the row x of this method's table; the rows ahead don't take it -/
theorem vx_catch {own name : String} {E : String} {ce : Cell} {q : Addr} (hown : s.vm.findClass own = some m.cls) (pre : List ExceptionTableEntry) (x : ExceptionTableEntry) (suf : List ExceptionTableEntry) (hsplit : c.exceptionTable.toList = pre ++ x :: suf)
    (hpass : ∀ z ∈ pre, covers z pc = false ∨ (z.catchType ≠ 0 ∧ ∃ nm : String, (Cond.classLink own z.catchType nm).before args s = true ∧ va_Nc E nm s)) (hx : covers x pc = true) (h0 : x.catchType ≠ 0)
    (hlink : (Cond.classLink own x.catchType name).before args s = true) (hcast : (Cond.castable E name).before args s = true) (hcell : H[q]? = some ce) (hv : ce.vm = .none) (hcl : s.vm.findClass E = some ce.cls)
    (kk : W p l e R s m args below meth c H locs cells slots Q (F0 m x.handlerPc ls [.ref q])) : vx_W p l e R s m args below meth c H locs cells slots Q (F0 m pc ls rest) q := by
  intro T hT X
  have hpl : e.platform.magicAccessors = ({} : Platform).magicAccessors := by rw [X.admits.platform]
  obtain ⟨c3, c4, hc3, hc4, hasg⟩ := Cond.castable_spec hcast
  cases Option.some.inj (hc3.symm.trans hcl)
  obtain ⟨c5, hc5, hcl5⟩ := Cond.classLink_spec hown hlink e.platform hpl
  cases Option.some.inj (hc4.symm.trans hc5)
  obtain ⟨vm', X', st⟩ := X.thenCaughtThrough q (g := F0 m pc ls rest) rfl (Steps.refl _) (by rw [hT]; exact hcell) (by rw [hv]; rfl) (by obtain ⟨k9, h9, -⟩ := Vm.findClass_spec hcl; exact ⟨k9, h9⟩) pre x suf hsplit
    (fun z hz => by
      rcases hpass z hz with h | ⟨hz0, nm, hl1, hn1⟩
      · exact Or.inl h
      · obtain ⟨c6, hc6, hcl6⟩ := Cond.classLink_spec hown hl1 e.platform hpl
        obtain ⟨a8, b8, h1, h2, h3⟩ := hn1
        cases Option.some.inj (h1.symm.trans hcl)
        cases Option.some.inj (h2.symm.trans hc6)
        exact Or.inr ⟨hz0, _, hcl6, h3⟩) hx (Or.inr ⟨h0, c4, hcl5, hasg⟩)
  obtain ⟨t, a1, b1⟩ := kk (T.setVm vm') hT X'
  exact ⟨t, st.trans a1, b1⟩
end Rows
section Ends
variable {p : Program} {l : Launch} {e : Env} {R : Room} {s : State} {m : MethodId} {args : Array Value} {below : List Frame} {meth : Method} {c : Code} {H : Heap} {locs : List Loc} {cells slots : Nat} {Q : State → Prop}
variable {mc ms : Nat} {free : Addr → Prop} {A0 A1 : Nat → Prop} {H0 : Heap} {a : Array Value} {ls : Array Slot} {st0 rest : List Value}
variable {Qc : Array Value → State → Outcome → State → Prop} {XC : String → State → State → Prop}
/-- what a body that may throw owes at its end -/
def vx_MQ (below : List Frame) (Qc : Array Value → State → Outcome → State → Prop) (XC : String → State → State → Prop) (a : Array Value) (s : State) (mc ms : Nat) (free : Addr → Prop) : State → Prop := fun t =>
  ∃ o, t.status = .running ∧ Ended t below o ∧ vx_Q Qc XC mc ms free a s o t
theorem vx_ret {g : JFrame} {mc ms : Nat} (k : W p l e R s m args below meth c H locs cells slots (MQ below Qc args s mc ms free) g) : W p l e R s m args below meth c H locs cells slots (vx_MQ below Qc XC args s mc ms free) g := by
  intro T hT X
  obtain ⟨t, a1, o, b1, b2, b3, b4⟩ := k T hT X
  exact ⟨t, a1, o, b1, b2, Or.inl ⟨b3, b4⟩⟩
/-- not caught here: it goes on to the caller -/
theorem vx_widen {g : JFrame} {q : Addr} {k n : Nat} (h1 : cells ≤ k) (h2 : slots ≤ n) (kk : vx_W p l e R s m args below meth c H locs k n Q g q) : vx_W p l e R s m args below meth c H locs cells slots Q g q := fun T hT X => kk T hT (stand_widen X h1 h2)
theorem vx_out {pc : Nat} {E : String} {ce : Cell} {q : Addr} {mc ms : Nat} (hout : ∀ x ∈ c.exceptionTable.toList, covers x pc = false) (hlocks : meth.locks = false) (hcell : H[q]? = some ce) (hv : ce.vm = .none) (hcl : s.vm.findClass E = some ce.cls)
    (hx : ∀ t : State, t.heap = H → s.vm.Alike t.vm → XC E s t) (hf : ∀ z ∈ locs, free z.base) (hc : cells ≤ mc) (hs : slots ≤ ms) :
    vx_W p l e R s m args below meth c H locs cells slots (vx_MQ below Qc XC args s mc ms free) (F0 m pc ls rest) q := by
  intro T hT X
  obtain ⟨st1, hrun, hend, hW, hsm⟩ := X.leaveThrown q (g := F0 m pc ls rest) rfl rfl rfl hout hlocks
  have hcell9 : (T.setFrames (.throwing q :: below)).heap[q]? = some ce := by
    show T.heap[q]? = some ce
    rw [hT]; exact hcell
  exact ⟨_, st1, .threw q, hrun, hend, Or.inr ⟨q, rfl, E, ce, locs, hx _ hT hW.alike, hcell9, hv, hcl, hW, hsm.mono hc hs, hf⟩⟩
theorem vx_frame {U : State} {k n : Nat} (h : s.sameButNew ({ U with vm := s.vm } : State) locs k n) : s.heap.size ≤ U.heap.size ∧ ∀ q : Nat, q < s.heap.size → (∀ z ∈ locs, z.base ≠ q) → U.heap[q]? = s.heap[q]? := by
  obtain ⟨-, h2, -, -, -, h6⟩ := h
  refine ⟨h2, fun q hq hz => ?_⟩
  obtain ⟨c9, e1, e2, e3, e4⟩ := h6 q _ (Array.getElem?_eq_getElem hq)
  have hs : c9.slots = (s.heap[q]).slots := Array.ext_getElem? fun i => e4 i fun hm => hz _ hm rfl
  have h9 : c9 = s.heap[q] := by
    rw [hs] at e2
    exact e2
  have e5 : U.heap[q]? = some c9 := e1
  rw [e5, h9, Array.getElem?_eq_getElem hq]
/-- the words of a throw but the four that speak of the heap -/
def vx_no (w : Cond) : Bool := decide (w ≠ .isRef (.static Bundle.tN "UNASSIGNED_STACK" Bundle.steD)) && decide (w ≠ .isRef (.static Bundle.tN "SUPPRESSED_SENTINEL" Bundle.listD)) && decide (w ≠ .laysStatic Bundle.tN "UNASSIGNED_STACK" Bundle.steD) && decide (w ≠ .laysStatic Bundle.tN "SUPPRESSED_SENTINEL" Bundle.listD)
def vx_at0 (own : String) (ic : Nat) (X : String) (names : List String) : List Cond := (Bundle.ownAtoms0 own ic X names).filter vx_no
def vx_atS (own : String) (ic : Nat) (X : String) (names : List String) : List Cond := (Bundle.ownAtoms own ic X names).filter vx_no
/-- a word that the tables alone decide, or a good one -/
def vx_ot (w : Cond) : Bool := w.onTables || goodWord w
theorem vx_ot_at {args a' : Array Value} {s U : State} {w : Cond} (hW : s.WarmedH U.vm) (hvm : s.vm = U.vm) (hg : vx_ot w = true) (h : w.before args s = true) : w.before a' U = true := by
  simp only [vx_ot, Bool.or_eq_true] at hg
  rcases hg with hg | hg
  · exact va_tabs hg hvm h
  · exact word_at hW (good_of_word hg) h
/-- a list's words: the good ones out of the method's own list, the others by premises of their own -/
theorem vx_hat {args : Array Value} {s : State} {L B : List Cond} (h1 : ∀ w ∈ L.filter goodWord, w.before args s = true) (h2 : ∀ w ∈ L.filter (fun w => !goodWord w), w ∈ B) (h3 : ∀ w ∈ B, w.before args s = true) : ∀ w ∈ L, w.before args s = true := by
  intro w hw
  by_cases g : goodWord w = true
  · exact h1 w (List.mem_filter.mpr ⟨hw, g⟩)
  · refine h3 w (h2 w (List.mem_filter.mpr ⟨hw, ?_⟩))
    show (!goodWord w) = true
    cases hgw : goodWord w
    · rfl
    · exact absurd hgw g
theorem vx_c {args : Array Value} {s : State} {w : Cond} {B : List Cond} (h : w.before args s = true) (t : ∀ w ∈ B, w.before args s = true) : ∀ w' ∈ w :: B, w'.before args s = true := fun w' h' => (List.mem_cons.mp h').elim (fun e => by rw [e]; exact h) (t w')
theorem vx_n {args : Array Value} {s : State} : ∀ w ∈ ([] : List Cond), w.before args s = true := fun _ h => nomatch h
theorem vx_own {args : Array Value} {s : State} {L : List Cond} (h1 : ∀ w ∈ L.filter vx_no, w.before args s = true)
    (hU : (Cond.isRef (.static Bundle.tN "UNASSIGNED_STACK" Bundle.steD)).before args s = true) (hN : (Cond.isRef (.static Bundle.tN "SUPPRESSED_SENTINEL" Bundle.listD)).before args s = true)
    (lU : (Cond.laysStatic Bundle.tN "UNASSIGNED_STACK" Bundle.steD).before args s = true) (lN : (Cond.laysStatic Bundle.tN "SUPPRESSED_SENTINEL" Bundle.listD).before args s = true) : ∀ w ∈ L, w.before args s = true := by
  intro w hw
  by_cases e1 : w = .isRef (.static Bundle.tN "UNASSIGNED_STACK" Bundle.steD)
  · rw [e1]; exact hU
  · by_cases e2 : w = .isRef (.static Bundle.tN "SUPPRESSED_SENTINEL" Bundle.listD)
    · rw [e2]; exact hN
    · by_cases e3 : w = .laysStatic Bundle.tN "UNASSIGNED_STACK" Bundle.steD
      · rw [e3]; exact lU
      · by_cases e4 : w = .laysStatic Bundle.tN "SUPPRESSED_SENTINEL" Bundle.listD
        · rw [e4]; exact lN
        · exact h1 w (List.mem_filter.mpr ⟨hw, by unfold vx_no; rw [decide_eq_true e1, decide_eq_true e2, decide_eq_true e3, decide_eq_true e4]; rfl⟩)
/-- where a static field lies, its class's statics cell in H -/
def vx_L (C n d : String) (A : Nat → Prop) (U : State) (H : Heap) : Prop := ∃ (c : ClassId) (k : Class) (i : Nat) (f : Field) (a : Nat) (cell : Cell), U.vm.findClass C = some c ∧ U.fieldFound? C n d = some (c, k, i, f) ∧ f.isStatic = true ∧ k.statics = some a ∧ H[a]? = some cell ∧ cell.vm.isStatics = true ∧ cell.cls = c ∧ f.slot < cell.slots.size ∧ k.staticTypes[f.slot]? = some f.type ∧ ¬ A a
theorem vx_L.moved {C n d : String} {A : Nat → Prop} {u U : State} {H : Heap} (hvm : u.vm.Alike U.vm) (h : vx_L C n d A u H) : vx_L C n d A U H := by
  obtain ⟨c, k, i, f, a, cell, h1, h2, h3, h4, h5, h6, h7, h8, h9, h10⟩ := h
  obtain ⟨k', hi', he⟩ := State.fieldFound?_setVm hvm h2
  exact ⟨c, k', i, f, a, cell, by rw [hvm.findClass]; exact h1, hi', h3, by rw [he]; exact h4, h5, h6, h7, h8, by rw [he]; exact h9, h10⟩
theorem vx_L.kept {C n d : String} {A : Nat → Prop} {U : State} {H H1 : Heap} (h : vx_L C n d A U H) (hq : ∀ a : Nat, a < H.size → ¬ A a → H1[a]? = H[a]?) : vx_L C n d A U H1 := by
  obtain ⟨c, k, i, f, a, cell, h1, h2, h3, h4, h5, h6, h7, h8, h9, h10⟩ := h
  exact ⟨c, k, i, f, a, cell, h1, h2, h3, h4, by rw [hq a (Array.getElem?_eq_some_iff.mp h5).1 h10]; exact h5, h6, h7, h8, h9, h10⟩
theorem vx_L.narrow {C n d : String} {A B : Nat → Prop} {U : State} {H : Heap} (h : vx_L C n d A U H) (hAB : ∀ q, B q → A q) : vx_L C n d B U H := by
  obtain ⟨c, k, i, f, a, cell, h1, h2, h3, h4, h5, h6, h7, h8, h9, h10⟩ := h
  exact ⟨c, k, i, f, a, cell, h1, h2, h3, h4, h5, h6, h7, h8, h9, fun z => h10 (hAB _ z)⟩
theorem vx_L.word {C n d : String} {A : Nat → Prop} {s : State} {args : Array Value} (h : vx_L C n d A s s.heap) : (Cond.laysStatic C n d).before args s = true := by
  obtain ⟨c, k, i, f, a, cell, h1, h2, h3, h4, h5, h6, h7, h8, h9, -⟩ := h
  show (Cond.laysStatic C n d).holds args s none s [] = true
  exact Cond.laysStatic_of h1 h2 h3 h4 h5 h6 h7 h8 h9
/-- .. and what it holds: null or some reference -/
def vx_Zq (C n d : String) (A : Nat → Prop) (U : State) (H : Heap) : Prop := va_Zq C n d A U H ∧ vx_L C n d A U H
theorem vx_Zq.moved {C n d : String} {A : Nat → Prop} {u U : State} {H : Heap} (hvm : u.vm.Alike U.vm) (h : vx_Zq C n d A u H) : vx_Zq C n d A U H := ⟨va_Zq.moved hvm h.1, vx_L.moved hvm h.2⟩
theorem vx_Zq.kept {C n d : String} {A : Nat → Prop} {U : State} {H H1 : Heap} (h : vx_Zq C n d A U H) (hq : ∀ a : Nat, a < H.size → ¬ A a → H1[a]? = H[a]?) : vx_Zq C n d A U H1 := ⟨va_Zq.kept h.1 hq, vx_L.kept h.2 hq⟩
theorem vx_Zq.narrow {C n d : String} {A B : Nat → Prop} {U : State} {H : Heap} (h : vx_Zq C n d A U H) (hAB : ∀ q, B q → A q) : vx_Zq C n d B U H := ⟨va_Zq.narrow h.1 hAB, vx_L.narrow h.2 hAB⟩
theorem vx_Zqof {args : Array Value} {s : State} {C n d : String} {A : Nat → Prop} (hl : (Cond.laysStatic C n d).before args s = true) (hini : (Cond.initialized C).before args s = true) (h : (Cond.isRef (.static C n d)).before args s = true) (hA : ∀ a : Nat, a < s.heap.size → ¬ A a) : vx_Zq C n d A s s.heap := by
  refine ⟨va_Zqof hl hini h hA, ?_⟩
  obtain ⟨c, k, i, f, a, cell, h1, h2, h3, h4, h5, h6, h7, h8, h9⟩ := Cond.laysStatic_spec hl
  exact ⟨c, k, i, f, a, cell, h1, h2, h3, h4, h5, h6, h7, h8, h9, hA a (Array.getElem?_eq_some_iff.mp h5).1⟩
theorem vx_isRef {C n d : String} {v : Value} {A : Nat → Prop} {s : State} {args : Array Value} (h : va_Z C n d v A s s.heap) (hv : v.isRef = true) : (Cond.isRef (.static C n d)).before args s = true := by
  obtain ⟨cf, kf, fi, f, a, cell, h1, h2, h3, h4, h5, h6, h7, -⟩ := h
  have he : (Term.static C n d).eval args s none [] s = some v := by
    simp [Term.eval, State.fieldNamed?, h1, h2, h4, h5, h6, h7]
  simp only [Cond.before, Cond.holds, Cond.value, he]
  cases v <;> simp_all [Value.isRef]
theorem vx_isRefq {C n d : String} {A : Nat → Prop} {s : State} {args : Array Value} (h : va_Zq C n d A s s.heap) : (Cond.isRef (.static C n d)).before args s = true := by
  rcases h with h | ⟨t, h⟩
  · exact vx_isRef h rfl
  · exact vx_isRef h rfl
/-- the same frame, seen from here: as if the method were called anew in this heap -/
theorem vx_rebase {T : State} (X : Stand p l e R s m args below meth c T locs cells slots) {R' : Room} (hf : R'.frames ≤ R.frames) (hl : R'.locals ≤ R.locals) (hc : cells + R'.cells ≤ R.cells) (hs : slots + R'.slots ≤ R.slots) :
    Stand p l e R' ((T.setVm s.vm).setFrames (.invoking m args :: below)) m args below meth c T [] 0 0 := by
  have htop : (T.setVm s.vm).topJava?.isSome := X.here.top
  have hF : ((T.setVm s.vm).setFrames (.invoking m args :: below)).frames = .invoking m args :: below := State.frames_setFrames _ (State.cur_lt_of_top htop)
  obtain ⟨g₀, hg0⟩ := Option.isSome_iff_exists.mp htop
  obtain ⟨r, hr⟩ := State.topJava?_eq_some.mp hg0
  have hl9 : e.platform.stackLimits (T.setVm s.vm).me = e.platform.stackLimits s.me := X.limits
  have hb9 : (T.setVm s.vm).me.stackBytes = s.me.stackBytes := X.bytes
  refine ⟨X.admits, X.cas, X.clock, hF, ?_, X.hears, X.method, X.code, X.here, X.tail, X.warmed, ?_, ?_, ?_⟩
  · have h := X.room
    have hU : ((T.setVm s.vm).setFrames (.invoking m args :: below)).localsInUse = s.localsInUse := by
      rw [State.localsInUse_invoking hF (meth := meth) (c := c) X.method X.code, State.localsInUse_invoking X.frames X.method X.code]
    simp only [State.hasRoom, Bool.and_eq_true, decide_eq_true_eq] at h ⊢
    obtain ⟨⟨⟨⟨h1, h2, h3, h4, h5, h6⟩, h7⟩, h8⟩, h9⟩ := h
    rw [X.frames, List.length_cons] at h2 h3
    have q1 := X.heapSize
    have q2 := X.used
    simp only [hF, hU, List.length_cons, State.stackLimits_setFrames, State.stackBytes_setFrames, hl9, hb9]
    refine ⟨⟨⟨⟨by omega, by omega, by omega, by omega, by omega, h6⟩, ?_⟩, ?_⟩, X.book⟩
    · show T.heap.size + R'.cells ≤ e.platform.maxCells
      omega
    · show T.slotsUsed + R'.slots ≤ e.platform.maxSlots
      omega
  · rw [State.stackLimits_setFrames]; rfl
  · rw [State.stackBytes_setFrames]; rfl
  · refine ⟨?_, Nat.le_refl _, Nat.le_refl _, ?_, ?_, fun a c9 h9 => ⟨c9, h9, rfl, rfl, fun _ _ => rfl⟩⟩
    · obtain ⟨t, ht, -⟩ := State.frames_cons hr
      show T.setVm s.vm = { ((T.setVm s.vm).setFrames (.invoking m args :: below)).setFrames (T.setVm s.vm).frames with heap := T.heap, slotsUsed := T.slotsUsed }
      rw [State.setFrames_setFrames, State.setFrames_self ht]
      rfl
    · show T.slotsUsed = T.slotsUsed + ((T.heap.toList.drop T.heap.size).map (·.slots.size)).sum
      rw [List.drop_eq_nil_of_le (Nat.le_of_eq Array.length_toList)]
      rfl
    · show ((T.heap.toList.drop T.heap.size).map (·.slots.size)).sum ≤ 0
      rw [List.drop_eq_nil_of_le (Nat.le_of_eq Array.length_toList)]
      exact Nat.le_refl _
/-- 'throw new E()': new; dup; invokespecial; athrow -/
theorem vx_throw0 {cc : ByteArray} {pc : Nat} (hexec : p.tables.exec = Jvm.exec) (hb : c.code = cc) (hl : l.stackTraces = false) {own cls : String} {names : List String} {ik ic mc ms : Nat} {A : Nat → Prop}
    (hown : s.vm.findClass own = some m.cls) (hcls : Bundle.fit cls = true) (hnames : ∀ n ∈ names, Bundle.fit n = true)
    (hk : (Cond.classLink own ik cls).before args s = true) (hini : (Cond.initialized cls).before args s = true) (hat : ∀ w ∈ vx_at0 own ic cls names, w.before args s = true)
    (hgood : ∀ w ∈ Cond.classLink own ik cls :: Cond.initialized cls :: vx_at0 own ic cls names, vx_ot w = true)
    (hU : vx_Zq Bundle.tN "UNASSIGNED_STACK" Bundle.steD A s s.heap) (hN : vx_Zq Bundle.tN "SUPPRESSED_SENTINEL" Bundle.listD A s s.heap) (hS : va_S A s.heap H locs) (hsize : ls.size = c.maxLocals)
    (d0 : decode cc pc = .ok (.new ik, 3)) (d3 : decode cc (pc + 3) = .ok (.dup, 1)) (d4 : decode cc (pc + 4) = .ok (.invokespecial ic, 3)) (d7 : decode cc (pc + 7) = .ok (.athrow, 1))
    (hout : ∀ x ∈ c.exceptionTable.toList, covers x (pc + 7) = false)
    (hRframes : names.length + 3 < R.frames) (hRlocals : (rest.map fun v => v.category).sum + (13 * (names.length + 1) + 42) ≤ R.locals) (hRcells : cells + 1 ≤ R.cells) (hRslots : slots + 6 ≤ R.slots) (hlocks : meth.locks = false)
    (hx : ∀ t : State, s.vm.Alike t.vm → H.size ≤ t.heap.size → (∀ q : Nat, q < H.size → t.heap[q]? = H[q]?) → XC cls s t)
    (hf : ∀ z ∈ locs, free z.base) (hc : cells + 1 ≤ mc) (hs : slots + 6 ≤ ms) :
    W p l e R s m args below meth c H locs cells slots (vx_MQ below Qc XC args s mc ms free) (F0 m pc ls rest) := by
  intro T hT X
  have htr : e.platform.stackTraces = false := (show e.platform.stackTraces = l.stackTraces by rw [X.admits.platform]).trans hl
  have Y := vx_rebase X (R' := { frames := R.frames, locals := R.locals, cells := 1, slots := 6 }) (Nat.le_refl _) (Nat.le_refl _) hRcells hRslots
  obtain ⟨s', hA⟩ : ∃ z, z = (T.setVm s.vm).setFrames (.invoking m args :: below) := ⟨_, rfl⟩
  rw [← hA] at Y
  have hvm : s'.vm = s.vm := by rw [hA]; rfl
  have hhp : s'.heap = H := by rw [hA]; exact hT
  have hW0 : s.WarmedH s'.vm := by rw [hvm]; exact State.WarmedH.refl s
  have hat' : ∀ w ∈ vx_at0 own ic cls names, w.before args s' = true := fun w hw => vx_ot_at hW0 hvm.symm (hgood w (List.mem_cons_of_mem _ (List.mem_cons_of_mem _ hw))) (hat w hw)
  have hk' : (Cond.classLink own ik cls).before args s' = true := vx_ot_at hW0 hvm.symm (hgood _ List.mem_cons_self) hk
  have hini' : (Cond.initialized cls).before args s' = true := vx_ot_at hW0 hvm.symm (hgood _ (List.mem_cons_of_mem _ List.mem_cons_self)) hini
  have hU' : vx_Zq Bundle.tN "UNASSIGNED_STACK" Bundle.steD A s' s'.heap := by rw [hhp]; exact vx_Zq.moved hW0.alike (hU.kept hS.2.1)
  have hN' : vx_Zq Bundle.tN "SUPPRESSED_SENTINEL" Bundle.listD A s' s'.heap := by rw [hhp]; exact vx_Zq.moved hW0.alike (hN.kept hS.2.1)
  have h : ∀ w ∈ Bundle.ownAtoms0 own ic cls names, w.before args s' = true := vx_own hat' (vx_isRefq hU'.1) (vx_isRefq hN'.1) hU'.2.word hN'.2.word
  have hown' : s'.vm.findClass own = some m.cls := by rw [hvm]; exact hown
  have hins : (Cond.instantiable cls 6).before args s' = true := h _ (by simp [Bundle.ownAtoms0])
  obtain ⟨vm₁, cX, kX, hfX, hkX, -, -, X₁, st1⟩ := Y.newCold hexec (own := own) (C := cls) (index := ik) (n := 6) hown' hk' hins hini'
    (g := F0 m pc ls rest) rfl (by rw [hb]; exact d0) (Nat.le_refl _) (Nat.le_refl _)
  generalize hT1 : (T.setVm vm₁).pushCell { cls := cX, slots := kX.instanceTypes.map defaultValue, vm := .none } = T1 at X₁ st1
  have hcat : (Value.ref T.heap.size).category = 1 := rfl
  have hcellA : T1.heap[T.heap.size]? = some (freshCell cX kX) := by rw [← hT1]; exact State.heap_pushCell_size _ _
  have d3' : decode c.code (pc + 3) = .ok (.dup, 1) := by rw [hb]; exact d3
  obtain ⟨U, hsteps, hrun, hend, hW, hsame, ce, hce, hO⟩ := X₁.ctorThrow0 hexec htr (own := own) (cls := cls) (names := names) (ic := ic) hown' hcls hnames h (fun x hx => nomatch hx) hfX hkX hcellA (by rw [hhp, hT]; exact Nat.le_refl _)
    (g := { method := m, pc := pc + 4, locals := ls, stack := .ref T.heap.size :: .ref T.heap.size :: rest, locked := none }) rfl hsize rfl rfl (rest := rest) rfl
    (by rw [hb]; exact d4) (by rw [hb]; exact d7) hout hRframes (by simp only [List.map_cons, List.sum_cons, hcat]; omega) hlocks
  obtain ⟨f1, f2⟩ := vx_frame hsame
  rw [hhp] at f1 f2
  have hWs : s.WarmedH U.vm := State.WarmedH.trans hW0 hW
  have hcl : s.vm.findClass cls = some ce.cls := by
    have h9 := hO.cls
    rw [hvm] at h9
    exact h9
  have hall : s.sameButNew ({ U with vm := s.vm } : State) locs mc ms := by
    subst hA
    obtain ⟨e1, e2⟩ := hsame
    rw [State.setFrames_setFrames] at e1
    have h2 : (T.setVm s.vm).sameButNew ({ U with vm := s.vm } : State) [] (0 + 1) (0 + 6) := ⟨e1, e2⟩
    have h3 := X.same.trans h2
    rw [List.append_nil] at h3
    exact h3.mono hc hs
  refine ⟨U, ?_, .threw T.heap.size, hrun, hend, Or.inr ⟨T.heap.size, rfl, cls, ce, locs, hx U hWs.alike f1 (fun q hq => f2 q hq (fun z hz => nomatch hz)), hce, hO.vm, hcl, hWs, hall, hf⟩⟩
  refine st1 _ ?_
  show Steps p.tables e below (T1.setTop { method := m, pc := pc + 3, locals := ls, stack := .ref T.heap.size :: rest, locked := none }) _
  jvm_step X₁.here [X₁.here.top, hexec, d3', Value.category]
  exact hsteps
/-- 'throw new E("text")': new; dup; ldc; invokespecial; athrow -/
theorem vx_throwS {cc : ByteArray} {pc : Nat} (hexec : p.tables.exec = Jvm.exec) (hb : c.code = cc) (hl : l.stackTraces = false) {own cls text : String} {names : List String} {ik is ic mc ms sa : Nat} {A : Nat → Prop}
    (hown : s.vm.findClass own = some m.cls) (hcls : Bundle.fit cls = true) (hnames : ∀ n ∈ names, Bundle.fit n = true)
    (hk : (Cond.classLink own ik cls).before args s = true) (hini : (Cond.initialized cls).before args s = true) (hstr : vk_R own is text sa s) (hat : ∀ w ∈ vx_atS own ic cls names, w.before args s = true)
    (hgood : ∀ w ∈ Cond.classLink own ik cls :: Cond.initialized cls :: vx_atS own ic cls names, vx_ot w = true)
    (hU : vx_Zq Bundle.tN "UNASSIGNED_STACK" Bundle.steD A s s.heap) (hN : vx_Zq Bundle.tN "SUPPRESSED_SENTINEL" Bundle.listD A s s.heap) (hS : va_S A s.heap H locs) (hsize : ls.size = c.maxLocals)
    (d0 : decode cc pc = .ok (.new ik, 3)) (d3 : decode cc (pc + 3) = .ok (.dup, 1)) (d4 : decode cc (pc + 4) = .ok (.ldc is, 2)) (d6 : decode cc (pc + 6) = .ok (.invokespecial ic, 3)) (d9 : decode cc (pc + 9) = .ok (.athrow, 1))
    (hout : ∀ x ∈ c.exceptionTable.toList, covers x (pc + 9) = false)
    (hRframes : names.length + 3 < R.frames) (hRlocals : (rest.map fun v => v.category).sum + (13 * (names.length + 1) + 43) ≤ R.locals) (hRcells : cells + 1 ≤ R.cells) (hRslots : slots + 6 ≤ R.slots) (hlocks : meth.locks = false)
    (hx : ∀ t : State, s.vm.Alike t.vm → H.size ≤ t.heap.size → (∀ q : Nat, q < H.size → t.heap[q]? = H[q]?) → XC cls s t)
    (hf : ∀ z ∈ locs, free z.base) (hc : cells + 1 ≤ mc) (hs : slots + 6 ≤ ms) :
    W p l e R s m args below meth c H locs cells slots (vx_MQ below Qc XC args s mc ms free) (F0 m pc ls rest) := by
  intro T hT X
  have htr : e.platform.stackTraces = false := (show e.platform.stackTraces = l.stackTraces by rw [X.admits.platform]).trans hl
  have Y := vx_rebase X (R' := { frames := R.frames, locals := R.locals, cells := 1, slots := 6 }) (Nat.le_refl _) (Nat.le_refl _) hRcells hRslots
  obtain ⟨s', hA⟩ : ∃ z, z = (T.setVm s.vm).setFrames (.invoking m args :: below) := ⟨_, rfl⟩
  rw [← hA] at Y
  have hvm : s'.vm = s.vm := by rw [hA]; rfl
  have hhp : s'.heap = H := by rw [hA]; exact hT
  have hW0 : s.WarmedH s'.vm := by rw [hvm]; exact State.WarmedH.refl s
  have hat' : ∀ w ∈ vx_atS own ic cls names, w.before args s' = true := fun w hw => vx_ot_at hW0 hvm.symm (hgood w (List.mem_cons_of_mem _ (List.mem_cons_of_mem _ hw))) (hat w hw)
  have hk' : (Cond.classLink own ik cls).before args s' = true := vx_ot_at hW0 hvm.symm (hgood _ List.mem_cons_self) hk
  have hini' : (Cond.initialized cls).before args s' = true := vx_ot_at hW0 hvm.symm (hgood _ (List.mem_cons_of_mem _ List.mem_cons_self)) hini
  have hU' : vx_Zq Bundle.tN "UNASSIGNED_STACK" Bundle.steD A s' s'.heap := by rw [hhp]; exact vx_Zq.moved hW0.alike (hU.kept hS.2.1)
  have hN' : vx_Zq Bundle.tN "SUPPRESSED_SENTINEL" Bundle.listD A s' s'.heap := by rw [hhp]; exact vx_Zq.moved hW0.alike (hN.kept hS.2.1)
  have h : ∀ w ∈ Bundle.ownAtoms own ic cls names, w.before args s' = true := vx_own hat' (vx_isRefq hU'.1) (vx_isRefq hN'.1) hU'.2.word hN'.2.word
  have hown' : s'.vm.findClass own = some m.cls := by rw [hvm]; exact hown
  have hins : (Cond.instantiable cls 6).before args s' = true := h _ (by simp [Bundle.ownAtoms])
  obtain ⟨vm₁, cX, kX, hfX, hkX, -, -, X₁, st1⟩ := Y.newCold hexec (own := own) (C := cls) (index := ik) (n := 6) hown' hk' hins hini'
    (g := F0 m pc ls rest) rfl (by rw [hb]; exact d0) (Nat.le_refl _) (Nat.le_refl _)
  generalize hT1 : (T.setVm vm₁).pushCell { cls := cX, slots := kX.instanceTypes.map defaultValue, vm := .none } = T1 at X₁ st1
  have hcat : (Value.ref T.heap.size).category = 1 := rfl
  have hcellA : T1.heap[T.heap.size]? = some (freshCell cX kX) := by rw [← hT1]; exact State.heap_pushCell_size _ _
  have d3' : decode c.code (pc + 3) = .ok (.dup, 1) := by rw [hb]; exact d3
  have d4' : decode c.code (pc + 4) = .ok (.ldc is, 2) := by rw [hb]; exact d4
  have hstr' : vk_R own is text sa s' := vk_R.warm hW0 hstr
  obtain ⟨U, hsteps, hrun, hend, hW, hsame, ce, hce, hO⟩ := X₁.ctorThrowS hexec htr (own := own) (cls := cls) (names := names) (ic := ic) hown' hcls hnames h (fun x hx => nomatch hx) hfX hkX hcellA (by rw [hhp, hT]; exact Nat.le_refl _) (msg := .ref sa) rfl
    (g := { method := m, pc := pc + 6, locals := ls, stack := .ref sa :: .ref T.heap.size :: .ref T.heap.size :: rest, locked := none }) rfl hsize rfl rfl (rest := rest) rfl
    (by rw [hb]; exact d6) (by rw [hb]; exact d9) hout hRframes (by simp only [List.map_cons, List.sum_cons, hcat]; omega) hlocks
  obtain ⟨f1, f2⟩ := vx_frame hsame
  rw [hhp] at f1 f2
  have hWs : s.WarmedH U.vm := State.WarmedH.trans hW0 hW
  have hcl : s.vm.findClass cls = some ce.cls := by
    have h9 := hO.cls
    rw [hvm] at h9
    exact h9
  have hall : s.sameButNew ({ U with vm := s.vm } : State) locs mc ms := by
    subst hA
    obtain ⟨e1, e2⟩ := hsame
    rw [State.setFrames_setFrames] at e1
    have h2 : (T.setVm s.vm).sameButNew ({ U with vm := s.vm } : State) [] (0 + 1) (0 + 6) := ⟨e1, e2⟩
    have h3 := X.same.trans h2
    rw [List.append_nil] at h3
    exact h3.mono hc hs
  refine ⟨U, ?_, .threw T.heap.size, hrun, hend, Or.inr ⟨T.heap.size, rfl, cls, ce, locs, hx U hWs.alike f1 (fun q hq => f2 q hq (fun z hz => nomatch hz)), hce, hO.vm, hcl, hWs, hall, hf⟩⟩
  refine st1 _ ?_
  show Steps p.tables e below (T1.setTop { method := m, pc := pc + 3, locals := ls, stack := .ref T.heap.size :: rest, locked := none }) _
  jvm_step X₁.here [X₁.here.top, hexec, d3', Value.category]
  exact X₁.ldcString hexec (own := own) (text := text) (index := is) (a := sa) hown' hstr'.1 hstr'.2
    (g := { method := m, pc := pc + 4, locals := ls, stack := .ref T.heap.size :: .ref T.heap.size :: rest, locked := none }) rfl d4' _ hsteps
/-- 'throw new E("text")', the text by a wide index -/
theorem vx_throwSW {cc : ByteArray} {pc : Nat} (hexec : p.tables.exec = Jvm.exec) (hb : c.code = cc) (hl : l.stackTraces = false) {own cls text : String} {names : List String} {ik is ic mc ms sa : Nat} {A : Nat → Prop}
    (hown : s.vm.findClass own = some m.cls) (hcls : Bundle.fit cls = true) (hnames : ∀ n ∈ names, Bundle.fit n = true)
    (hk : (Cond.classLink own ik cls).before args s = true) (hini : (Cond.initialized cls).before args s = true) (hstr : vk_R own is text sa s) (hat : ∀ w ∈ vx_atS own ic cls names, w.before args s = true)
    (hgood : ∀ w ∈ Cond.classLink own ik cls :: Cond.initialized cls :: vx_atS own ic cls names, vx_ot w = true)
    (hU : vx_Zq Bundle.tN "UNASSIGNED_STACK" Bundle.steD A s s.heap) (hN : vx_Zq Bundle.tN "SUPPRESSED_SENTINEL" Bundle.listD A s s.heap) (hS : va_S A s.heap H locs) (hsize : ls.size = c.maxLocals)
    (d0 : decode cc pc = .ok (.new ik, 3)) (d3 : decode cc (pc + 3) = .ok (.dup, 1)) (d4 : decode cc (pc + 4) = .ok (.ldc_w is, 3)) (d7 : decode cc (pc + 7) = .ok (.invokespecial ic, 3)) (d10 : decode cc (pc + 10) = .ok (.athrow, 1))
    (hout : ∀ x ∈ c.exceptionTable.toList, covers x (pc + 10) = false)
    (hRframes : names.length + 3 < R.frames) (hRlocals : (rest.map fun v => v.category).sum + (13 * (names.length + 1) + 43) ≤ R.locals) (hRcells : cells + 1 ≤ R.cells) (hRslots : slots + 6 ≤ R.slots) (hlocks : meth.locks = false)
    (hx : ∀ t : State, s.vm.Alike t.vm → H.size ≤ t.heap.size → (∀ q : Nat, q < H.size → t.heap[q]? = H[q]?) → XC cls s t)
    (hf : ∀ z ∈ locs, free z.base) (hc : cells + 1 ≤ mc) (hs : slots + 6 ≤ ms) :
    W p l e R s m args below meth c H locs cells slots (vx_MQ below Qc XC args s mc ms free) (F0 m pc ls rest) := by
  intro T hT X
  have htr : e.platform.stackTraces = false := (show e.platform.stackTraces = l.stackTraces by rw [X.admits.platform]).trans hl
  have Y := vx_rebase X (R' := { frames := R.frames, locals := R.locals, cells := 1, slots := 6 }) (Nat.le_refl _) (Nat.le_refl _) hRcells hRslots
  obtain ⟨s', hA⟩ : ∃ z, z = (T.setVm s.vm).setFrames (.invoking m args :: below) := ⟨_, rfl⟩
  rw [← hA] at Y
  have hvm : s'.vm = s.vm := by rw [hA]; rfl
  have hhp : s'.heap = H := by rw [hA]; exact hT
  have hW0 : s.WarmedH s'.vm := by rw [hvm]; exact State.WarmedH.refl s
  have hat' : ∀ w ∈ vx_atS own ic cls names, w.before args s' = true := fun w hw => vx_ot_at hW0 hvm.symm (hgood w (List.mem_cons_of_mem _ (List.mem_cons_of_mem _ hw))) (hat w hw)
  have hk' : (Cond.classLink own ik cls).before args s' = true := vx_ot_at hW0 hvm.symm (hgood _ List.mem_cons_self) hk
  have hini' : (Cond.initialized cls).before args s' = true := vx_ot_at hW0 hvm.symm (hgood _ (List.mem_cons_of_mem _ List.mem_cons_self)) hini
  have hU' : vx_Zq Bundle.tN "UNASSIGNED_STACK" Bundle.steD A s' s'.heap := by rw [hhp]; exact vx_Zq.moved hW0.alike (hU.kept hS.2.1)
  have hN' : vx_Zq Bundle.tN "SUPPRESSED_SENTINEL" Bundle.listD A s' s'.heap := by rw [hhp]; exact vx_Zq.moved hW0.alike (hN.kept hS.2.1)
  have h : ∀ w ∈ Bundle.ownAtoms own ic cls names, w.before args s' = true := vx_own hat' (vx_isRefq hU'.1) (vx_isRefq hN'.1) hU'.2.word hN'.2.word
  have hown' : s'.vm.findClass own = some m.cls := by rw [hvm]; exact hown
  have hins : (Cond.instantiable cls 6).before args s' = true := h _ (by simp [Bundle.ownAtoms])
  obtain ⟨vm₁, cX, kX, hfX, hkX, -, -, X₁, st1⟩ := Y.newCold hexec (own := own) (C := cls) (index := ik) (n := 6) hown' hk' hins hini'
    (g := F0 m pc ls rest) rfl (by rw [hb]; exact d0) (Nat.le_refl _) (Nat.le_refl _)
  generalize hT1 : (T.setVm vm₁).pushCell { cls := cX, slots := kX.instanceTypes.map defaultValue, vm := .none } = T1 at X₁ st1
  have hcat : (Value.ref T.heap.size).category = 1 := rfl
  have hcellA : T1.heap[T.heap.size]? = some (freshCell cX kX) := by rw [← hT1]; exact State.heap_pushCell_size _ _
  have d3' : decode c.code (pc + 3) = .ok (.dup, 1) := by rw [hb]; exact d3
  have d4' : decode c.code (pc + 4) = .ok (.ldc_w is, 3) := by rw [hb]; exact d4
  have hstr' : vk_R own is text sa s' := vk_R.warm hW0 hstr
  obtain ⟨U, hsteps, hrun, hend, hW, hsame, ce, hce, hO⟩ := X₁.ctorThrowS hexec htr (own := own) (cls := cls) (names := names) (ic := ic) hown' hcls hnames h (fun x hx => nomatch hx) hfX hkX hcellA (by rw [hhp, hT]; exact Nat.le_refl _) (msg := .ref sa) rfl
    (g := { method := m, pc := pc + 7, locals := ls, stack := .ref sa :: .ref T.heap.size :: .ref T.heap.size :: rest, locked := none }) rfl hsize rfl rfl (rest := rest) rfl
    (by rw [hb]; exact d7) (by rw [hb]; exact d10) hout hRframes (by simp only [List.map_cons, List.sum_cons, hcat]; omega) hlocks
  obtain ⟨f1, f2⟩ := vx_frame hsame
  rw [hhp] at f1 f2
  have hWs : s.WarmedH U.vm := State.WarmedH.trans hW0 hW
  have hcl : s.vm.findClass cls = some ce.cls := by
    have h9 := hO.cls
    rw [hvm] at h9
    exact h9
  have hall : s.sameButNew ({ U with vm := s.vm } : State) locs mc ms := by
    subst hA
    obtain ⟨e1, e2⟩ := hsame
    rw [State.setFrames_setFrames] at e1
    have h2 : (T.setVm s.vm).sameButNew ({ U with vm := s.vm } : State) [] (0 + 1) (0 + 6) := ⟨e1, e2⟩
    have h3 := X.same.trans h2
    rw [List.append_nil] at h3
    exact h3.mono hc hs
  refine ⟨U, ?_, .threw T.heap.size, hrun, hend, Or.inr ⟨T.heap.size, rfl, cls, ce, locs, hx U hWs.alike f1 (fun q hq => f2 q hq (fun z hz => nomatch hz)), hce, hO.vm, hcl, hWs, hall, hf⟩⟩
  refine st1 _ ?_
  show Steps p.tables e below (T1.setTop { method := m, pc := pc + 3, locals := ls, stack := .ref T.heap.size :: rest, locked := none }) _
  jvm_step X₁.here [X₁.here.top, hexec, d3', Value.category]
  exact X₁.ldcStringW hexec (own := own) (text := text) (index := is) (a := sa) hown' hstr'.1 hstr'.2
    (g := { method := m, pc := pc + 4, locals := ls, stack := .ref T.heap.size :: .ref T.heap.size :: rest, locked := none }) rfl d4' _ hsteps
end Ends
section Bodies
variable {l : Launch}
theorem vx_ofW {y : MethodName} {ws ws' : List Cond} {rm : Room} {Pc : Array Value → State → Prop} {Qc : Array Value → State → Outcome → State → Prop} {XC : String → State → State → Prop} {mc ms : Nat} {free : Addr → Prop} {cc : ByteArray} {maxL : Nat} {ret : Option FieldType}
    (hy : plainName y.cls = true) (hw : ws = Cond.code y cc maxL ret :: ws')
    (body : ∀ p e s m args below meth c s₁, BodyLoose p l y (headSpec ws rm) cc maxL ret e s m args below meth c s₁ → c.maxLocals = maxL → (∀ x ∈ c.exceptionTable.toList, False) → Pc args s →
      W p l e (headSpec ws rm).room s m args below meth c s.heap [] 0 0 (vx_MQ below Qc XC args s mc ms free) (entryFrame m args maxL)) : vx_Met l y ws rm Pc Qc XC mc ms free := by
  refine MetFree.of_bodyS (code := cc) (maxLocals := maxL) (ret := ret) hy ?_ ?_
  · intro args s m h hn
    obtain ⟨meth, c, h1, h2, h3, h4, h5, h6, -, -⟩ := Cond.code_spec hn (atoms_spec (ws := ws) h _ (by rw [hw]; exact List.mem_cons_self))
    exact ⟨meth, c, h1, h2, h3, h4, h5, h6⟩
  · intro p e s m args below meth c s₁ B hml hP _
    have hh0 : s₁.heap = s.heap := by rw [B.state]; rfl
    have ht : ∀ x ∈ c.exceptionTable.toList, False := by
      obtain ⟨meth9, c9, h1, h2, -, -, -, -, h7, -⟩ := Cond.code_spec B.named (atoms_spec (ws := ws) B.pre _ (by rw [hw]; exact List.mem_cons_self))
      cases Option.some.inj (h1.symm.trans B.method)
      cases Option.some.inj (h2.symm.trans (Stand.of_body B).code)
      intro x hx
      rw [Array.isEmpty_iff.mp h7] at hx
      cases hx
    obtain ⟨t, a1, o, b1, b2, b3⟩ := body p e s m args below meth c s₁ B hml ht hP s₁ hh0 (Stand.of_body B)
    exact ⟨t, o, a1, b1, b2, b3⟩
/-- the table of a body with handlers -/
theorem vx_table {p : Program} {x y : MethodName} {S : Spec} {cc bytes : ByteArray} {maxL maxL' : Nat} {ret ret' : Option FieldType} {e : Env} {s s₁ : State} {m : MethodId} {args : Array Value} {below : List Frame} {meth : Method} {c : Code} {hh : List (Nat × Nat × Nat × Nat)}
    (B : BodyLoose p l y S cc maxL ret e s m args below meth c s₁) (h : (Cond.codeWith y bytes maxL' ret' hh).before args s = true) : c.exceptionTable.toList = tableOf hh := by
  obtain ⟨m9, meth9, c9, hn9, h1, h2, -, -, h6, -⟩ := Cond.codeWith_spec h
  cases Option.some.inj (hn9.symm.trans B.named)
  cases Option.some.inj (h1.symm.trans B.method)
  cases Option.some.inj (h2.symm.trans (Stand.of_body B).code)
  rw [← h6, table_eq]
end Bodies
end VXA
/-! ===== END ===== -/
/-! ===== BEGIN a static call of a method with an exception table ===== -/
section VXS
variable {p : Program} {l : Launch} {e : Env} {R : Room} {s : State} {m : MethodId} {args : Array Value} {below : List Frame} {meth : Method} {c : Code} {T : State} {H : Heap} {locs : List Loc} {cells slots : Nat}
abbrev vx_CSW (R : Room) (s : State) (args : Array Value) (own : String) (index : Nat) (y : MethodName) (bytes : ByteArray) (maxL : Nat) (ret : Option FieldType) (hh : List (Nat × Nat × Nat × Nat)) (ws : List Cond) (rm : Room) (mc ms n : Nat) : Prop :=
  (rm.cells = mc ∧ rm.slots = ms ∧ rm.frames + 1 ≤ R.frames ∧ 8 + (maxL + 11) + rm.locals ≤ R.locals ∧ (∀ w ∈ ws, ∀ (a' : Array Value) (U : State), s.WarmedH U.vm → w.before a' U = true) ∧ Cond.codeWith y bytes maxL ret hh ∈ ws) ∧
  (Cond.codeWith y bytes maxL ret hh).before args s = true ∧ (Cond.initialized y.cls).before args s = true ∧ (y.cls ≠ "java/lang/invoke/MethodHandle" ∧ y.cls ≠ "java/lang/invoke/VarHandle") ∧
  (∀ sig, parseMethodDescriptor y.desc = some sig → n = sig.parameters.length) ∧ (Cond.methodLink own index y).before args s = true ∧ (Cond.static y).before args s = true
theorem vx_cwSW {own : String} {index maxL mc ms : Nat} {y : MethodName} {bytes : ByteArray} {ret : Option FieldType} {hh : List (Nat × Nat × Nat × Nat)} {Ts ws ws' : List Cond} {rm : Room} (n : Nat) (ht : ∀ w ∈ Ts, w.before args s = true) (hT : GoodIn Ts (va_wsS own index y ws)) (hw : ws = Cond.codeWith y bytes maxL ret hh :: ws') (hrc : rm.cells = mc) (hrs : rm.slots = ms)
    (hd : y.cls ≠ "java/lang/invoke/MethodHandle" ∧ y.cls ≠ "java/lang/invoke/VarHandle" ∧ (parseMethodDescriptor y.desc).map (fun d => d.parameters.length) = some n) (hR : rm.frames + 1 ≤ R.frames ∧ 8 + (maxL + 11) + rm.locals ≤ R.locals) :
    vx_CSW R s args own index y bytes maxL ret hh ws rm mc ms n := by
  have ok : ∀ w ∈ va_wsS own index y ws, w.before args s = true := fun w h => ht w (hT w h).1
  have hG : GoodIn Ts ws := fun w h => hT w (by unfold va_wsS; exact List.mem_append_right _ h)
  have hc : Cond.codeWith y bytes maxL ret hh ∈ ws := by rw [hw]; exact List.mem_cons_self
  refine ⟨⟨hrc, hrs, hR.1, hR.2, pay_in ht hG, hc⟩, ht _ (hG _ hc).1, ok _ (by simp [va_wsS]), ⟨hd.1, hd.2.1⟩, fun sig h => ?_, ok _ (by simp [va_wsS]), ok _ (by simp [va_wsS])⟩
  have h2 := hd.2.2
  rw [h] at h2
  exact (Option.some.inj h2).symm
theorem vx_callSW (X : Stand p l e R s m args below meth c T locs cells slots) (hexec : p.tables.exec = Jvm.exec) {own : String} {index : Nat} {y : MethodName} {bytes : ByteArray} {maxL : Nat} {ret : Option FieldType} {hh : List (Nat × Nat × Nat × Nat)}
    (hown : s.vm.findClass own = some m.cls) (hlink : (Cond.methodLink own index y).before args s = true) (hstat : (Cond.static y).before args s = true) (hinit : (Cond.initialized y.cls).before args s = true)
    (hcode : (Cond.codeWith y bytes maxL ret hh).before args s = true) (hy : y.cls ≠ "java/lang/invoke/MethodHandle" ∧ y.cls ≠ "java/lang/invoke/VarHandle")
    {W9 : Nat} {Pre : Pt → Array Value → Prop} {Post : Pt → Array Value → Option Value → Pt → Prop} (hK : Back l R p e below s args y 3 W9 Pre Post)
    {g : JFrame} (hg : g.method = m) (hsize : g.locals.size = c.maxLocals) {argsL rest : List Value} (hlen : ∀ sig, parseMethodDescriptor y.desc = some sig → argsL.length = sig.parameters.length)
    (hstack : g.stack = argsL.reverse ++ rest) (hW : 2 * g.monitorRoom + (rest.map fun v => v.category).sum ≤ W9) (hdg : decode c.code g.pc = .ok (.invokestatic index, 3))
    (hpre : ∀ vm₁, s.WarmedH vm₁ → Pre ⟨T.setVm vm₁, locs, cells, slots⟩ argsL.toArray) :
    ∃ (v : Option Value) (vm₁ : Vm) (B : Pt), s.WarmedH vm₁ ∧ Stand p l e R s m args below meth c B.U B.locs B.cells B.slots ∧ Post ⟨T.setVm vm₁, locs, cells, slots⟩ argsL.toArray v B ∧
      ∀ target, Steps p.tables e below (B.U.setTop { g with pc := g.pc + 3, stack := v.toList ++ rest }) target → Steps p.tables e below (T.setTop g) target := by
  obtain ⟨mk, methM, cM, hnamed, hmethM, -, -, -, -, -, -, hsigM⟩ := Cond.codeWith_spec hcode
  have hstatic : methM.isStatic = true := Cond.static_spec hnamed hmethM hstat
  obtain ⟨kP, hkP, -⟩ := className_of_methodNamed hnamed
  have hinitP : kP.init = .initialized := Cond.initialized_spec (findClass_of_methodNamed hnamed) hkP hinit
  obtain ⟨vm₁, X₁, hstep₁⟩ := X.invokestatic hexec hown hlink hnamed hmethM hstatic hkP hinitP hy (g := g) hg (argsL := argsL) (rest := rest) (hlen _ hsigM) hstack hdg
  obtain ⟨v, B, X', hpost, hsteps⟩ := hK m meth c ⟨T.setVm vm₁, locs, cells, slots⟩ { g with stack := rest } (.invokestatic index) mk argsL.toArray X₁ hg hsize hdg hW (X₁.named hnamed) (hpre vm₁ X₁.warmed)
  exact ⟨v, vm₁, B, X₁.warmed, X', hpost, fun target h => hstep₁ _ fun acts => by rw [doInvoke_state]; exact hsteps.trans h⟩
theorem vx_runSW {y : MethodName} {bytes cc : ByteArray} {maxL nL mc ms n index : Nat} {ret : Option FieldType} {hh : List (Nat × Nat × Nat × Nat)} {ws : List Cond} {rm : Room} {Pc : Array Value → State → Prop} {Qc : Array Value → State → Outcome → State → Prop} {free : Addr → Prop} {Ts : List Cond} {own : String} {As rest : List Value} {g : JFrame}
    (S : CallFix p m c cc nL s args Ts own) (hM : Met l y ws rm Pc Qc mc ms free) (cw : vx_CSW R s args own index y bytes maxL ret hh ws rm mc ms n) (hp : PreS s H Pc As)
    (hg : g.method = m) (hn : As.length = n) (hsize : g.locals.size = nL) (hstack : g.stack = As.reverse ++ rest) (hW : 2 * g.monitorRoom + (rest.map fun v => v.category).sum ≤ 8) (hdg : decode cc g.pc = .ok (.invokestatic index, 3)) (hf : cells + mc ≤ R.cells ∧ slots + ms ≤ R.slots) :
    va_Run p l e R s m args below meth c H locs cells slots mc ms g rest (Qc As.toArray) (free) := by
  obtain ⟨⟨hrc, hrs, hfr, hlo, hws, hcw⟩, hcode, hini, hy, hlen, hl, hstt⟩ := cw
  have hK : Back l R p e below s args y 3 8 (PreOf R mc ms Pc) (PostOf Qc mc ms free) := va_backW (hh := hh) (bytes := bytes) (maxL := maxL) (ret := ret) hM hp.1 hrc hrs hfr hlo hws hcw (fun a' U hW => word_at hW (Or.inl (by first | rfl | simp [Cond.onTables, Cond.keeps, Cond.steady])) hini)
  obtain ⟨hx, hb, hml, ho, -⟩ := S
  intro T hT X
  obtain ⟨v, vm₁, ⟨U', l2, c2, s2⟩, hW₁, X', ⟨g', mk, t, L, e1, e2, hq, h1, hL, h2, h3⟩, st⟩ := vx_callSW X hx (hh := hh) (bytes := bytes) (maxL := maxL) (ret := ret) ho hl hstt hini hcode hy hK hg (hsize.trans hml.symm) (argsL := As) (rest := rest) (fun sig h => hn.trans (hlen sig h)) hstack hW (by rw [hb]; exact hdg)
    (fun vm₁ hW₁ => ⟨hf.1, hf.2, hp.2 (T.setVm vm₁) hT hW₁⟩)
  dsimp only [Pt.U, Pt.locs, Pt.cells, Pt.slots] at X' e1 e2 h1 h2 h3 st
  subst h1; subst h2; subst h3
  exact ⟨v, (T.setVm vm₁).calling g' mk As.toArray, t, U', L, hT, X', hL, e1, e2, hq, st⟩
/-- not caught here, past rows that name other classes: it goes on to the caller -/
theorem vx_outP {p : Program} {l : Launch} {e : Env} {R : Room} {s : State} {m : MethodId} {args : Array Value} {below : List Frame} {meth : Method} {c : Code} {H : Heap} {locs : List Loc} {cells slots : Nat} {free : Addr → Prop} {ls : Array Slot} {rest : List Value} {Qc : Array Value → State → Outcome → State → Prop} {XC : String → State → State → Prop}
    {pc : Nat} {own E : String} {ce : Cell} {q : Addr} {mc ms : Nat} (hown : s.vm.findClass own = some m.cls) (hlocks : meth.locks = false)
    (hpass : ∀ z ∈ c.exceptionTable.toList, covers z pc = false ∨ (z.catchType ≠ 0 ∧ ∃ nm : String, (Cond.classLink own z.catchType nm).before args s = true ∧ va_Nc E nm s)) (hcell : H[q]? = some ce) (hv : ce.vm = .none) (hcl : s.vm.findClass E = some ce.cls)
    (hx : ∀ t : State, t.heap = H → s.vm.Alike t.vm → XC E s t) (hf : ∀ z ∈ locs, free z.base) (hc : cells ≤ mc) (hs : slots ≤ ms) :
    vx_W p l e R s m args below meth c H locs cells slots (vx_MQ below Qc XC args s mc ms free) (F0 m pc ls rest) q := by
  intro T hT X
  have hpl : e.platform.magicAccessors = ({} : Platform).magicAccessors := by rw [X.admits.platform]
  obtain ⟨vm', hW', X', st⟩ := X.outThrough hlocks q (g := F0 m pc ls rest) rfl rfl rfl (cell := ce) (by rw [hT]; exact hcell) (by rw [hv]; rfl)
    (by obtain ⟨k9, h9, -⟩ := Vm.findClass_spec hcl; exact ⟨k9, h9⟩) (fun z hz => by
      rcases hpass z hz with h | ⟨hz0, nm, hl1, hn1⟩
      · exact Or.inl h
      · obtain ⟨c6, hc6, hcl6⟩ := Cond.classLink_spec hown hl1 e.platform hpl
        obtain ⟨a8, b8, h1, h2, h3⟩ := hn1
        cases Option.some.inj (h1.symm.trans hcl)
        cases Option.some.inj (h2.symm.trans hc6)
        exact Or.inr ⟨hz0, _, hcl6, h3⟩)
  obtain ⟨g₀, hfr⟩ := X'.frames_eq
  have hcell9 : ((T.setVm vm').setFrames (.throwing q :: below)).heap[q]? = some ce := by
    show T.heap[q]? = some ce
    rw [hT]; exact hcell
  have hend : Ended ((T.setVm vm').setFrames (.throwing q :: below)) below (.threw q) := State.frames_setFrames _ (State.cur_lt_of_frames hfr)
  refine ⟨(T.setVm vm').setFrames (.throwing q :: below), ?_, .threw q, X'.here.running, hend, Or.inr ⟨q, rfl, E, ce, locs, hx _ hT (X'.ends _).1.alike, hcell9, hv, hcl, (X'.ends _).1, (X'.ends _).2.mono hc hs, hf⟩⟩
  rw [X.pushThrowing_eq]
  exact st
/-- a thing of a world lies in the heap -/
theorem vx_lt {D : va_G} {cl : List vw_C} {ws : va_W} {H1 : Heap} (h : va_P D cl ws H1) {k : Nat} {q : Nat × va_E} (hk : ws[k]? = some q) : q.1 < H1.size := (h k q hk).lt
end VXS
/-! ===== END ===== -/
/-! ===== BEGIN methods with a table of their own: called by a name, returning or throwing ===== -/
section VXH
/-! vx_backW, vx_callVX, vx_callSX, vx_callVW, vx_runVW, vx_runVX, vx_runSX, vx_ofWH follow the same proofs as their sisters above (Free/Laws.lean, Shelf42/LK1.lean); vx_outP calls Shelf42/NT130.lean (outThrough). -/
section
variable {l : Launch} {R : Room} {p : Program} {e : Env} {below : List Frame} {s : State} {sargs : Array Value} {y : MethodName} {len W9 : Nat}
theorem vx_backW {ws : List Cond} {rm : Room} {Pc : Array Value → State → Prop} {Qc : Array Value → State → Outcome → State → Prop} {XC : String → State → State → Prop} {mc ms : Nat} {free : Addr → Prop} {bytes : ByteArray} {maxL : Nat} {ret : Option FieldType} {hh : List (Nat × Nat × Nat × Nat)}
    (hM : vx_Met l y ws rm Pc Qc XC mc ms free) (hblind : FrameBlind Pc) (hrc : rm.cells = mc) (hrs : rm.slots = ms)
    (hframes : rm.frames + 1 ≤ R.frames) (hlocals : W9 + (maxL + 11) + rm.locals ≤ R.locals)
    (hws : ∀ w ∈ ws, ∀ a' U, s.WarmedH U.vm → w.before a' U = true) (hcode : Cond.codeWith y bytes maxL ret hh ∈ ws) (hinit : ∀ a' U, s.WarmedH U.vm → (Cond.initialized y.cls).before a' U = true) :
    vx_Back l R p e below s sargs y len W9 (PreOf R mc ms Pc) (PostOf Qc mc ms free) (vx_Post XC mc ms free) := by
  intro m meth c A g ig mk a X hg hsize hdg hW hn hp
  have h1 : (headSpec ws rm).pre.before a A.U = true := atoms_intro fun w hw => hws w hw _ _ X.warmed
  have h2 : (Cond.codeWith y bytes maxL ret hh).before a A.U = true := hws _ hcode _ _ X.warmed
  have h3 : (Cond.initialized y.cls).before a A.U = true := hinit _ _ X.warmed
  have h4 : A.cells + (headSpec ws rm).room.cells ≤ R.cells := by rw [show (headSpec ws rm).room.cells = mc from hrc]; exact hp.1
  have h5 : A.slots + (headSpec ws rm).room.slots ≤ R.slots := by rw [show (headSpec ws rm).room.slots = ms from hrs]; exact hp.2.1
  have hPc : Pc a (A.U.calling g mk a) := hblind _ _ _ _ hp.2.2
  obtain ⟨U, Ls, c0, s0⟩ := A
  dsimp only [Pt.U, Pt.locs, Pt.cells, Pt.slots] at h1 h2 h3 h4 h5 X hn hPc ⊢
  obtain ⟨m9, methY, cY, hn9, hmY, hcY, -, hlY, -⟩ := Cond.codeWith_spec h2
  cases Option.some.inj (hn9.symm.trans hn)
  obtain ⟨kY, hkY, -⟩ := className_of_methodNamed hn
  have hinitY : kY.init = .initialized := Cond.initialized_spec (findClass_of_methodNamed hn) hkY h3
  have h : At U g.method c below := by rw [hg]; exact X.here
  have hlocals9 : W9 + (maxL + 11) + (headSpec ws rm).room.locals ≤ R.locals := hlocals
  have happ : (headSpec ws rm).appliesLoose y e.platform (U.calling g mk a) = true :=
    Spec.appliesLoose_calling (g := g) h hdg hn hkY hinitY
      (X.room_calling (g := g) (R' := (headSpec ws rm).room) hsize hmY hcY hframes (by rw [hlY]; omega) h4 h5) h1
  obtain ⟨mid, hmid⟩ := h.above
  have hfr : (U.setTop g).frames = (.java g :: mid) ++ below := by rw [State.frames_setTop' g h.top, hmid]; rfl
  obtain ⟨o, s₂, hsteps, -, hend, hq⟩ := Steps.callFree hM p X.admits X.cas X.clock (acts := []) hfr happ hPc trivial
  have hq' : vx_Q Qc XC mc ms free a (U.calling g mk a) o s₂ := hq
  rw [State.frames_setTop' g h.top] at hend
  obtain ⟨g₀, hg0⟩ := Option.isSome_iff_exists.mp h.top
  obtain ⟨r, hr⟩ := State.topJava?_eq_some.mp hg0
  have hr' : (({ U with heap := s₂.heap, slotsUsed := s₂.slotsUsed } : State).setVm s₂.vm).frames = .java g₀ :: r := hr
  rcases hq' with ⟨hqc, L, hfe, hL⟩ | ⟨q, rfl, E, ce, L, hx, hce, hcv, hcl, hW₂, hsm, hL⟩
  · obtain ⟨⟨v, rfl⟩, hW₂, e2, q2, q3, q4, q5, q6⟩ := id hfe
    have e3 : s₂ = ({ (U.calling g mk a).setFrames s₂.frames with heap := s₂.heap, slotsUsed := s₂.slotsUsed } : State).setVm s₂.vm := by
      have : s₂ = ({ s₂ with vm := (U.calling g mk a).vm } : State).setVm s₂.vm := rfl
      rw [e2] at this
      exact this
    obtain ⟨c₂, i₂, len₂, hc₂, hd₂, hf₂⟩ := hend
    have hW' : U.WarmedH s₂.vm := hW₂
    have hcc : c₂ = c := by
      have h1 : s₂.code? g.method = U.code? g.method := by
        rw [State.code?_eq, State.code?_eq, hW'.alike.method?]
      exact Option.some.inj (hc₂.symm.trans (h1.trans h.code))
    subst hcc
    have hlen : len₂ = len := by rw [hdg] at hd₂; cases hd₂; rfl
    subst hlen
    have hs₂ : s₂ = (({ U with heap := s₂.heap, slotsUsed := s₂.slotsUsed } : State).setVm s₂.vm).setTop { g with pc := g.pc + len₂, stack := v.toList ++ g.stack } := by
      refine e3.trans ?_
      rw [hf₂, State.calling_eq h.top, State.setFrames_setFrames, State.setTop_of_frames _ hr', hr]
      rfl
    have hsame : U.sameButNew ({ U with heap := s₂.heap, slotsUsed := s₂.slotsUsed } : State) L mc ms := by
      refine ⟨?_, q2, q3, q4, q5, q6⟩
      obtain ⟨t, ht, -⟩ := State.frames_cons hr
      show ({ U with heap := s₂.heap, slotsUsed := s₂.slotsUsed } : State) = { U.setFrames U.frames with heap := s₂.heap, slotsUsed := s₂.slotsUsed }
      rw [State.setFrames_self ht]
    subst hg
    refine Or.inl ⟨v, ⟨(({ U with heap := s₂.heap, slotsUsed := s₂.slotsUsed } : State).setVm s₂.vm), Ls ++ L, c0 + mc, s0 + ms⟩,
      ⟨X.admits, X.cas, X.clock, X.frames, X.room, X.hears, X.method, X.code, (X.here.setHeapUsed s₂.heap s₂.slotsUsed).setVm hW'.alike, X.tail, State.WarmedH.trans X.warmed hW', X.limits, X.bytes, X.same.trans (hsame.setVm s.vm)⟩,
      ⟨g, mk, s₂, L, rfl, rfl, hqc, rfl, hL, rfl, rfl⟩, ?_⟩
    show Steps p.tables e below _ ((({ U with heap := s₂.heap, slotsUsed := s₂.slotsUsed } : State).setVm s₂.vm).setTop { g with pc := g.pc + len₂, stack := v.toList ++ g.stack })
    rw [← hs₂]
    exact hsteps
  · obtain ⟨e2, q2, q3, q4, q5, q6⟩ := id hsm
    have e3 : s₂ = ({ (U.calling g mk a).setFrames s₂.frames with heap := s₂.heap, slotsUsed := s₂.slotsUsed } : State).setVm s₂.vm := by
      have : s₂ = ({ s₂ with vm := (U.calling g mk a).vm } : State).setVm s₂.vm := rfl
      rw [e2] at this
      exact this
    have hf₂ : s₂.frames = .throwing q :: .java g :: U.frames.tail := hend
    have hW' : U.WarmedH s₂.vm := hW₂
    have hs₂ : s₂ = ((({ U with heap := s₂.heap, slotsUsed := s₂.slotsUsed } : State).setVm s₂.vm).setTop g).pushFrame (.throwing q) := by
      refine e3.trans ?_
      rw [hf₂, State.calling_eq h.top, State.setFrames_setFrames, State.pushFrame, State.frames_setTop _ hr', State.setTop_of_frames _ hr', State.setFrames_setFrames, hr]
      rfl
    have hsame : U.sameButNew ({ U with heap := s₂.heap, slotsUsed := s₂.slotsUsed } : State) L mc ms := by
      refine ⟨?_, q2, q3, q4, q5, q6⟩
      obtain ⟨t, ht, -⟩ := State.frames_cons hr
      show ({ U with heap := s₂.heap, slotsUsed := s₂.slotsUsed } : State) = { U.setFrames U.frames with heap := s₂.heap, slotsUsed := s₂.slotsUsed }
      rw [State.setFrames_self ht]
    subst hg
    refine Or.inr ⟨q, ⟨(({ U with heap := s₂.heap, slotsUsed := s₂.slotsUsed } : State).setVm s₂.vm), Ls ++ L, c0 + mc, s0 + ms⟩,
      ⟨X.admits, X.cas, X.clock, X.frames, X.room, X.hears, X.method, X.code, (X.here.setHeapUsed s₂.heap s₂.slotsUsed).setVm hW'.alike, X.tail, State.WarmedH.trans X.warmed hW', X.limits, X.bytes, X.same.trans (hsame.setVm s.vm)⟩,
      ⟨g, mk, s₂, L, E, ce, rfl, rfl, hx, hce, hcv, hcl, rfl, hL, rfl, rfl⟩, ?_⟩
    show Steps p.tables e below _ (((({ U with heap := s₂.heap, slotsUsed := s₂.slotsUsed } : State).setVm s₂.vm).setTop g).pushFrame (.throwing q))
    rw [← hs₂]
    exact hsteps
end
variable {p : Program} {l : Launch} {e : Env} {R : Room} {s : State} {m : MethodId} {args : Array Value} {below : List Frame} {meth : Method} {c : Code} {T : State} {H : Heap} {locs : List Loc} {cells slots : Nat}
theorem vx_callVX (X : Stand p l e R s m args below meth c T locs cells slots) (hexec : p.tables.exec = Jvm.exec) {own C : String} {index : Nat} {y : MethodName} {bytes : ByteArray} {maxL : Nat} {ret : Option FieldType} {hh : List (Nat × Nat × Nat × Nat)}
    (hown : s.vm.findClass own = some m.cls) (hlink : (Cond.methodLink own index y).before args s = true) (hinst : (Cond.instanceMethod y).before args s = true) (hsel : (Cond.selects C y y).before args s = true)
    (hcode : (Cond.codeWith y bytes maxL ret hh).before args s = true) (hy : y.cls ≠ "java/lang/invoke/MethodHandle" ∧ y.cls ≠ "java/lang/invoke/VarHandle")
    {W9 : Nat} {Pre : Pt → Array Value → Prop} {Post : Pt → Array Value → Option Value → Pt → Prop} {PostX : Pt → Array Value → Addr → Pt → Prop} (hK : vx_Back l R p e below s args y 3 W9 Pre Post PostX)
    {b : Addr} {cellB : Cell} (hcell : T.heap[b]? = some cellB) (hobj : cellB.vm.isStatics = false) (hcls : s.vm.findClass C = some cellB.cls)
    {g : JFrame} (hg : g.method = m) (hsize : g.locals.size = c.maxLocals) {argsL rest : List Value} (hlen : ∀ sig, parseMethodDescriptor y.desc = some sig → argsL.length = sig.parameters.length)
    (hstack : g.stack = argsL.reverse ++ .ref b :: rest) (hW : 2 * g.monitorRoom + (rest.map fun v => v.category).sum ≤ W9) (hdg : decode c.code g.pc = .ok (.invokevirtual index, 3))
    (hpre : ∀ vm₁, s.WarmedH vm₁ → Pre ⟨T.setVm vm₁, locs, cells, slots⟩ (Value.ref b :: argsL).toArray) :
    (∃ (v : Option Value) (vm₁ : Vm) (B : Pt), s.WarmedH vm₁ ∧ Stand p l e R s m args below meth c B.U B.locs B.cells B.slots ∧ Post ⟨T.setVm vm₁, locs, cells, slots⟩ (Value.ref b :: argsL).toArray v B ∧
      ∀ target, Steps p.tables e below (B.U.setTop { g with pc := g.pc + 3, stack := v.toList ++ rest }) target → Steps p.tables e below (T.setTop g) target) ∨
    (∃ (q : Addr) (vm₁ : Vm) (B : Pt), s.WarmedH vm₁ ∧ Stand p l e R s m args below meth c B.U B.locs B.cells B.slots ∧ PostX ⟨T.setVm vm₁, locs, cells, slots⟩ (Value.ref b :: argsL).toArray q B ∧
      Steps p.tables e below (T.setTop g) ((B.U.setTop { g with stack := rest }).pushFrame (.throwing q))) := by
  obtain ⟨mk, methM, hnamed, hmethM, hstM, habM⟩ := Cond.instanceMethod_spec hinst
  obtain ⟨m8, methM', cM, hn8, hmethM', -, -, -, -, -, -, hsigM⟩ := Cond.codeWith_spec hcode
  cases Option.some.inj (hn8.symm.trans hnamed)
  cases hmethM.symm.trans hmethM'
  obtain ⟨c2, r2, m2, q1, q2, q3, q4, kP, hkP, hkPi⟩ := Cond.selects_spec hsel
  cases hcls.symm.trans q1
  cases (State.methodFound?_of_named hnamed hy).symm.trans q2
  cases hnamed.symm.trans q3
  have hselP : selectMethod e.platform s.vm cellB.cls mk = .method mk := by rw [Launch.admits_selectMethod X.admits]; exact q4
  obtain ⟨vm₁, X₁, hstep₁⟩ := X.invokevirtual hexec hown hlink hnamed hmethM hstM hkP hkPi hy (a := b) (cell := cellB) hcell
    (fun z h => by rw [h] at hobj; cases hobj) hselP hmethM habM hkP hkPi (g := g) hg (argsL := argsL) (rest := rest) (hlen _ hsigM) hstack hdg
  rcases hK m meth c ⟨T.setVm vm₁, locs, cells, slots⟩ { g with stack := rest } (.invokevirtual index) mk (Value.ref b :: argsL).toArray X₁ hg hsize hdg hW (X₁.named hnamed) (hpre vm₁ X₁.warmed) with ⟨v, B, X', hpost, hsteps⟩ | ⟨q, B, X', hpost, hsteps⟩
  · exact Or.inl ⟨v, vm₁, B, X₁.warmed, X', hpost, fun target h => hstep₁ _ fun acts => by rw [doInvoke_state]; exact hsteps.trans h⟩
  · exact Or.inr ⟨q, vm₁, B, X₁.warmed, X', hpost, hstep₁ _ fun acts => by rw [doInvoke_state]; exact hsteps⟩
theorem vx_callSX (X : Stand p l e R s m args below meth c T locs cells slots) (hexec : p.tables.exec = Jvm.exec) {own : String} {index : Nat} {y : MethodName} {bytes : ByteArray} {maxL : Nat} {ret : Option FieldType} {hh : List (Nat × Nat × Nat × Nat)}
    (hown : s.vm.findClass own = some m.cls) (hlink : (Cond.methodLink own index y).before args s = true) (hstat : (Cond.static y).before args s = true) (hinit : (Cond.initialized y.cls).before args s = true)
    (hcode : (Cond.codeWith y bytes maxL ret hh).before args s = true) (hy : y.cls ≠ "java/lang/invoke/MethodHandle" ∧ y.cls ≠ "java/lang/invoke/VarHandle")
    {W9 : Nat} {Pre : Pt → Array Value → Prop} {Post : Pt → Array Value → Option Value → Pt → Prop} {PostX : Pt → Array Value → Addr → Pt → Prop} (hK : vx_Back l R p e below s args y 3 W9 Pre Post PostX)
    {g : JFrame} (hg : g.method = m) (hsize : g.locals.size = c.maxLocals) {argsL rest : List Value} (hlen : ∀ sig, parseMethodDescriptor y.desc = some sig → argsL.length = sig.parameters.length)
    (hstack : g.stack = argsL.reverse ++ rest) (hW : 2 * g.monitorRoom + (rest.map fun v => v.category).sum ≤ W9) (hdg : decode c.code g.pc = .ok (.invokestatic index, 3))
    (hpre : ∀ vm₁, s.WarmedH vm₁ → Pre ⟨T.setVm vm₁, locs, cells, slots⟩ argsL.toArray) :
    (∃ (v : Option Value) (vm₁ : Vm) (B : Pt), s.WarmedH vm₁ ∧ Stand p l e R s m args below meth c B.U B.locs B.cells B.slots ∧ Post ⟨T.setVm vm₁, locs, cells, slots⟩ argsL.toArray v B ∧
      ∀ target, Steps p.tables e below (B.U.setTop { g with pc := g.pc + 3, stack := v.toList ++ rest }) target → Steps p.tables e below (T.setTop g) target) ∨
    (∃ (q : Addr) (vm₁ : Vm) (B : Pt), s.WarmedH vm₁ ∧ Stand p l e R s m args below meth c B.U B.locs B.cells B.slots ∧ PostX ⟨T.setVm vm₁, locs, cells, slots⟩ argsL.toArray q B ∧
      Steps p.tables e below (T.setTop g) ((B.U.setTop { g with stack := rest }).pushFrame (.throwing q))) := by
  obtain ⟨mk, methM, cM, hnamed, hmethM, -, -, -, -, -, -, hsigM⟩ := Cond.codeWith_spec hcode
  have hstatic : methM.isStatic = true := Cond.static_spec hnamed hmethM hstat
  obtain ⟨kP, hkP, -⟩ := className_of_methodNamed hnamed
  have hinitP : kP.init = .initialized := Cond.initialized_spec (findClass_of_methodNamed hnamed) hkP hinit
  obtain ⟨vm₁, X₁, hstep₁⟩ := X.invokestatic hexec hown hlink hnamed hmethM hstatic hkP hinitP hy (g := g) hg (argsL := argsL) (rest := rest) (hlen _ hsigM) hstack hdg
  rcases hK m meth c ⟨T.setVm vm₁, locs, cells, slots⟩ { g with stack := rest } (.invokestatic index) mk argsL.toArray X₁ hg hsize hdg hW (X₁.named hnamed) (hpre vm₁ X₁.warmed) with ⟨v, B, X', hpost, hsteps⟩ | ⟨q, B, X', hpost, hsteps⟩
  · exact Or.inl ⟨v, vm₁, B, X₁.warmed, X', hpost, fun target h => hstep₁ _ fun acts => by rw [doInvoke_state]; exact hsteps.trans h⟩
  · exact Or.inr ⟨q, vm₁, B, X₁.warmed, X', hpost, hstep₁ _ fun acts => by rw [doInvoke_state]; exact hsteps⟩
theorem vx_callVW (X : Stand p l e R s m args below meth c T locs cells slots) (hexec : p.tables.exec = Jvm.exec) {own C : String} {index : Nat} {y : MethodName} {bytes : ByteArray} {maxL : Nat} {ret : Option FieldType} {hh : List (Nat × Nat × Nat × Nat)}
    (hown : s.vm.findClass own = some m.cls) (hlink : (Cond.methodLink own index y).before args s = true) (hinst : (Cond.instanceMethod y).before args s = true) (hsel : (Cond.selects C y y).before args s = true)
    (hcode : (Cond.codeWith y bytes maxL ret hh).before args s = true) (hy : y.cls ≠ "java/lang/invoke/MethodHandle" ∧ y.cls ≠ "java/lang/invoke/VarHandle")
    {W9 : Nat} {Pre : Pt → Array Value → Prop} {Post : Pt → Array Value → Option Value → Pt → Prop} (hK : Back l R p e below s args y 3 W9 Pre Post)
    {b : Addr} {cellB : Cell} (hcell : T.heap[b]? = some cellB) (hobj : cellB.vm.isStatics = false) (hcls : s.vm.findClass C = some cellB.cls)
    {g : JFrame} (hg : g.method = m) (hsize : g.locals.size = c.maxLocals) {argsL rest : List Value} (hlen : ∀ sig, parseMethodDescriptor y.desc = some sig → argsL.length = sig.parameters.length)
    (hstack : g.stack = argsL.reverse ++ .ref b :: rest) (hW : 2 * g.monitorRoom + (rest.map fun v => v.category).sum ≤ W9) (hdg : decode c.code g.pc = .ok (.invokevirtual index, 3))
    (hpre : ∀ vm₁, s.WarmedH vm₁ → Pre ⟨T.setVm vm₁, locs, cells, slots⟩ (Value.ref b :: argsL).toArray) :
    ∃ (v : Option Value) (vm₁ : Vm) (B : Pt), s.WarmedH vm₁ ∧ Stand p l e R s m args below meth c B.U B.locs B.cells B.slots ∧ Post ⟨T.setVm vm₁, locs, cells, slots⟩ (Value.ref b :: argsL).toArray v B ∧
      ∀ target, Steps p.tables e below (B.U.setTop { g with pc := g.pc + 3, stack := v.toList ++ rest }) target → Steps p.tables e below (T.setTop g) target := by
  obtain ⟨mk, methM, hnamed, hmethM, hstM, habM⟩ := Cond.instanceMethod_spec hinst
  obtain ⟨m8, methM', cM, hn8, hmethM', -, -, -, -, -, -, hsigM⟩ := Cond.codeWith_spec hcode
  cases Option.some.inj (hn8.symm.trans hnamed)
  cases hmethM.symm.trans hmethM'
  obtain ⟨c2, r2, m2, q1, q2, q3, q4, kP, hkP, hkPi⟩ := Cond.selects_spec hsel
  cases hcls.symm.trans q1
  cases (State.methodFound?_of_named hnamed hy).symm.trans q2
  cases hnamed.symm.trans q3
  have hselP : selectMethod e.platform s.vm cellB.cls mk = .method mk := by rw [Launch.admits_selectMethod X.admits]; exact q4
  obtain ⟨vm₁, X₁, hstep₁⟩ := X.invokevirtual hexec hown hlink hnamed hmethM hstM hkP hkPi hy (a := b) (cell := cellB) hcell
    (fun z h => by rw [h] at hobj; cases hobj) hselP hmethM habM hkP hkPi (g := g) hg (argsL := argsL) (rest := rest) (hlen _ hsigM) hstack hdg
  obtain ⟨v, B, X', hpost, hsteps⟩ := hK m meth c ⟨T.setVm vm₁, locs, cells, slots⟩ { g with stack := rest } (.invokevirtual index) mk (Value.ref b :: argsL).toArray X₁ hg hsize hdg hW (X₁.named hnamed) (hpre vm₁ X₁.warmed)
  exact ⟨v, vm₁, B, X₁.warmed, X', hpost, fun target h => hstep₁ _ fun acts => by rw [doInvoke_state]; exact hsteps.trans h⟩
abbrev vx_CVW (R : Room) (s : State) (args : Array Value) (own C : String) (index : Nat) (y : MethodName) (bytes : ByteArray) (maxL : Nat) (ret : Option FieldType) (hh : List (Nat × Nat × Nat × Nat)) (ws : List Cond) (rm : Room) (mc ms n : Nat) : Prop :=
  (rm.cells = mc ∧ rm.slots = ms ∧ rm.frames + 1 ≤ R.frames ∧ 8 + (maxL + 11) + rm.locals ≤ R.locals ∧ (∀ w ∈ ws, ∀ (a' : Array Value) (U : State), s.WarmedH U.vm → w.before a' U = true) ∧ Cond.codeWith y bytes maxL ret hh ∈ ws) ∧
  (Cond.codeWith y bytes maxL ret hh).before args s = true ∧ (Cond.initialized y.cls).before args s = true ∧ (y.cls ≠ "java/lang/invoke/MethodHandle" ∧ y.cls ≠ "java/lang/invoke/VarHandle") ∧
  (∀ sig, parseMethodDescriptor y.desc = some sig → n = sig.parameters.length) ∧ (Cond.methodLink own index y).before args s = true ∧ (Cond.instanceMethod y).before args s = true ∧ (Cond.selects C y y).before args s = true
theorem vx_cwVW {own C : String} {index maxL mc ms : Nat} {y : MethodName} {bytes : ByteArray} {ret : Option FieldType} {hh : List (Nat × Nat × Nat × Nat)} {Ts ws ws' : List Cond} {rm : Room} (n : Nat) (ht : ∀ w ∈ Ts, w.before args s = true) (hT : GoodIn Ts (wsV own index C y ws)) (hw : ws = Cond.codeWith y bytes maxL ret hh :: ws') (hrc : rm.cells = mc) (hrs : rm.slots = ms)
    (hd : y.cls = C ∧ y.cls ≠ "java/lang/invoke/MethodHandle" ∧ y.cls ≠ "java/lang/invoke/VarHandle" ∧ (parseMethodDescriptor y.desc).map (fun d => d.parameters.length) = some n) (hR : rm.frames + 1 ≤ R.frames ∧ 8 + (maxL + 11) + rm.locals ≤ R.locals) :
    vx_CVW R s args own C index y bytes maxL ret hh ws rm mc ms n := by
  obtain ⟨hC, hd⟩ := hd
  subst hC
  have ok : ∀ w ∈ wsV own index y.cls y ws, w.before args s = true := fun w h => ht w (hT w h).1
  have hG : GoodIn Ts ws := fun w h => hT w (by unfold wsV; exact List.mem_append_right _ h)
  have hc : Cond.codeWith y bytes maxL ret hh ∈ ws := by rw [hw]; exact List.mem_cons_self
  refine ⟨⟨hrc, hrs, hR.1, hR.2, pay_in ht hG, hc⟩, ht _ (hG _ hc).1, ok _ (by simp [wsV]), ⟨hd.1, hd.2.1⟩, fun sig h => ?_, ok _ (by simp [wsV]), ok _ (by simp [wsV]), ok _ (by simp [wsV])⟩
  have h2 := hd.2.2
  rw [h] at h2
  exact (Option.some.inj h2).symm
theorem vx_runVW {y : MethodName} {bytes cc : ByteArray} {maxL nL mc ms n index : Nat} {ret : Option FieldType} {hh : List (Nat × Nat × Nat × Nat)} {ws : List Cond} {rm : Room} {Pc : Array Value → State → Prop} {Qc : Array Value → State → Outcome → State → Prop} {free : Addr → Prop} {Ts : List Cond} {own C : String} {b : Addr} {As rest : List Value} {g : JFrame}
    (S : CallFix p m c cc nL s args Ts own) (hM : Met l y ws rm Pc Qc mc ms free) (cw : vx_CVW R s args own C index y bytes maxL ret hh ws rm mc ms n) (hp : PreV s H C b Pc As)
    (hg : g.method = m) (hn : As.length = n) (hsize : g.locals.size = nL) (hstack : g.stack = As.reverse ++ .ref b :: rest) (hW : 2 * g.monitorRoom + (rest.map fun v => v.category).sum ≤ 8) (hdg : decode cc g.pc = .ok (.invokevirtual index, 3)) (hf : cells + mc ≤ R.cells ∧ slots + ms ≤ R.slots) :
    va_Run p l e R s m args below meth c H locs cells slots mc ms g rest (Qc (Value.ref b :: As).toArray) free := by
  obtain ⟨⟨hrc, hrs, hfr, hlo, hws, hcw⟩, hcode, hini, hy, hlen, hl, hin, hse⟩ := cw
  have hK : Back l R p e below s args y 3 8 (PreOf R mc ms Pc) (PostOf Qc mc ms free) := va_backW (hh := hh) (bytes := bytes) (maxL := maxL) (ret := ret) hM hp.1 hrc hrs hfr hlo hws hcw (fun a' U hW => word_at hW (Or.inl (by first | rfl | simp [Cond.onTables, Cond.keeps, Cond.steady])) hini)
  obtain ⟨hx, hb, hml, ho, -⟩ := S
  obtain ⟨-, ⟨cellB, hcB, hoB, hclB⟩, hPc⟩ := hp
  intro T hT X
  obtain ⟨v, vm₁, ⟨U', l2, c2, s2⟩, hW₁, X', ⟨g', mk, t, L, e1, e2, hq, h1, hL, h2, h3⟩, st⟩ := vx_callVW X hx (C := C) (hh := hh) (bytes := bytes) (maxL := maxL) (ret := ret) ho hl hin hse hcode hy hK (by rw [hT]; exact hcB) hoB hclB hg (hsize.trans hml.symm) (argsL := As) (rest := rest) (fun sig h => hn.trans (hlen sig h)) hstack hW (by rw [hb]; exact hdg)
    (fun vm₁ hW₁ => ⟨hf.1, hf.2, hPc (T.setVm vm₁) hT hW₁⟩)
  dsimp only [Pt.U, Pt.locs, Pt.cells, Pt.slots] at X' e1 e2 h1 h2 h3 st
  subst h1; subst h2; subst h3
  exact ⟨v, (T.setVm vm₁).calling g' mk (Value.ref b :: As).toArray, t, U', L, hT, X', hL, e1, e2, hq, st⟩
section
variable {y : MethodName} {bytes cc : ByteArray} {maxL nL mc ms n index : Nat} {ret : Option FieldType} {ws : List Cond} {rm : Room} {Pc : Array Value → State → Prop} {Qc : Array Value → State → Outcome → State → Prop} {XC : String → State → State → Prop} {free : Addr → Prop} {Ts : List Cond} {own C : String} {b : Addr} {As rest : List Value} {g : JFrame}
theorem vx_runVX {hh : List (Nat × Nat × Nat × Nat)} (S : CallFix p m c cc nL s args Ts own) (hM : vx_Met l y ws rm Pc Qc XC mc ms free) (cw : vx_CVW R s args own C index y bytes maxL ret hh ws rm mc ms n) (hp : PreV s H C b Pc As)
    (hg : g.method = m) (hn : As.length = n) (hsize : g.locals.size = nL) (hstack : g.stack = As.reverse ++ .ref b :: rest) (hW : 2 * g.monitorRoom + (rest.map fun v => v.category).sum ≤ 8) (hdg : decode cc g.pc = .ok (.invokevirtual index, 3)) (hf : cells + mc ≤ R.cells ∧ slots + ms ≤ R.slots) :
    vx_Run p l e R s m args below meth c H locs cells slots mc ms g rest (Qc (Value.ref b :: As).toArray) XC free := by
  obtain ⟨⟨hrc, hrs, hfr, hlo, hws, hcw⟩, hcode, hini, hy, hlen, hl, hin, hse⟩ := cw
  have hK : vx_Back l R p e below s args y 3 8 (PreOf R mc ms Pc) (PostOf Qc mc ms free) (vx_Post XC mc ms free) := vx_backW (hh := hh) (bytes := bytes) (maxL := maxL) (ret := ret) hM hp.1 hrc hrs hfr hlo hws hcw (fun a' U hW => word_at hW (Or.inl (by first | rfl | simp [Cond.onTables, Cond.keeps, Cond.steady])) hini)
  obtain ⟨hx, hb, hml, ho, -⟩ := S
  obtain ⟨-, ⟨cellB, hcB, hoB, hclB⟩, hPc⟩ := hp
  intro T hT X
  rcases vx_callVX X hx (C := C) (hh := hh) (bytes := bytes) (maxL := maxL) (ret := ret) ho hl hin hse hcode hy hK (by rw [hT]; exact hcB) hoB hclB hg (hsize.trans hml.symm) (argsL := As) (rest := rest) (fun sig h => hn.trans (hlen sig h)) hstack hW (by rw [hb]; exact hdg)
    (fun vm₁ hW₁ => ⟨hf.1, hf.2, hPc (T.setVm vm₁) hT hW₁⟩) with ⟨v, vm₁, ⟨U', l2, c2, s2⟩, hW₁, X', ⟨g', mk, t, L, e1, e2, hq, h1, hL, h2, h3⟩, st⟩ | ⟨q, vm₁, ⟨U', l2, c2, s2⟩, hW₁, X', ⟨g', mk, t, L, E, ce, e1, e2, hq, hce, hcv, hcl, h1, hL, h2, h3⟩, st⟩
  · dsimp only [Pt.U, Pt.locs, Pt.cells, Pt.slots] at X' e1 e2 h1 h2 h3 st
    subst h1; subst h2; subst h3
    exact Or.inl ⟨v, (T.setVm vm₁).calling g' mk (Value.ref b :: As).toArray, t, U', L, hT, X', hL, e1, e2, hq, st⟩
  · dsimp only [Pt.U, Pt.locs, Pt.cells, Pt.slots] at X' e1 e2 h1 h2 h3 st hcl
    subst h1; subst h2; subst h3
    exact Or.inr ⟨q, (T.setVm vm₁).calling g' mk (Value.ref b :: As).toArray, t, U', L, E, ce, hT, X', hL, e1, e2, hq, hce, hcv, vx_cls hW₁ hcl, st⟩
theorem vx_runSX {hh : List (Nat × Nat × Nat × Nat)} (S : CallFix p m c cc nL s args Ts own) (hM : vx_Met l y ws rm Pc Qc XC mc ms free) (cw : vx_CSW R s args own index y bytes maxL ret hh ws rm mc ms n) (hp : PreS s H Pc As)
    (hg : g.method = m) (hn : As.length = n) (hsize : g.locals.size = nL) (hstack : g.stack = As.reverse ++ rest) (hW : 2 * g.monitorRoom + (rest.map fun v => v.category).sum ≤ 8) (hdg : decode cc g.pc = .ok (.invokestatic index, 3)) (hf : cells + mc ≤ R.cells ∧ slots + ms ≤ R.slots) :
    vx_Run p l e R s m args below meth c H locs cells slots mc ms g rest (Qc As.toArray) XC free := by
  obtain ⟨⟨hrc, hrs, hfr, hlo, hws, hcw⟩, hcode, hini, hy, hlen, hl, hstt⟩ := cw
  have hK : vx_Back l R p e below s args y 3 8 (PreOf R mc ms Pc) (PostOf Qc mc ms free) (vx_Post XC mc ms free) := vx_backW (hh := hh) (bytes := bytes) (maxL := maxL) (ret := ret) hM hp.1 hrc hrs hfr hlo hws hcw (fun a' U hW => word_at hW (Or.inl (by first | rfl | simp [Cond.onTables, Cond.keeps, Cond.steady])) hini)
  obtain ⟨hx, hb, hml, ho, -⟩ := S
  intro T hT X
  rcases vx_callSX X hx (hh := hh) (bytes := bytes) (maxL := maxL) (ret := ret) ho hl hstt hini hcode hy hK hg (hsize.trans hml.symm) (argsL := As) (rest := rest) (fun sig h => hn.trans (hlen sig h)) hstack hW (by rw [hb]; exact hdg)
    (fun vm₁ hW₁ => ⟨hf.1, hf.2, hp.2 (T.setVm vm₁) hT hW₁⟩) with ⟨v, vm₁, ⟨U', l2, c2, s2⟩, hW₁, X', ⟨g', mk, t, L, e1, e2, hq, h1, hL, h2, h3⟩, st⟩ | ⟨q, vm₁, ⟨U', l2, c2, s2⟩, hW₁, X', ⟨g', mk, t, L, E, ce, e1, e2, hq, hce, hcv, hcl, h1, hL, h2, h3⟩, st⟩
  · dsimp only [Pt.U, Pt.locs, Pt.cells, Pt.slots] at X' e1 e2 h1 h2 h3 st
    subst h1; subst h2; subst h3
    exact Or.inl ⟨v, (T.setVm vm₁).calling g' mk As.toArray, t, U', L, hT, X', hL, e1, e2, hq, st⟩
  · dsimp only [Pt.U, Pt.locs, Pt.cells, Pt.slots] at X' e1 e2 h1 h2 h3 st hcl
    subst h1; subst h2; subst h3
    exact Or.inr ⟨q, (T.setVm vm₁).calling g' mk As.toArray, t, U', L, E, ce, hT, X', hL, e1, e2, hq, hce, hcv, vx_cls hW₁ hcl, st⟩
end
end VXH
theorem vx_ofWH {l : Launch} {y : MethodName} {ws ws' : List Cond} {rm : Room} {Pc : Array Value → State → Prop} {Qc : Array Value → State → Outcome → State → Prop} {XC : String → State → State → Prop} {mc ms : Nat} {free : Addr → Prop} {cc : ByteArray} {maxL : Nat} {ret : Option FieldType} {hh : List (Nat × Nat × Nat × Nat)}
    (hy : plainName y.cls = true) (hw : ws = Cond.codeWith y cc maxL ret hh :: ws')
    (body : ∀ p e s m args below meth c s₁, BodyLoose p l y (headSpec ws rm) cc maxL ret e s m args below meth c s₁ → c.maxLocals = maxL → Pc args s →
      W p l e (headSpec ws rm).room s m args below meth c s.heap [] 0 0 (vx_MQ below Qc XC args s mc ms free) (entryFrame m args maxL)) : vx_Met l y ws rm Pc Qc XC mc ms free := by
  refine MetFree.of_bodyS (code := cc) (maxLocals := maxL) (ret := ret) hy ?_ ?_
  · intro args s m h hn
    obtain ⟨m9, meth, c, hn9, h1, h2, h3, h4, -, h5, h6, -⟩ := Cond.codeWith_spec (atoms_spec (ws := ws) h _ (by rw [hw]; exact List.mem_cons_self))
    cases hn.symm.trans hn9
    exact ⟨meth, c, h1, h2, h3, h4, h5, h6⟩
  · intro p e s m args below meth c s₁ B hml hP _
    have hh0 : s₁.heap = s.heap := by rw [B.state]; rfl
    obtain ⟨t, a1, o, b1, b2, b3⟩ := body p e s m args below meth c s₁ B hml hP s₁ hh0 (Stand.of_body B)
    exact ⟨t, o, a1, b1, b2, b3⟩
/-! ===== END ===== -/
end
section
/-! ===== BEGIN printed: names, fields, word lists, decode rows ===== -/
def RX0 : String := "SelfOpener$Machine"
def TX0 : u_T := fun k => match k with
  | 0 => ("SelfOpener$Machine", "memory", "[I", true)
  | 1 => ("SelfOpener$Machine", "registers", "[I", true)
  | 2 => ("SelfOpener$Machine", "kept", "[I", true)
  | 3 => ("SelfOpener$Machine", "place", "I", false)
  | 4 => ("SelfOpener$Machine", "state", "I", false)
  | 5 => ("SelfOpener$Machine", "steps", "I", false)
  | _ => ("SelfOpener$Machine", "putOut", "I", false)
def tyX0 : Nat → FieldType := fun k => match k with
  | 0 => .array .int
  | 1 => .array .int
  | 2 => .array .int
  | 3 => .int
  | 4 => .int
  | 5 => .int
  | _ => .int
abbrev wsX00 : List Cond := u_ws RX0 TX0 7
theorem nmX0 : ∀ a, a < 7 → ∀ b, b < 7 → a ≠ b → (TX0 a).2.1 ≠ (TX0 b).2.1 := by decide +kernel
theorem tyX0_ok : ∀ k, k < 7 → parseFieldDescriptor (TX0 k).2.2.1 = some (tyX0 k) := by decide +kernel
abbrev cX0_init : ByteArray := prog_2_method_1_code
def yX0_init : MethodName := ⟨RX0, "<init>", "()V"⟩
abbrev cX0_runs : ByteArray := prog_2_method_2_code
def yX0_runs : MethodName := ⟨RX0, "runs", "()Z"⟩
abbrev cX0_keeps : ByteArray := prog_2_method_3_code
def yX0_keeps : MethodName := ⟨RX0, "keeps", "(I)Z"⟩
abbrev cX0_clear : ByteArray := prog_2_method_4_code
def yX0_clear : MethodName := ⟨RX0, "clear", "(I)V"⟩
abbrev cX0_write : ByteArray := prog_2_method_5_code
def yX0_write : MethodName := ⟨RX0, "write", "(I[II)V"⟩
abbrev cX0_writeStub : ByteArray := prog_2_method_6_code
def yX0_writeStub : MethodName := ⟨RX0, "writeStub", "(IIII)V"⟩
abbrev cX0_step : ByteArray := prog_2_method_7_code
def yX0_step : MethodName := ⟨RX0, "step", "()V"⟩
abbrev cX0_act : ByteArray := prog_2_method_8_code
def yX0_act : MethodName := ⟨RX0, "act", "(III)V"⟩
abbrev cX0_jump : ByteArray := prog_2_method_9_code
def yX0_jump : MethodName := ⟨RX0, "jump", "(III)V"⟩
abbrev cX0_reckon : ByteArray := prog_2_method_10_code
def yX0_reckon : MethodName := ⟨RX0, "reckon", "(IIII)I"⟩
def RX1 : String := "SelfOpener$Packing"
def TX1 : u_T := fun k => match k with
  | 0 => ("SelfOpener$Packing", "program", "LSelfOpener$Program;", true)
  | 1 => ("SelfOpener$Packing", "stream", "[I", true)
  | 2 => ("SelfOpener$Packing", "length", "I", false)
  | 3 => ("SelfOpener$Packing", "gap", "I", false)
  | 4 => ("SelfOpener$Packing", "edition", "I", false)
  | 5 => ("SelfOpener$Packing", "cost", "[I", true)
  | 6 => ("SelfOpener$Packing", "makes", "[I", true)
  | 7 => ("SelfOpener$Packing", "distance", "[I", true)
  | _ => ("SelfOpener$Packing", "alike", "[I", true)
def tyX1 : Nat → FieldType := fun k => match k with
  | 0 => .object "SelfOpener$Program"
  | 1 => .array .int
  | 2 => .int
  | 3 => .int
  | 4 => .int
  | 5 => .array .int
  | 6 => .array .int
  | 7 => .array .int
  | _ => .array .int
abbrev wsX10 : List Cond := u_ws RX1 TX1 9
theorem nmX1 : ∀ a, a < 9 → ∀ b, b < 9 → a ≠ b → (TX1 a).2.1 ≠ (TX1 b).2.1 := by decide +kernel
theorem tyX1_ok : ∀ k, k < 9 → parseFieldDescriptor (TX1 k).2.2.1 = some (tyX1 k) := by decide +kernel
abbrev cX1_init : ByteArray := prog_3_method_1_code
def yX1_init : MethodName := ⟨RX1, "<init>", "()V"⟩
abbrev cX1_stubAddress : ByteArray := prog_3_method_2_code
def yX1_stubAddress : MethodName := ⟨RX1, "stubAddress", "()I"⟩
abbrev cX1_layoutEnd : ByteArray := prog_3_method_3_code
def yX1_layoutEnd : MethodName := ⟨RX1, "layoutEnd", "()I"⟩
abbrev cX1_fits : ByteArray := prog_3_method_4_code
def yX1_fits : MethodName := ⟨RX1, "fits", "()Z"⟩
abbrev cX1_refresh : ByteArray := prog_3_method_5_code
def yX1_refresh : MethodName := ⟨RX1, "refresh", "()V"⟩
abbrev cX1_findCopy : ByteArray := prog_3_method_6_code
def yX1_findCopy : MethodName := ⟨RX1, "findCopy", "(I)V"⟩
abbrev cX1_chooseToken : ByteArray := prog_3_method_7_code
def yX1_chooseToken : MethodName := ⟨RX1, "chooseToken", "(I)V"⟩
abbrev cX1_writeStream : ByteArray := prog_3_method_8_code
def yX1_writeStream : MethodName := ⟨RX1, "writeStream", "()V"⟩
def RX2 : String := "SelfOpener$Program"
def TX2 : u_T := fun k => match k with
  | 0 => ("SelfOpener$Program", "bytes", "[I", true)
  | 1 => ("SelfOpener$Program", "opened", "[I", true)
  | 2 => ("SelfOpener$Program", "size", "I", false)
  | 3 => ("SelfOpener$Program", "origin", "I", false)
  | 4 => ("SelfOpener$Program", "entry", "I", false)
  | _ => ("SelfOpener$Program", "edition", "I", false)
def tyX2 : Nat → FieldType := fun k => match k with
  | 0 => .array .int
  | 1 => .array .int
  | 2 => .int
  | 3 => .int
  | 4 => .int
  | _ => .int
abbrev wsX20 : List Cond := u_ws RX2 TX2 6
theorem nmX2 : ∀ a, a < 6 → ∀ b, b < 6 → a ≠ b → (TX2 a).2.1 ≠ (TX2 b).2.1 := by decide +kernel
theorem tyX2_ok : ∀ k, k < 6 → parseFieldDescriptor (TX2 k).2.2.1 = some (tyX2 k) := by decide +kernel
abbrev cX2_init : ByteArray := prog_4_method_1_code
def yX2_init : MethodName := ⟨RX2, "<init>", "()V"⟩
abbrev cX2_hasRoom : ByteArray := prog_4_method_2_code
def yX2_hasRoom : MethodName := ⟨RX2, "hasRoom", "(I)Z"⟩
abbrev cX2_fits : ByteArray := prog_4_method_3_code
def yX2_fits : MethodName := ⟨RX2, "fits", "()Z"⟩
abbrev cX2_append : ByteArray := prog_4_method_4_code
def yX2_append : MethodName := ⟨RX2, "append", "(I)V"⟩
abbrev cX2_set : ByteArray := prog_4_method_5_code
def yX2_set : MethodName := ⟨RX2, "set", "(II)V"⟩
abbrev cX2_shorten : ByteArray := prog_4_method_6_code
def yX2_shorten : MethodName := ⟨RX2, "shorten", "(I)V"⟩
abbrev cX2_loadedAt : ByteArray := prog_4_method_7_code
def yX2_loadedAt : MethodName := ⟨RX2, "loadedAt", "(I)I"⟩
abbrev cX2_openAsStream : ByteArray := prog_4_method_8_code
def yX2_openAsStream : MethodName := ⟨RX2, "openAsStream", "()V"⟩
abbrev cX2_openRun : ByteArray := prog_4_method_9_code
def yX2_openRun : MethodName := ⟨RX2, "openRun", "(III)I"⟩
abbrev cX2_openCopy : ByteArray := prog_4_method_10_code
def yX2_openCopy : MethodName := ⟨RX2, "openCopy", "(III)I"⟩
def RX3 : String := "SelfOpener"
def TX3 : u_T := fun k => match k with
  | 0 => ("SelfOpener", "packing", "LSelfOpener$Packing;", true)
  | 1 => ("SelfOpener", "program", "LSelfOpener$Program;", true)
  | _ => ("SelfOpener", "machine", "LSelfOpener$Machine;", true)
def tyX3 : Nat → FieldType := fun k => match k with
  | 0 => .object "SelfOpener$Packing"
  | 1 => .object "SelfOpener$Program"
  | _ => .object "SelfOpener$Machine"
abbrev wsX30 : List Cond := u_ws RX3 TX3 3
theorem nmX3 : ∀ a, a < 3 → ∀ b, b < 3 → a ≠ b → (TX3 a).2.1 ≠ (TX3 b).2.1 := by decide +kernel
theorem tyX3_ok : ∀ k, k < 3 → parseFieldDescriptor (TX3 k).2.2.1 = some (tyX3 k) := by decide +kernel
abbrev cX3_init : ByteArray := prog_1_method_1_code
def yX3_init : MethodName := ⟨RX3, "<init>", "()V"⟩
abbrev cX3_put : ByteArray := prog_1_method_2_code
def yX3_put : MethodName := ⟨RX3, "put", "(JI)Z"⟩
abbrev cX3_again : ByteArray := prog_1_method_3_code
def yX3_again : MethodName := ⟨RX3, "again", "(II)Z"⟩
abbrev cX3_change : ByteArray := prog_1_method_4_code
def yX3_change : MethodName := ⟨RX3, "change", "(II)V"⟩
abbrev cX3_cut : ByteArray := prog_1_method_5_code
def yX3_cut : MethodName := ⟨RX3, "cut", "(I)V"⟩
abbrev cX3_place : ByteArray := prog_1_method_6_code
def yX3_place : MethodName := ⟨RX3, "place", "(II)V"⟩
abbrev cX3_size : ByteArray := prog_1_method_7_code
def yX3_size : MethodName := ⟨RX3, "size", "()I"⟩
abbrev cX3_packed : ByteArray := prog_1_method_8_code
def yX3_packed : MethodName := ⟨RX3, "packed", "()I"⟩
abbrev cX3_stream : ByteArray := prog_1_method_9_code
def yX3_stream : MethodName := ⟨RX3, "stream", "(I)I"⟩
abbrev cX3_gap : ByteArray := prog_1_method_10_code
def yX3_gap : MethodName := ⟨RX3, "gap", "()I"⟩
abbrev cX3_unpack : ByteArray := prog_1_method_11_code
def yX3_unpack : MethodName := ⟨RX3, "unpack", "()I"⟩
abbrev cX3_load : ByteArray := prog_1_method_12_code
def yX3_load : MethodName := ⟨RX3, "load", "()V"⟩
abbrev cX3_loadPacked : ByteArray := prog_1_method_13_code
def yX3_loadPacked : MethodName := ⟨RX3, "loadPacked", "()I"⟩
abbrev cX3_run : ByteArray := prog_1_method_14_code
def yX3_run : MethodName := ⟨RX3, "run", "(II)I"⟩
abbrev cX3_look : ByteArray := prog_1_method_15_code
def yX3_look : MethodName := ⟨RX3, "look", "(I)I"⟩
abbrev cX3_memory : ByteArray := prog_1_method_16_code
def yX3_memory : MethodName := ⟨RX3, "memory", "(I)I"⟩
abbrev cX3_out : ByteArray := prog_1_method_17_code
def yX3_out : MethodName := ⟨RX3, "out", "(I)I"⟩
abbrev cX3_apart : ByteArray := prog_1_method_18_code
def yX3_apart : MethodName := ⟨RX3, "apart", "()I"⟩
abbrev cX3_isByte : ByteArray := prog_1_method_19_code
def yX3_isByte : MethodName := ⟨RX3, "isByte", "(I)Z"⟩
def RX4 : String := "SelfOpenerModel"
def TX4 : u_T := fun k => match k with
  | 0 => ("SelfOpenerModel", "thrown", "I", false)
  | 1 => ("SelfOpenerModel", "size", "I", false)
  | 2 => ("SelfOpenerModel", "program", "[I", true)
  | 3 => ("SelfOpenerModel", "origin", "I", false)
  | 4 => ("SelfOpenerModel", "entry", "I", false)
  | 5 => ("SelfOpenerModel", "known", "Z", false)
  | 6 => ("SelfOpenerModel", "gap", "I", false)
  | 7 => ("SelfOpenerModel", "length", "I", false)
  | 8 => ("SelfOpenerModel", "stream", "[I", true)
  | 9 => ("SelfOpenerModel", "least", "[I", true)
  | 10 => ("SelfOpenerModel", "token", "[I", true)
  | 11 => ("SelfOpenerModel", "distance", "[I", true)
  | 12 => ("SelfOpenerModel", "right", "[I", true)
  | 13 => ("SelfOpenerModel", "open", "[I", true)
  | 14 => ("SelfOpenerModel", "memory", "[I", true)
  | 15 => ("SelfOpenerModel", "registers", "[I", true)
  | 16 => ("SelfOpenerModel", "place", "I", false)
  | 17 => ("SelfOpenerModel", "state", "I", false)
  | 18 => ("SelfOpenerModel", "steps", "I", false)
  | 19 => ("SelfOpenerModel", "outs", "I", false)
  | _ => ("SelfOpenerModel", "out", "[I", true)
def tyX4 : Nat → FieldType := fun k => match k with
  | 0 => .int
  | 1 => .int
  | 2 => .array .int
  | 3 => .int
  | 4 => .int
  | 5 => .boolean
  | 6 => .int
  | 7 => .int
  | 8 => .array .int
  | 9 => .array .int
  | 10 => .array .int
  | 11 => .array .int
  | 12 => .array .int
  | 13 => .array .int
  | 14 => .array .int
  | 15 => .array .int
  | 16 => .int
  | 17 => .int
  | 18 => .int
  | 19 => .int
  | _ => .array .int
abbrev wsX40 : List Cond := u_ws RX4 TX4 21
theorem nmX4 : ∀ a, a < 21 → ∀ b, b < 21 → a ≠ b → (TX4 a).2.1 ≠ (TX4 b).2.1 := by decide +kernel
theorem tyX4_ok : ∀ k, k < 21 → parseFieldDescriptor (TX4 k).2.2.1 = some (tyX4 k) := by decide +kernel
abbrev cX4_init : ByteArray := prog_6_method_1_code
def yX4_init : MethodName := ⟨RX4, "<init>", "()V"⟩
abbrev cX4_thrown : ByteArray := prog_6_method_2_code
def yX4_thrown : MethodName := ⟨RX4, "thrown", "()I"⟩
abbrev cX4_fail : ByteArray := prog_6_method_3_code
def yX4_fail : MethodName := ⟨RX4, "fail", "(I)I"⟩
abbrev cX4_put : ByteArray := prog_6_method_4_code
def yX4_put : MethodName := ⟨RX4, "put", "(JI)Z"⟩
abbrev cX4_again : ByteArray := prog_6_method_5_code
def yX4_again : MethodName := ⟨RX4, "again", "(II)Z"⟩
abbrev cX4_isByte : ByteArray := prog_6_method_6_code
def yX4_isByte : MethodName := ⟨RX4, "isByte", "(I)Z"⟩
abbrev cX4_change : ByteArray := prog_6_method_7_code
def yX4_change : MethodName := ⟨RX4, "change", "(II)V"⟩
abbrev cX4_cut : ByteArray := prog_6_method_8_code
def yX4_cut : MethodName := ⟨RX4, "cut", "(I)V"⟩
abbrev cX4_place : ByteArray := prog_6_method_9_code
def yX4_place : MethodName := ⟨RX4, "place", "(II)V"⟩
abbrev cX4_size : ByteArray := prog_6_method_10_code
def yX4_size : MethodName := ⟨RX4, "size", "()I"⟩
abbrev cX4_choose : ByteArray := prog_6_method_11_code
def yX4_choose : MethodName := ⟨RX4, "choose", "(I)V"⟩
abbrev cX4_pack : ByteArray := prog_6_method_12_code
def yX4_pack : MethodName := ⟨RX4, "pack", "()V"⟩
abbrev cX4_packed : ByteArray := prog_6_method_13_code
def yX4_packed : MethodName := ⟨RX4, "packed", "()I"⟩
abbrev cX4_stream : ByteArray := prog_6_method_14_code
def yX4_stream : MethodName := ⟨RX4, "stream", "(I)I"⟩
abbrev cX4_gap : ByteArray := prog_6_method_15_code
def yX4_gap : MethodName := ⟨RX4, "gap", "()I"⟩
abbrev cX4_wrong : ByteArray := prog_6_method_16_code
def yX4_wrong : MethodName := ⟨RX4, "wrong", "(II)I"⟩
abbrev cX4_unpack : ByteArray := prog_6_method_17_code
def yX4_unpack : MethodName := ⟨RX4, "unpack", "()I"⟩
abbrev cX4_clear : ByteArray := prog_6_method_18_code
def yX4_clear : MethodName := ⟨RX4, "clear", "(I)V"⟩
abbrev cX4_load : ByteArray := prog_6_method_19_code
def yX4_load : MethodName := ⟨RX4, "load", "()V"⟩
abbrev cX4_eighth : ByteArray := prog_6_method_20_code
def yX4_eighth : MethodName := ⟨RX4, "eighth", "(JI)I"⟩
abbrev cX4_first : ByteArray := prog_6_method_21_code
def yX4_first : MethodName := ⟨RX4, "first", "(I)I"⟩
abbrev cX4_second : ByteArray := prog_6_method_22_code
def yX4_second : MethodName := ⟨RX4, "second", "(II)I"⟩
abbrev cX4_isPackable : ByteArray := prog_6_method_23_code
def yX4_isPackable : MethodName := ⟨RX4, "isPackable", "()Z"⟩
abbrev cX4_loadPacked : ByteArray := prog_6_method_24_code
def yX4_loadPacked : MethodName := ⟨RX4, "loadPacked", "()I"⟩
abbrev cX4_putOut : ByteArray := prog_6_method_25_code
def yX4_putOut : MethodName := ⟨RX4, "putOut", "(I)V"⟩
abbrev cX4_step : ByteArray := prog_6_method_26_code
def yX4_step : MethodName := ⟨RX4, "step", "()V"⟩
abbrev cX4_run : ByteArray := prog_6_method_27_code
def yX4_run : MethodName := ⟨RX4, "run", "(II)I"⟩
abbrev cX4_look : ByteArray := prog_6_method_28_code
def yX4_look : MethodName := ⟨RX4, "look", "(I)I"⟩
abbrev cX4_memory : ByteArray := prog_6_method_29_code
def yX4_memory : MethodName := ⟨RX4, "memory", "(I)I"⟩
abbrev cX4_out : ByteArray := prog_6_method_30_code
def yX4_out : MethodName := ⟨RX4, "out", "(I)I"⟩
abbrev cX4_apart : ByteArray := prog_6_method_31_code
def yX4_apart : MethodName := ⟨RX4, "apart", "()I"⟩
def RJx145de : String := "java/io/Serializable"
def TJx145de : u_T := fun k => match k with
  | _ => ("", "", "", false)
def tyJx145de : Nat → FieldType := fun k => match k with
  | _ => .int
abbrev wsJx145de0 : List Cond := u_ws RJx145de TJx145de 0
theorem nmJx145de : ∀ a, a < 0 → ∀ b, b < 0 → a ≠ b → (TJx145de a).2.1 ≠ (TJx145de b).2.1 := by decide +kernel
theorem tyJx145de_ok : ∀ k, k < 0 → parseFieldDescriptor (TJx145de k).2.2.1 = some (tyJx145de k) := by decide +kernel
def RJ9 : String := "java/lang/Math"
def TJ9 : u_T := fun k => match k with
  | _ => ("", "", "", false)
def tyJ9 : Nat → FieldType := fun k => match k with
  | _ => .int
abbrev wsJ90 : List Cond := u_ws RJ9 TJ9 0
theorem nmJ9 : ∀ a, a < 0 → ∀ b, b < 0 → a ≠ b → (TJ9 a).2.1 ≠ (TJ9 b).2.1 := by decide +kernel
theorem tyJ9_ok : ∀ k, k < 0 → parseFieldDescriptor (TJ9 k).2.2.1 = some (tyJ9 k) := by decide +kernel
abbrev cJ9_max_7cf53 : ByteArray := prog_12_method_65_code
def yJ9_max_7cf53 : MethodName := ⟨RJ9, "max", "(II)I"⟩
abbrev cJ9_min_7cf53 : ByteArray := prog_12_method_69_code
def yJ9_min_7cf53 : MethodName := ⟨RJ9, "min", "(II)I"⟩
def RJ10 : String := "java/lang/System"
def TJ10 : u_T := fun k => match k with
  | _ => ("", "", "", false)
def tyJ10 : Nat → FieldType := fun k => match k with
  | _ => .int
abbrev wsJ100 : List Cond := u_ws RJ10 TJ10 0
theorem nmJ10 : ∀ a, a < 0 → ∀ b, b < 0 → a ≠ b → (TJ10 a).2.1 ≠ (TJ10 b).2.1 := by decide +kernel
theorem tyJ10_ok : ∀ k, k < 0 → parseFieldDescriptor (TJ10 k).2.2.1 = some (tyJ10 k) := by decide +kernel
def RL : String := "SelfOpenerLaw"
abbrev cL_change : ByteArray := method_3_code
def yL_change : MethodName := ⟨RL, "change", "(LSelfOpener;II)I"⟩
abbrev cL_cut : ByteArray := method_4_code
def yL_cut : MethodName := ⟨RL, "cut", "(LSelfOpener;I)I"⟩
abbrev cL_place : ByteArray := method_5_code
def yL_place : MethodName := ⟨RL, "place", "(LSelfOpener;II)I"⟩
abbrev cL_stream : ByteArray := method_6_code
def yL_stream : MethodName := ⟨RL, "stream", "(LSelfOpener;I[J)I"⟩
abbrev cL_unpack : ByteArray := method_7_code
def yL_unpack : MethodName := ⟨RL, "unpack", "(LSelfOpener;[J)I"⟩
abbrev cL_load : ByteArray := method_8_code
def yL_load : MethodName := ⟨RL, "load", "(LSelfOpener;)I"⟩
abbrev cL_loadPacked : ByteArray := method_9_code
def yL_loadPacked : MethodName := ⟨RL, "loadPacked", "(LSelfOpener;[J)I"⟩
abbrev cL_run : ByteArray := method_10_code
def yL_run : MethodName := ⟨RL, "run", "(LSelfOpener;II[J)I"⟩
abbrev cL_look : ByteArray := method_11_code
def yL_look : MethodName := ⟨RL, "look", "(LSelfOpener;I[J)I"⟩
abbrev cL_memory : ByteArray := method_12_code
def yL_memory : MethodName := ⟨RL, "memory", "(LSelfOpener;I[J)I"⟩
abbrev cL_out : ByteArray := method_13_code
def yL_out : MethodName := ⟨RL, "out", "(LSelfOpener;I[J)I"⟩
abbrev cL_apart : ByteArray := method_14_code
def yL_apart : MethodName := ⟨RL, "apart", "(LSelfOpener;[J)I"⟩
abbrev cL_law : ByteArray := code
def yL_law : MethodName := ⟨RL, "law", "([I)Z"⟩
def wsX0_init : List Cond := .code yX0_init cX0_init 1 none :: ([.methodLink RX0 3 objectInit, .instanceMethod objectInit, .code objectInit ⟨#[0xb1]⟩ 1 none, .arrayClass .int, .fieldLink RX0 9 "SelfOpener$Machine" "memory" "[I", .fieldLink RX0 15 "SelfOpener$Machine" "registers" "[I", .fieldLink RX0 18 "SelfOpener$Machine" "kept" "[I", .fieldLink RX0 21 "SelfOpener$Machine" "state" "I"] ++ wsX00)
def wsX0_runs : List Cond := .code yX0_runs cX0_runs 1 (some .boolean) :: ([.fieldLink RX0 21 "SelfOpener$Machine" "state" "I"] ++ wsX00)
def wsX0_keeps : List Cond := .code yX0_keeps cX0_keeps 2 (some .boolean) :: ([.fieldLink RX0 25 "SelfOpener$Machine" "putOut" "I"] ++ wsX00)
def wsX0_clear : List Cond := .code yX0_clear cX0_clear 3 none :: ([.fieldLink RX0 9 "SelfOpener$Machine" "memory" "[I", .fieldLink RX0 15 "SelfOpener$Machine" "registers" "[I", .fieldLink RX0 28 "SelfOpener$Machine" "place" "I", .fieldLink RX0 21 "SelfOpener$Machine" "state" "I", .fieldLink RX0 31 "SelfOpener$Machine" "steps" "I", .fieldLink RX0 25 "SelfOpener$Machine" "putOut" "I"] ++ wsX00)
def wsX0_write : List Cond := .code yX0_write cX0_write 4 none :: ([.fieldLink RX0 9 "SelfOpener$Machine" "memory" "[I", .methodLink RX0 34 arraycopyName, .native arraycopyName, .static arraycopyName, .initialized "java/lang/System"] ++ wsX00)
def wsX0_writeStub : List Cond := .code yX0_writeStub cX0_writeStub 7 none :: ([.fieldLink RX0 40 "SelfOpener$Machine" "STUB" "[I", .fieldLink RX0 9 "SelfOpener$Machine" "memory" "[I"] ++ wsX00)
def wsX0_jump : List Cond := .code yX0_jump cX0_jump 4 none :: ([.fieldLink RX0 28 "SelfOpener$Machine" "place" "I"] ++ wsX00)
def wsX0_reckon : List Cond := .code yX0_reckon cX0_reckon 5 (some .int) :: ([.fieldLink RX0 9 "SelfOpener$Machine" "memory" "[I"] ++ wsX00)
def wsX0_act : List Cond := .code yX0_act cX0_act 5 none :: ([.fieldLink RX0 15 "SelfOpener$Machine" "registers" "[I", .fieldLink RX0 21 "SelfOpener$Machine" "state" "I", .fieldLink RX0 9 "SelfOpener$Machine" "memory" "[I", .fieldLink RX0 18 "SelfOpener$Machine" "kept" "[I", .fieldLink RX0 25 "SelfOpener$Machine" "putOut" "I", .methodLink RX0 47 yX0_jump, .instanceMethod yX0_jump, .selects RX0 yX0_jump yX0_jump, .initialized RX0, .code yX0_jump cX0_jump 4 none, .fieldLink RX0 28 "SelfOpener$Machine" "place" "I", .methodLink RX0 50 yX0_reckon, .instanceMethod yX0_reckon, .selects RX0 yX0_reckon yX0_reckon, .code yX0_reckon cX0_reckon 5 (some .int)] ++ wsX00)
def wsX0_step : List Cond := .code yX0_step cX0_step 3 none :: ([.fieldLink RX0 9 "SelfOpener$Machine" "memory" "[I", .fieldLink RX0 28 "SelfOpener$Machine" "place" "I", .fieldLink RX0 31 "SelfOpener$Machine" "steps" "I", .methodLink RX0 43 yX0_act, .instanceMethod yX0_act, .selects RX0 yX0_act yX0_act, .initialized RX0, .code yX0_act cX0_act 5 none, .fieldLink RX0 15 "SelfOpener$Machine" "registers" "[I", .fieldLink RX0 21 "SelfOpener$Machine" "state" "I", .fieldLink RX0 18 "SelfOpener$Machine" "kept" "[I", .fieldLink RX0 25 "SelfOpener$Machine" "putOut" "I", .methodLink RX0 47 yX0_jump, .instanceMethod yX0_jump, .selects RX0 yX0_jump yX0_jump, .code yX0_jump cX0_jump 4 none, .methodLink RX0 50 yX0_reckon, .instanceMethod yX0_reckon, .selects RX0 yX0_reckon yX0_reckon, .code yX0_reckon cX0_reckon 5 (some .int)] ++ wsX00)
def wsX2_init : List Cond := .code yX2_init cX2_init 1 none :: ([.methodLink RX2 3 objectInit, .instanceMethod objectInit, .code objectInit ⟨#[0xb1]⟩ 1 none, .arrayClass .int, .fieldLink RX2 9 "SelfOpener$Program" "bytes" "[I", .fieldLink RX2 15 "SelfOpener$Program" "opened" "[I"] ++ wsX20)
def wsX1_init : List Cond := .code yX1_init cX1_init 1 none :: ([.methodLink RX1 3 objectInit, .instanceMethod objectInit, .code objectInit ⟨#[0xb1]⟩ 1 none, .classLink RX1 9 RX2, .instantiable RX2 6, .initialized RX2, .fieldLink RX1 12 "SelfOpener$Packing" "program" "LSelfOpener$Program;", .arrayClass .int, .fieldLink RX1 18 "SelfOpener$Packing" "stream" "[I", .fieldLink RX1 22 "SelfOpener$Packing" "cost" "[I", .fieldLink RX1 25 "SelfOpener$Packing" "makes" "[I", .fieldLink RX1 28 "SelfOpener$Packing" "distance" "[I", .fieldLink RX1 31 "SelfOpener$Packing" "alike" "[I", .fieldLink RX1 34 "SelfOpener$Packing" "edition" "I", .methodLink RX1 11 yX2_init, .instanceMethod yX2_init, .code yX2_init cX2_init 1 none, .methodLink RX2 3 objectInit, .fieldLink RX2 9 "SelfOpener$Program" "bytes" "[I", .fieldLink RX2 15 "SelfOpener$Program" "opened" "[I"] ++ wsX20 ++ wsX10)
def wsX1_stubAddress : List Cond := .code yX1_stubAddress cX1_stubAddress 1 (some .int) :: ([.fieldLink RX1 12 "SelfOpener$Packing" "program" "LSelfOpener$Program;", .fieldLink RX1 38 "SelfOpener$Program" "origin" "I", .fieldLink RX1 41 "SelfOpener$Program" "size" "I", .fieldLink RX1 44 "SelfOpener$Packing" "gap" "I"] ++ wsX10 ++ wsX20)
def wsX1_layoutEnd : List Cond := .code yX1_layoutEnd cX1_layoutEnd 1 (some .int) :: ([.methodLink RX1 47 yX1_stubAddress, .instanceMethod yX1_stubAddress, .selects RX1 yX1_stubAddress yX1_stubAddress, .initialized RX1, .code yX1_stubAddress cX1_stubAddress 1 (some .int), .fieldLink RX1 12 "SelfOpener$Packing" "program" "LSelfOpener$Program;", .fieldLink RX1 38 "SelfOpener$Program" "origin" "I", .fieldLink RX1 41 "SelfOpener$Program" "size" "I", .fieldLink RX1 44 "SelfOpener$Packing" "gap" "I"] ++ wsX10 ++ wsX20)
def wsX1_fits : List Cond := .code yX1_fits cX1_fits 1 (some .boolean) :: ([.methodLink RX1 53 yX1_layoutEnd, .instanceMethod yX1_layoutEnd, .selects RX1 yX1_layoutEnd yX1_layoutEnd, .initialized RX1, .code yX1_layoutEnd cX1_layoutEnd 1 (some .int), .methodLink RX1 47 yX1_stubAddress, .instanceMethod yX1_stubAddress, .selects RX1 yX1_stubAddress yX1_stubAddress, .code yX1_stubAddress cX1_stubAddress 1 (some .int), .fieldLink RX1 12 "SelfOpener$Packing" "program" "LSelfOpener$Program;", .fieldLink RX1 38 "SelfOpener$Program" "origin" "I", .fieldLink RX1 41 "SelfOpener$Program" "size" "I", .fieldLink RX1 44 "SelfOpener$Packing" "gap" "I"] ++ wsX10 ++ wsX20)
def wsX1_findCopy : List Cond := .code yX1_findCopy cX1_findCopy 5 none :: ([.fieldLink RX1 12 "SelfOpener$Packing" "program" "LSelfOpener$Program;", .fieldLink RX1 70 "SelfOpener$Program" "bytes" "[I", .fieldLink RX1 25 "SelfOpener$Packing" "makes" "[I", .fieldLink RX1 28 "SelfOpener$Packing" "distance" "[I", .fieldLink RX1 31 "SelfOpener$Packing" "alike" "[I", .methodLink RX1 73 Lib.Math.min.name, .static Lib.Math.min.name, .initialized "java/lang/Math", .code Lib.Math.min.name Lib.Math.min.code 2 (some .int)] ++ wsX10 ++ wsX20)
def wsX1_chooseToken : List Cond := .code yX1_chooseToken cX1_chooseToken 6 none :: ([.fieldLink RX1 28 "SelfOpener$Packing" "distance" "[I", .fieldLink RX1 22 "SelfOpener$Packing" "cost" "[I", .fieldLink RX1 25 "SelfOpener$Packing" "makes" "[I", .fieldLink RX1 12 "SelfOpener$Packing" "program" "LSelfOpener$Program;", .fieldLink RX1 41 "SelfOpener$Program" "size" "I", .methodLink RX1 73 Lib.Math.min.name, .static Lib.Math.min.name, .initialized "java/lang/Math", .code Lib.Math.min.name Lib.Math.min.code 2 (some .int)] ++ wsX10 ++ wsX20)
def wsX1_writeStream : List Cond := .code yX1_writeStream cX1_writeStream 6 none :: ([.fieldLink RX1 12 "SelfOpener$Packing" "program" "LSelfOpener$Program;", .fieldLink RX1 41 "SelfOpener$Program" "size" "I", .fieldLink RX1 64 "SelfOpener$Packing" "length" "I", .methodLink RX1 79 Lib.Math.max.name, .static Lib.Math.max.name, .initialized "java/lang/Math", .code Lib.Math.max.name Lib.Math.max.code 2 (some .int), .fieldLink RX1 44 "SelfOpener$Packing" "gap" "I", .fieldLink RX1 25 "SelfOpener$Packing" "makes" "[I", .fieldLink RX1 28 "SelfOpener$Packing" "distance" "[I", .fieldLink RX1 18 "SelfOpener$Packing" "stream" "[I", .fieldLink RX1 70 "SelfOpener$Program" "bytes" "[I", .methodLink RX1 82 arraycopyName, .native arraycopyName, .static arraycopyName, .initialized "java/lang/System"] ++ wsX10 ++ wsX20)
def wsX1_refresh_r1 : List Cond := [Cond.fieldLink RX1 34 "SelfOpener$Packing" "edition" "I", Cond.fieldLink RX1 12 "SelfOpener$Packing" "program" "LSelfOpener$Program;", Cond.fieldLink RX1 56 "SelfOpener$Program" "edition" "I", Cond.fieldLink RX1 41 "SelfOpener$Program" "size" "I", Cond.fieldLink RX1 31 "SelfOpener$Packing" "alike" "[I", Cond.fieldLink RX1 22 "SelfOpener$Packing" "cost" "[I", Cond.fieldLink RX1 64 "SelfOpener$Packing" "length" "I", Cond.methodLink RX1 57 yX1_findCopy, Cond.instanceMethod yX1_findCopy, Cond.selects RX1 yX1_findCopy yX1_findCopy, Cond.initialized RX1, Cond.code yX1_findCopy cX1_findCopy 5 none, Cond.fieldLink RX1 70 "SelfOpener$Program" "bytes" "[I", Cond.fieldLink RX1 25 "SelfOpener$Packing" "makes" "[I", Cond.fieldLink RX1 28 "SelfOpener$Packing" "distance" "[I", Cond.methodLink RX1 73 Lib.Math.min.name, Cond.static Lib.Math.min.name, Cond.initialized "java/lang/Math", Cond.code Lib.Math.min.name Lib.Math.min.code 2 (some .int), Cond.methodLink RX1 61 yX1_chooseToken, Cond.instanceMethod yX1_chooseToken, Cond.selects RX1 yX1_chooseToken yX1_chooseToken, Cond.code yX1_chooseToken cX1_chooseToken 6 none, Cond.methodLink RX1 67 yX1_writeStream]
def wsX1_refresh_r2 : List Cond := [Cond.instanceMethod yX1_writeStream, Cond.selects RX1 yX1_writeStream yX1_writeStream, Cond.code yX1_writeStream cX1_writeStream 6 none, Cond.methodLink RX1 79 Lib.Math.max.name, Cond.static Lib.Math.max.name, Cond.code Lib.Math.max.name Lib.Math.max.code 2 (some .int), Cond.fieldLink RX1 44 "SelfOpener$Packing" "gap" "I", Cond.fieldLink RX1 18 "SelfOpener$Packing" "stream" "[I", Cond.methodLink RX1 82 arraycopyName, Cond.native arraycopyName, Cond.static arraycopyName, Cond.initialized "java/lang/System"]
def wsX1_refresh : List Cond := .code yX1_refresh cX1_refresh 3 none :: ((wsX1_refresh_r1 ++ wsX1_refresh_r2) ++ wsX10 ++ wsX20)
def wsX2_hasRoom : List Cond := .code yX2_hasRoom cX2_hasRoom 2 (some .boolean) :: ([.fieldLink RX2 18 "SelfOpener$Program" "size" "I"] ++ wsX20)
def wsX2_fits : List Cond := .code yX2_fits cX2_fits 1 (some .boolean) :: ([.fieldLink RX2 22 "SelfOpener$Program" "origin" "I", .fieldLink RX2 18 "SelfOpener$Program" "size" "I"] ++ wsX20)
def wsX2_append : List Cond := .code yX2_append cX2_append 2 none :: ([.fieldLink RX2 9 "SelfOpener$Program" "bytes" "[I", .fieldLink RX2 18 "SelfOpener$Program" "size" "I", .fieldLink RX2 25 "SelfOpener$Program" "edition" "I"] ++ wsX20)
def wsX2_set : List Cond := .code yX2_set cX2_set 3 none :: ([.fieldLink RX2 9 "SelfOpener$Program" "bytes" "[I", .fieldLink RX2 25 "SelfOpener$Program" "edition" "I"] ++ wsX20)
def wsX2_shorten : List Cond := .code yX2_shorten cX2_shorten 2 none :: ([.fieldLink RX2 18 "SelfOpener$Program" "size" "I", .fieldLink RX2 25 "SelfOpener$Program" "edition" "I"] ++ wsX20)
def wsX2_loadedAt : List Cond := .code yX2_loadedAt cX2_loadedAt 3 (some .int) :: ([.fieldLink RX2 22 "SelfOpener$Program" "origin" "I", .fieldLink RX2 18 "SelfOpener$Program" "size" "I", .fieldLink RX2 9 "SelfOpener$Program" "bytes" "[I"] ++ wsX20)
def wsX2_openRun : List Cond := .code yX2_openRun cX2_openRun 4 (some .int) :: ([.classLink RX2 37 "java/util/NoSuchElementException", .initialized "java/util/NoSuchElementException", .classLink RX2 53 "java/lang/UnsupportedOperationException", .initialized "java/lang/UnsupportedOperationException", .fieldLink RX2 18 "SelfOpener$Program" "size" "I", .fieldLink RX2 9 "SelfOpener$Program" "bytes" "[I", .fieldLink RX2 15 "SelfOpener$Program" "opened" "[I", .methodLink RX2 43 arraycopyName, .native arraycopyName, .static arraycopyName, .initialized "java/lang/System"] ++ wsX20 ++ (vx_at0 RX2 39 "java/util/NoSuchElementException" ["java/lang/RuntimeException", "java/lang/Exception"]).filter goodWord ++ (vx_at0 RX2 55 "java/lang/UnsupportedOperationException" ["java/lang/RuntimeException", "java/lang/Exception"]).filter goodWord)
def wsX2_openCopy : List Cond := .code yX2_openCopy cX2_openCopy 6 (some .int) :: ([.classLink RX2 37 "java/util/NoSuchElementException", .initialized "java/util/NoSuchElementException", .classLink RX2 56 "java/lang/IllegalArgumentException", .initialized "java/lang/IllegalArgumentException", .classLink RX2 53 "java/lang/UnsupportedOperationException", .initialized "java/lang/UnsupportedOperationException", .fieldLink RX2 18 "SelfOpener$Program" "size" "I", .fieldLink RX2 9 "SelfOpener$Program" "bytes" "[I", .fieldLink RX2 15 "SelfOpener$Program" "opened" "[I"] ++ wsX20 ++ (vx_at0 RX2 39 "java/util/NoSuchElementException" ["java/lang/RuntimeException", "java/lang/Exception"]).filter goodWord ++ (vx_at0 RX2 58 "java/lang/IllegalArgumentException" ["java/lang/RuntimeException", "java/lang/Exception"]).filter goodWord ++ (vx_at0 RX2 55 "java/lang/UnsupportedOperationException" ["java/lang/RuntimeException", "java/lang/Exception"]).filter goodWord)
def wsX2_openAsStream_r1 : List Cond := [Cond.classLink RX2 37 "java/util/NoSuchElementException", Cond.initialized "java/util/NoSuchElementException", Cond.classLink RX2 40 "java/lang/IllegalStateException", Cond.initialized "java/lang/IllegalStateException", Cond.fieldLink RX2 18 "SelfOpener$Program" "size" "I", Cond.fieldLink RX2 9 "SelfOpener$Program" "bytes" "[I", Cond.fieldLink RX2 15 "SelfOpener$Program" "opened" "[I", Cond.methodLink RX2 43 arraycopyName, Cond.native arraycopyName, Cond.static arraycopyName, Cond.initialized "java/lang/System", Cond.methodLink RX2 30 yX2_openRun, Cond.instanceMethod yX2_openRun, Cond.selects RX2 yX2_openRun yX2_openRun, Cond.initialized RX2, Cond.code yX2_openRun cX2_openRun 4 (some .int), Cond.classLink RX2 53 "java/lang/UnsupportedOperationException", Cond.initialized "java/lang/UnsupportedOperationException", Cond.methodLink RX2 34 yX2_openCopy, Cond.instanceMethod yX2_openCopy, Cond.selects RX2 yX2_openCopy yX2_openCopy, Cond.code yX2_openCopy cX2_openCopy 6 (some .int), Cond.classLink RX2 56 "java/lang/IllegalArgumentException", Cond.initialized "java/lang/IllegalArgumentException"]
def wsX2_openAsStream_r2 : List Cond := [Cond.methodLink RX2 49 yX2_shorten, Cond.instanceMethod yX2_shorten, Cond.selects RX2 yX2_shorten yX2_shorten, Cond.code yX2_shorten cX2_shorten 2 none, Cond.fieldLink RX2 25 "SelfOpener$Program" "edition" "I"]
def wsX2_openAsStream : List Cond := .code yX2_openAsStream cX2_openAsStream 4 none :: ((wsX2_openAsStream_r1 ++ wsX2_openAsStream_r2) ++ wsX20 ++ (vx_at0 RX2 39 "java/util/NoSuchElementException" ["java/lang/RuntimeException", "java/lang/Exception"]).filter goodWord ++ (vx_at0 RX2 42 "java/lang/IllegalStateException" ["java/lang/RuntimeException", "java/lang/Exception"]).filter goodWord ++ (vx_at0 RX2 55 "java/lang/UnsupportedOperationException" ["java/lang/RuntimeException", "java/lang/Exception"]).filter goodWord ++ (vx_at0 RX2 58 "java/lang/IllegalArgumentException" ["java/lang/RuntimeException", "java/lang/Exception"]).filter goodWord)
def wsX3_init_r1 : List Cond := [Cond.methodLink RX3 1 objectInit, Cond.instanceMethod objectInit, Cond.code objectInit ⟨#[0xb1]⟩ 1 none, Cond.classLink RX3 7 RX1, Cond.instantiable RX1 9, Cond.initialized RX1, Cond.fieldLink RX3 10 "SelfOpener" "packing" "LSelfOpener$Packing;", Cond.fieldLink RX3 16 "SelfOpener$Packing" "program" "LSelfOpener$Program;", Cond.fieldLink RX3 20 "SelfOpener" "program" "LSelfOpener$Program;", Cond.classLink RX3 21 RX0, Cond.instantiable RX0 7, Cond.initialized RX0, Cond.fieldLink RX3 24 "SelfOpener" "machine" "LSelfOpener$Machine;", Cond.methodLink RX3 9 yX1_init, Cond.instanceMethod yX1_init, Cond.code yX1_init cX1_init 1 none, Cond.methodLink RX1 3 objectInit, Cond.classLink RX1 9 RX2, Cond.instantiable RX2 6, Cond.initialized RX2, Cond.fieldLink RX1 12 "SelfOpener$Packing" "program" "LSelfOpener$Program;", Cond.arrayClass .int, Cond.fieldLink RX1 18 "SelfOpener$Packing" "stream" "[I", Cond.fieldLink RX1 22 "SelfOpener$Packing" "cost" "[I"]
def wsX3_init_r2 : List Cond := [Cond.fieldLink RX1 25 "SelfOpener$Packing" "makes" "[I", Cond.fieldLink RX1 28 "SelfOpener$Packing" "distance" "[I", Cond.fieldLink RX1 31 "SelfOpener$Packing" "alike" "[I", Cond.fieldLink RX1 34 "SelfOpener$Packing" "edition" "I", Cond.methodLink RX1 11 yX2_init, Cond.instanceMethod yX2_init, Cond.code yX2_init cX2_init 1 none, Cond.methodLink RX2 3 objectInit, Cond.fieldLink RX2 9 "SelfOpener$Program" "bytes" "[I", Cond.fieldLink RX2 15 "SelfOpener$Program" "opened" "[I", Cond.methodLink RX3 23 yX0_init, Cond.instanceMethod yX0_init, Cond.code yX0_init cX0_init 1 none, Cond.methodLink RX0 3 objectInit, Cond.fieldLink RX0 9 "SelfOpener$Machine" "memory" "[I", Cond.fieldLink RX0 15 "SelfOpener$Machine" "registers" "[I", Cond.fieldLink RX0 18 "SelfOpener$Machine" "kept" "[I", Cond.fieldLink RX0 21 "SelfOpener$Machine" "state" "I"]
def wsX3_init : List Cond := .code yX3_init cX3_init 1 none :: ((wsX3_init_r1 ++ wsX3_init_r2) ++ wsX10 ++ wsX30 ++ wsX00 ++ wsX20)
def wsX3_put : List Cond := .code yX3_put cX3_put 7 (some .boolean) :: ([.fieldLink RX3 20 "SelfOpener" "program" "LSelfOpener$Program;", .constantLong RX3 34 (255), .methodLink RX3 28 yX2_hasRoom, .instanceMethod yX2_hasRoom, .selects RX2 yX2_hasRoom yX2_hasRoom, .initialized RX2, .code yX2_hasRoom cX2_hasRoom 2 (some .boolean), .fieldLink RX2 18 "SelfOpener$Program" "size" "I", .methodLink RX3 36 yX2_append, .instanceMethod yX2_append, .selects RX2 yX2_append yX2_append, .code yX2_append cX2_append 2 none, .fieldLink RX2 9 "SelfOpener$Program" "bytes" "[I", .fieldLink RX2 25 "SelfOpener$Program" "edition" "I"] ++ wsX30 ++ wsX20)
def wsX3_again : List Cond := .code yX3_again cX3_again 4 (some .boolean) :: ([.fieldLink RX3 20 "SelfOpener" "program" "LSelfOpener$Program;", .fieldLink RX3 40 "SelfOpener$Program" "size" "I", .fieldLink RX3 44 "SelfOpener$Program" "bytes" "[I", .methodLink RX3 28 yX2_hasRoom, .instanceMethod yX2_hasRoom, .selects RX2 yX2_hasRoom yX2_hasRoom, .initialized RX2, .code yX2_hasRoom cX2_hasRoom 2 (some .boolean), .fieldLink RX2 18 "SelfOpener$Program" "size" "I", .methodLink RX3 36 yX2_append, .instanceMethod yX2_append, .selects RX2 yX2_append yX2_append, .code yX2_append cX2_append 2 none, .fieldLink RX2 9 "SelfOpener$Program" "bytes" "[I", .fieldLink RX2 25 "SelfOpener$Program" "edition" "I"] ++ wsX30 ++ wsX20)
def wsX3_isByte : List Cond := .code yX3_isByte cX3_isByte 1 (some .boolean) :: ([])
def wsX3_change : List Cond := .code yX3_change cX3_change 3 none :: ([.classLink RX3 48 "java/lang/IndexOutOfBoundsException", .initialized "java/lang/IndexOutOfBoundsException", .classLink RX3 54 "java/lang/IllegalArgumentException", .initialized "java/lang/IllegalArgumentException", .fieldLink RX3 20 "SelfOpener" "program" "LSelfOpener$Program;", .fieldLink RX3 40 "SelfOpener$Program" "size" "I", .methodLink RX3 51 yX3_isByte, .static yX3_isByte, .initialized RX3, .code yX3_isByte cX3_isByte 1 (some .boolean), .methodLink RX3 57 yX2_set, .instanceMethod yX2_set, .selects RX2 yX2_set yX2_set, .initialized RX2, .code yX2_set cX2_set 3 none, .fieldLink RX2 9 "SelfOpener$Program" "bytes" "[I", .fieldLink RX2 25 "SelfOpener$Program" "edition" "I"] ++ wsX30 ++ wsX20 ++ (vx_at0 RX3 50 "java/lang/IndexOutOfBoundsException" ["java/lang/RuntimeException", "java/lang/Exception"]).filter goodWord ++ (vx_at0 RX3 56 "java/lang/IllegalArgumentException" ["java/lang/RuntimeException", "java/lang/Exception"]).filter goodWord)
def wsX3_cut : List Cond := .code yX3_cut cX3_cut 2 none :: ([.classLink RX3 54 "java/lang/IllegalArgumentException", .initialized "java/lang/IllegalArgumentException", .fieldLink RX3 20 "SelfOpener" "program" "LSelfOpener$Program;", .fieldLink RX3 40 "SelfOpener$Program" "size" "I", .methodLink RX3 61 yX2_shorten, .instanceMethod yX2_shorten, .selects RX2 yX2_shorten yX2_shorten, .initialized RX2, .code yX2_shorten cX2_shorten 2 none, .fieldLink RX2 18 "SelfOpener$Program" "size" "I", .fieldLink RX2 25 "SelfOpener$Program" "edition" "I"] ++ wsX30 ++ wsX20 ++ (vx_at0 RX3 56 "java/lang/IllegalArgumentException" ["java/lang/RuntimeException", "java/lang/Exception"]).filter goodWord)
def wsX3_place : List Cond := .code yX3_place cX3_place 3 none :: ([.classLink RX3 54 "java/lang/IllegalArgumentException", .initialized "java/lang/IllegalArgumentException", .fieldLink RX3 20 "SelfOpener" "program" "LSelfOpener$Program;", .fieldLink RX3 64 "SelfOpener$Program" "origin" "I", .fieldLink RX3 67 "SelfOpener$Program" "entry" "I", .methodLink RX3 51 yX3_isByte, .static yX3_isByte, .initialized RX3, .code yX3_isByte cX3_isByte 1 (some .boolean)] ++ wsX30 ++ wsX20 ++ (vx_at0 RX3 56 "java/lang/IllegalArgumentException" ["java/lang/RuntimeException", "java/lang/Exception"]).filter goodWord)
def wsX3_size : List Cond := .code yX3_size cX3_size 1 (some .int) :: ([.fieldLink RX3 20 "SelfOpener" "program" "LSelfOpener$Program;", .fieldLink RX3 40 "SelfOpener$Program" "size" "I"] ++ wsX30 ++ wsX20)
def wsX3_packed_r1 : List Cond := [Cond.fieldLink RX3 10 "SelfOpener" "packing" "LSelfOpener$Packing;", Cond.fieldLink RX3 73 "SelfOpener$Packing" "length" "I", Cond.methodLink RX3 70 yX1_refresh, Cond.instanceMethod yX1_refresh, Cond.selects RX1 yX1_refresh yX1_refresh, Cond.initialized RX1, Cond.code yX1_refresh cX1_refresh 3 none, Cond.fieldLink RX1 34 "SelfOpener$Packing" "edition" "I", Cond.fieldLink RX1 12 "SelfOpener$Packing" "program" "LSelfOpener$Program;", Cond.fieldLink RX1 56 "SelfOpener$Program" "edition" "I", Cond.fieldLink RX1 41 "SelfOpener$Program" "size" "I", Cond.fieldLink RX1 31 "SelfOpener$Packing" "alike" "[I", Cond.fieldLink RX1 22 "SelfOpener$Packing" "cost" "[I", Cond.fieldLink RX1 64 "SelfOpener$Packing" "length" "I", Cond.methodLink RX1 57 yX1_findCopy, Cond.instanceMethod yX1_findCopy, Cond.selects RX1 yX1_findCopy yX1_findCopy, Cond.code yX1_findCopy cX1_findCopy 5 none, Cond.fieldLink RX1 70 "SelfOpener$Program" "bytes" "[I", Cond.fieldLink RX1 25 "SelfOpener$Packing" "makes" "[I", Cond.fieldLink RX1 28 "SelfOpener$Packing" "distance" "[I", Cond.methodLink RX1 73 Lib.Math.min.name, Cond.static Lib.Math.min.name, Cond.initialized "java/lang/Math"]
def wsX3_packed_r2 : List Cond := [Cond.code Lib.Math.min.name Lib.Math.min.code 2 (some .int), Cond.methodLink RX1 61 yX1_chooseToken, Cond.instanceMethod yX1_chooseToken, Cond.selects RX1 yX1_chooseToken yX1_chooseToken, Cond.code yX1_chooseToken cX1_chooseToken 6 none, Cond.methodLink RX1 67 yX1_writeStream, Cond.instanceMethod yX1_writeStream, Cond.selects RX1 yX1_writeStream yX1_writeStream, Cond.code yX1_writeStream cX1_writeStream 6 none, Cond.methodLink RX1 79 Lib.Math.max.name, Cond.static Lib.Math.max.name, Cond.code Lib.Math.max.name Lib.Math.max.code 2 (some .int), Cond.fieldLink RX1 44 "SelfOpener$Packing" "gap" "I", Cond.fieldLink RX1 18 "SelfOpener$Packing" "stream" "[I", Cond.methodLink RX1 82 arraycopyName, Cond.native arraycopyName, Cond.static arraycopyName, Cond.initialized "java/lang/System"]
def wsX3_packed : List Cond := .code yX3_packed cX3_packed 1 (some .int) :: ((wsX3_packed_r1 ++ wsX3_packed_r2) ++ wsX30 ++ wsX10 ++ wsX20)
def wsX3_stream_r1 : List Cond := [Cond.classLink RX3 48 "java/lang/IndexOutOfBoundsException", Cond.initialized "java/lang/IndexOutOfBoundsException", Cond.fieldLink RX3 10 "SelfOpener" "packing" "LSelfOpener$Packing;", Cond.fieldLink RX3 73 "SelfOpener$Packing" "length" "I", Cond.fieldLink RX3 76 "SelfOpener$Packing" "stream" "[I", Cond.methodLink RX3 70 yX1_refresh, Cond.instanceMethod yX1_refresh, Cond.selects RX1 yX1_refresh yX1_refresh, Cond.initialized RX1, Cond.code yX1_refresh cX1_refresh 3 none, Cond.fieldLink RX1 34 "SelfOpener$Packing" "edition" "I", Cond.fieldLink RX1 12 "SelfOpener$Packing" "program" "LSelfOpener$Program;", Cond.fieldLink RX1 56 "SelfOpener$Program" "edition" "I", Cond.fieldLink RX1 41 "SelfOpener$Program" "size" "I", Cond.fieldLink RX1 31 "SelfOpener$Packing" "alike" "[I", Cond.fieldLink RX1 22 "SelfOpener$Packing" "cost" "[I", Cond.fieldLink RX1 64 "SelfOpener$Packing" "length" "I", Cond.methodLink RX1 57 yX1_findCopy, Cond.instanceMethod yX1_findCopy, Cond.selects RX1 yX1_findCopy yX1_findCopy, Cond.code yX1_findCopy cX1_findCopy 5 none, Cond.fieldLink RX1 70 "SelfOpener$Program" "bytes" "[I", Cond.fieldLink RX1 25 "SelfOpener$Packing" "makes" "[I", Cond.fieldLink RX1 28 "SelfOpener$Packing" "distance" "[I"]
def wsX3_stream_r2 : List Cond := [Cond.methodLink RX1 73 Lib.Math.min.name, Cond.static Lib.Math.min.name, Cond.initialized "java/lang/Math", Cond.code Lib.Math.min.name Lib.Math.min.code 2 (some .int), Cond.methodLink RX1 61 yX1_chooseToken, Cond.instanceMethod yX1_chooseToken, Cond.selects RX1 yX1_chooseToken yX1_chooseToken, Cond.code yX1_chooseToken cX1_chooseToken 6 none, Cond.methodLink RX1 67 yX1_writeStream, Cond.instanceMethod yX1_writeStream, Cond.selects RX1 yX1_writeStream yX1_writeStream, Cond.code yX1_writeStream cX1_writeStream 6 none, Cond.methodLink RX1 79 Lib.Math.max.name, Cond.static Lib.Math.max.name, Cond.code Lib.Math.max.name Lib.Math.max.code 2 (some .int), Cond.fieldLink RX1 44 "SelfOpener$Packing" "gap" "I", Cond.fieldLink RX1 18 "SelfOpener$Packing" "stream" "[I", Cond.methodLink RX1 82 arraycopyName, Cond.native arraycopyName, Cond.static arraycopyName, Cond.initialized "java/lang/System"]
def wsX3_stream : List Cond := .code yX3_stream cX3_stream 2 (some .int) :: ((wsX3_stream_r1 ++ wsX3_stream_r2) ++ wsX30 ++ wsX10 ++ wsX20 ++ (vx_at0 RX3 50 "java/lang/IndexOutOfBoundsException" ["java/lang/RuntimeException", "java/lang/Exception"]).filter goodWord)
def wsX3_gap_r1 : List Cond := [Cond.fieldLink RX3 10 "SelfOpener" "packing" "LSelfOpener$Packing;", Cond.fieldLink RX3 79 "SelfOpener$Packing" "gap" "I", Cond.methodLink RX3 70 yX1_refresh, Cond.instanceMethod yX1_refresh, Cond.selects RX1 yX1_refresh yX1_refresh, Cond.initialized RX1, Cond.code yX1_refresh cX1_refresh 3 none, Cond.fieldLink RX1 34 "SelfOpener$Packing" "edition" "I", Cond.fieldLink RX1 12 "SelfOpener$Packing" "program" "LSelfOpener$Program;", Cond.fieldLink RX1 56 "SelfOpener$Program" "edition" "I", Cond.fieldLink RX1 41 "SelfOpener$Program" "size" "I", Cond.fieldLink RX1 31 "SelfOpener$Packing" "alike" "[I", Cond.fieldLink RX1 22 "SelfOpener$Packing" "cost" "[I", Cond.fieldLink RX1 64 "SelfOpener$Packing" "length" "I", Cond.methodLink RX1 57 yX1_findCopy, Cond.instanceMethod yX1_findCopy, Cond.selects RX1 yX1_findCopy yX1_findCopy, Cond.code yX1_findCopy cX1_findCopy 5 none, Cond.fieldLink RX1 70 "SelfOpener$Program" "bytes" "[I", Cond.fieldLink RX1 25 "SelfOpener$Packing" "makes" "[I", Cond.fieldLink RX1 28 "SelfOpener$Packing" "distance" "[I", Cond.methodLink RX1 73 Lib.Math.min.name, Cond.static Lib.Math.min.name, Cond.initialized "java/lang/Math"]
def wsX3_gap_r2 : List Cond := [Cond.code Lib.Math.min.name Lib.Math.min.code 2 (some .int), Cond.methodLink RX1 61 yX1_chooseToken, Cond.instanceMethod yX1_chooseToken, Cond.selects RX1 yX1_chooseToken yX1_chooseToken, Cond.code yX1_chooseToken cX1_chooseToken 6 none, Cond.methodLink RX1 67 yX1_writeStream, Cond.instanceMethod yX1_writeStream, Cond.selects RX1 yX1_writeStream yX1_writeStream, Cond.code yX1_writeStream cX1_writeStream 6 none, Cond.methodLink RX1 79 Lib.Math.max.name, Cond.static Lib.Math.max.name, Cond.code Lib.Math.max.name Lib.Math.max.code 2 (some .int), Cond.fieldLink RX1 44 "SelfOpener$Packing" "gap" "I", Cond.fieldLink RX1 18 "SelfOpener$Packing" "stream" "[I", Cond.methodLink RX1 82 arraycopyName, Cond.native arraycopyName, Cond.static arraycopyName, Cond.initialized "java/lang/System"]
def wsX3_gap : List Cond := .code yX3_gap cX3_gap 1 (some .int) :: ((wsX3_gap_r1 ++ wsX3_gap_r2) ++ wsX30 ++ wsX10 ++ wsX20)
def wsX3_unpack_r1 : List Cond := [Cond.fieldLink RX3 20 "SelfOpener" "program" "LSelfOpener$Program;", Cond.fieldLink RX3 40 "SelfOpener$Program" "size" "I", Cond.methodLink RX3 82 yX2_openAsStream, Cond.instanceMethod yX2_openAsStream, Cond.selects RX2 yX2_openAsStream yX2_openAsStream, Cond.initialized RX2, Cond.code yX2_openAsStream cX2_openAsStream 4 none, Cond.classLink RX2 37 "java/util/NoSuchElementException", Cond.initialized "java/util/NoSuchElementException", Cond.classLink RX2 40 "java/lang/IllegalStateException", Cond.initialized "java/lang/IllegalStateException", Cond.fieldLink RX2 18 "SelfOpener$Program" "size" "I", Cond.fieldLink RX2 9 "SelfOpener$Program" "bytes" "[I", Cond.fieldLink RX2 15 "SelfOpener$Program" "opened" "[I", Cond.methodLink RX2 43 arraycopyName, Cond.native arraycopyName, Cond.static arraycopyName, Cond.initialized "java/lang/System", Cond.methodLink RX2 30 yX2_openRun, Cond.instanceMethod yX2_openRun, Cond.selects RX2 yX2_openRun yX2_openRun, Cond.code yX2_openRun cX2_openRun 4 (some .int), Cond.classLink RX2 53 "java/lang/UnsupportedOperationException", Cond.initialized "java/lang/UnsupportedOperationException"]
def wsX3_unpack_r2 : List Cond := [Cond.methodLink RX2 34 yX2_openCopy, Cond.instanceMethod yX2_openCopy, Cond.selects RX2 yX2_openCopy yX2_openCopy, Cond.code yX2_openCopy cX2_openCopy 6 (some .int), Cond.classLink RX2 56 "java/lang/IllegalArgumentException", Cond.initialized "java/lang/IllegalArgumentException", Cond.methodLink RX2 49 yX2_shorten, Cond.instanceMethod yX2_shorten, Cond.selects RX2 yX2_shorten yX2_shorten, Cond.code yX2_shorten cX2_shorten 2 none, Cond.fieldLink RX2 25 "SelfOpener$Program" "edition" "I"]
def wsX3_unpack : List Cond := .code yX3_unpack cX3_unpack 1 (some .int) :: ((wsX3_unpack_r1 ++ wsX3_unpack_r2) ++ wsX30 ++ wsX20 ++ (vx_at0 RX2 39 "java/util/NoSuchElementException" ["java/lang/RuntimeException", "java/lang/Exception"]).filter goodWord ++ (vx_at0 RX2 42 "java/lang/IllegalStateException" ["java/lang/RuntimeException", "java/lang/Exception"]).filter goodWord ++ (vx_at0 RX2 55 "java/lang/UnsupportedOperationException" ["java/lang/RuntimeException", "java/lang/Exception"]).filter goodWord ++ (vx_at0 RX2 58 "java/lang/IllegalArgumentException" ["java/lang/RuntimeException", "java/lang/Exception"]).filter goodWord)
def wsX3_load_r1 : List Cond := [Cond.classLink RX3 89 "java/lang/IllegalStateException", Cond.initialized "java/lang/IllegalStateException", Cond.fieldLink RX3 20 "SelfOpener" "program" "LSelfOpener$Program;", Cond.fieldLink RX3 24 "SelfOpener" "machine" "LSelfOpener$Machine;", Cond.fieldLink RX3 67 "SelfOpener$Program" "entry" "I", Cond.fieldLink RX3 64 "SelfOpener$Program" "origin" "I", Cond.fieldLink RX3 44 "SelfOpener$Program" "bytes" "[I", Cond.fieldLink RX3 40 "SelfOpener$Program" "size" "I", Cond.methodLink RX3 85 yX2_fits, Cond.instanceMethod yX2_fits, Cond.selects RX2 yX2_fits yX2_fits, Cond.initialized RX2, Cond.code yX2_fits cX2_fits 1 (some .boolean), Cond.fieldLink RX2 22 "SelfOpener$Program" "origin" "I", Cond.fieldLink RX2 18 "SelfOpener$Program" "size" "I", Cond.methodLink RX3 92 yX0_clear, Cond.instanceMethod yX0_clear, Cond.selects RX0 yX0_clear yX0_clear, Cond.initialized RX0, Cond.code yX0_clear cX0_clear 3 none, Cond.fieldLink RX0 9 "SelfOpener$Machine" "memory" "[I", Cond.fieldLink RX0 15 "SelfOpener$Machine" "registers" "[I", Cond.fieldLink RX0 28 "SelfOpener$Machine" "place" "I", Cond.fieldLink RX0 21 "SelfOpener$Machine" "state" "I"]
def wsX3_load_r2 : List Cond := [Cond.fieldLink RX0 31 "SelfOpener$Machine" "steps" "I", Cond.fieldLink RX0 25 "SelfOpener$Machine" "putOut" "I", Cond.methodLink RX3 95 yX0_write, Cond.instanceMethod yX0_write, Cond.selects RX0 yX0_write yX0_write, Cond.code yX0_write cX0_write 4 none, Cond.methodLink RX0 34 arraycopyName, Cond.native arraycopyName, Cond.static arraycopyName, Cond.initialized "java/lang/System"]
def wsX3_load : List Cond := .code yX3_load cX3_load 1 none :: ((wsX3_load_r1 ++ wsX3_load_r2) ++ wsX30 ++ wsX20 ++ wsX00 ++ (vx_at0 RX3 91 "java/lang/IllegalStateException" ["java/lang/RuntimeException", "java/lang/Exception"]).filter goodWord)
def wsX3_loadPacked_r1 : List Cond := [Cond.classLink RX3 100 "java/lang/UnsupportedOperationException", Cond.initialized "java/lang/UnsupportedOperationException", Cond.fieldLink RX3 10 "SelfOpener" "packing" "LSelfOpener$Packing;", Cond.fieldLink RX3 73 "SelfOpener$Packing" "length" "I", Cond.fieldLink RX3 24 "SelfOpener" "machine" "LSelfOpener$Machine;", Cond.fieldLink RX3 76 "SelfOpener$Packing" "stream" "[I", Cond.fieldLink RX3 20 "SelfOpener" "program" "LSelfOpener$Program;", Cond.fieldLink RX3 64 "SelfOpener$Program" "origin" "I", Cond.fieldLink RX3 67 "SelfOpener$Program" "entry" "I", Cond.methodLink RX3 70 yX1_refresh, Cond.instanceMethod yX1_refresh, Cond.selects RX1 yX1_refresh yX1_refresh, Cond.initialized RX1, Cond.code yX1_refresh cX1_refresh 3 none, Cond.fieldLink RX1 34 "SelfOpener$Packing" "edition" "I", Cond.fieldLink RX1 12 "SelfOpener$Packing" "program" "LSelfOpener$Program;", Cond.fieldLink RX1 56 "SelfOpener$Program" "edition" "I", Cond.fieldLink RX1 41 "SelfOpener$Program" "size" "I", Cond.fieldLink RX1 31 "SelfOpener$Packing" "alike" "[I", Cond.fieldLink RX1 22 "SelfOpener$Packing" "cost" "[I", Cond.fieldLink RX1 64 "SelfOpener$Packing" "length" "I", Cond.methodLink RX1 57 yX1_findCopy, Cond.instanceMethod yX1_findCopy, Cond.selects RX1 yX1_findCopy yX1_findCopy]
def wsX3_loadPacked_r2 : List Cond := [Cond.code yX1_findCopy cX1_findCopy 5 none, Cond.fieldLink RX1 70 "SelfOpener$Program" "bytes" "[I", Cond.fieldLink RX1 25 "SelfOpener$Packing" "makes" "[I", Cond.fieldLink RX1 28 "SelfOpener$Packing" "distance" "[I", Cond.methodLink RX1 73 Lib.Math.min.name, Cond.static Lib.Math.min.name, Cond.initialized "java/lang/Math", Cond.code Lib.Math.min.name Lib.Math.min.code 2 (some .int), Cond.methodLink RX1 61 yX1_chooseToken, Cond.instanceMethod yX1_chooseToken, Cond.selects RX1 yX1_chooseToken yX1_chooseToken, Cond.code yX1_chooseToken cX1_chooseToken 6 none, Cond.methodLink RX1 67 yX1_writeStream, Cond.instanceMethod yX1_writeStream, Cond.selects RX1 yX1_writeStream yX1_writeStream, Cond.code yX1_writeStream cX1_writeStream 6 none, Cond.methodLink RX1 79 Lib.Math.max.name, Cond.static Lib.Math.max.name, Cond.code Lib.Math.max.name Lib.Math.max.code 2 (some .int), Cond.fieldLink RX1 44 "SelfOpener$Packing" "gap" "I", Cond.fieldLink RX1 18 "SelfOpener$Packing" "stream" "[I", Cond.methodLink RX1 82 arraycopyName, Cond.native arraycopyName, Cond.static arraycopyName]
def wsX3_loadPacked_r3 : List Cond := [Cond.initialized "java/lang/System", Cond.methodLink RX3 99 yX1_fits, Cond.instanceMethod yX1_fits, Cond.selects RX1 yX1_fits yX1_fits, Cond.code yX1_fits cX1_fits 1 (some .boolean), Cond.methodLink RX1 53 yX1_layoutEnd, Cond.instanceMethod yX1_layoutEnd, Cond.selects RX1 yX1_layoutEnd yX1_layoutEnd, Cond.code yX1_layoutEnd cX1_layoutEnd 1 (some .int), Cond.methodLink RX1 47 yX1_stubAddress, Cond.instanceMethod yX1_stubAddress, Cond.selects RX1 yX1_stubAddress yX1_stubAddress, Cond.code yX1_stubAddress cX1_stubAddress 1 (some .int), Cond.fieldLink RX1 38 "SelfOpener$Program" "origin" "I", Cond.methodLink RX3 103 yX1_stubAddress, Cond.methodLink RX3 92 yX0_clear, Cond.instanceMethod yX0_clear, Cond.selects RX0 yX0_clear yX0_clear, Cond.initialized RX0, Cond.code yX0_clear cX0_clear 3 none, Cond.fieldLink RX0 9 "SelfOpener$Machine" "memory" "[I", Cond.fieldLink RX0 15 "SelfOpener$Machine" "registers" "[I", Cond.fieldLink RX0 28 "SelfOpener$Machine" "place" "I", Cond.fieldLink RX0 21 "SelfOpener$Machine" "state" "I"]
def wsX3_loadPacked_r4 : List Cond := [Cond.fieldLink RX0 31 "SelfOpener$Machine" "steps" "I", Cond.fieldLink RX0 25 "SelfOpener$Machine" "putOut" "I", Cond.methodLink RX3 95 yX0_write, Cond.instanceMethod yX0_write, Cond.selects RX0 yX0_write yX0_write, Cond.code yX0_write cX0_write 4 none, Cond.methodLink RX0 34 arraycopyName, Cond.methodLink RX3 107 yX0_writeStub, Cond.instanceMethod yX0_writeStub, Cond.selects RX0 yX0_writeStub yX0_writeStub, Cond.code yX0_writeStub cX0_writeStub 7 none, Cond.fieldLink RX0 40 "SelfOpener$Machine" "STUB" "[I", Cond.methodLink RX3 111 yX1_layoutEnd]
def wsX3_loadPacked : List Cond := .code yX3_loadPacked cX3_loadPacked 3 (some .int) :: ((wsX3_loadPacked_r1 ++ (wsX3_loadPacked_r2 ++ (wsX3_loadPacked_r3 ++ wsX3_loadPacked_r4))) ++ wsX30 ++ wsX10 ++ wsX20 ++ wsX00 ++ (vx_at0 RX3 102 "java/lang/UnsupportedOperationException" ["java/lang/RuntimeException", "java/lang/Exception"]).filter goodWord)
def wsX3_run_r1 : List Cond := [Cond.classLink RX3 54 "java/lang/IllegalArgumentException", Cond.initialized "java/lang/IllegalArgumentException", Cond.fieldLink RX3 24 "SelfOpener" "machine" "LSelfOpener$Machine;", Cond.fieldLink RX3 117 "SelfOpener$Machine" "place" "I", Cond.methodLink RX3 114 yX0_runs, Cond.instanceMethod yX0_runs, Cond.selects RX0 yX0_runs yX0_runs, Cond.initialized RX0, Cond.code yX0_runs cX0_runs 1 (some .boolean), Cond.fieldLink RX0 21 "SelfOpener$Machine" "state" "I", Cond.methodLink RX3 120 yX0_step, Cond.instanceMethod yX0_step, Cond.selects RX0 yX0_step yX0_step, Cond.code yX0_step cX0_step 3 none, Cond.fieldLink RX0 9 "SelfOpener$Machine" "memory" "[I", Cond.fieldLink RX0 28 "SelfOpener$Machine" "place" "I", Cond.fieldLink RX0 31 "SelfOpener$Machine" "steps" "I", Cond.methodLink RX0 43 yX0_act, Cond.instanceMethod yX0_act, Cond.selects RX0 yX0_act yX0_act, Cond.code yX0_act cX0_act 5 none, Cond.fieldLink RX0 15 "SelfOpener$Machine" "registers" "[I", Cond.fieldLink RX0 18 "SelfOpener$Machine" "kept" "[I", Cond.fieldLink RX0 25 "SelfOpener$Machine" "putOut" "I"]
def wsX3_run_r2 : List Cond := [Cond.methodLink RX0 47 yX0_jump, Cond.instanceMethod yX0_jump, Cond.selects RX0 yX0_jump yX0_jump, Cond.code yX0_jump cX0_jump 4 none, Cond.methodLink RX0 50 yX0_reckon, Cond.instanceMethod yX0_reckon, Cond.selects RX0 yX0_reckon yX0_reckon, Cond.code yX0_reckon cX0_reckon 5 (some .int)]
def wsX3_run : List Cond := .code yX3_run cX3_run 4 (some .int) :: ((wsX3_run_r1 ++ wsX3_run_r2) ++ wsX30 ++ wsX00 ++ (vx_at0 RX3 56 "java/lang/IllegalArgumentException" ["java/lang/RuntimeException", "java/lang/Exception"]).filter goodWord)
def wsX3_look : List Cond := .code yX3_look cX3_look 2 (some .int) :: ([.classLink RX3 48 "java/lang/IndexOutOfBoundsException", .initialized "java/lang/IndexOutOfBoundsException", .fieldLink RX3 24 "SelfOpener" "machine" "LSelfOpener$Machine;", .fieldLink RX3 123 "SelfOpener$Machine" "registers" "[I", .fieldLink RX3 117 "SelfOpener$Machine" "place" "I", .fieldLink RX3 126 "SelfOpener$Machine" "state" "I", .fieldLink RX3 129 "SelfOpener$Machine" "steps" "I", .fieldLink RX3 132 "SelfOpener$Machine" "putOut" "I"] ++ wsX30 ++ wsX00 ++ (vx_at0 RX3 50 "java/lang/IndexOutOfBoundsException" ["java/lang/RuntimeException", "java/lang/Exception"]).filter goodWord)
def wsX3_memory : List Cond := .code yX3_memory cX3_memory 2 (some .int) :: ([.classLink RX3 48 "java/lang/IndexOutOfBoundsException", .initialized "java/lang/IndexOutOfBoundsException", .fieldLink RX3 24 "SelfOpener" "machine" "LSelfOpener$Machine;", .fieldLink RX3 135 "SelfOpener$Machine" "memory" "[I", .methodLink RX3 51 yX3_isByte, .static yX3_isByte, .initialized RX3, .code yX3_isByte cX3_isByte 1 (some .boolean)] ++ wsX30 ++ wsX00 ++ (vx_at0 RX3 50 "java/lang/IndexOutOfBoundsException" ["java/lang/RuntimeException", "java/lang/Exception"]).filter goodWord)
def wsX3_out : List Cond := .code yX3_out cX3_out 2 (some .int) :: ([.classLink RX3 48 "java/lang/IndexOutOfBoundsException", .initialized "java/lang/IndexOutOfBoundsException", .fieldLink RX3 24 "SelfOpener" "machine" "LSelfOpener$Machine;", .fieldLink RX3 141 "SelfOpener$Machine" "kept" "[I", .methodLink RX3 138 yX0_keeps, .instanceMethod yX0_keeps, .selects RX0 yX0_keeps yX0_keeps, .initialized RX0, .code yX0_keeps cX0_keeps 2 (some .boolean), .fieldLink RX0 25 "SelfOpener$Machine" "putOut" "I"] ++ wsX30 ++ wsX00 ++ (vx_at0 RX3 50 "java/lang/IndexOutOfBoundsException" ["java/lang/RuntimeException", "java/lang/Exception"]).filter goodWord)
def wsX3_apart_r1 : List Cond := [Cond.classLink RX3 89 "java/lang/IllegalStateException", Cond.initialized "java/lang/IllegalStateException", Cond.classLink RX3 100 "java/lang/UnsupportedOperationException", Cond.initialized "java/lang/UnsupportedOperationException", Cond.fieldLink RX3 20 "SelfOpener" "program" "LSelfOpener$Program;", Cond.fieldLink RX3 10 "SelfOpener" "packing" "LSelfOpener$Packing;", Cond.fieldLink RX3 64 "SelfOpener$Program" "origin" "I", Cond.fieldLink RX3 40 "SelfOpener$Program" "size" "I", Cond.fieldLink RX3 24 "SelfOpener" "machine" "LSelfOpener$Machine;", Cond.fieldLink RX3 135 "SelfOpener$Machine" "memory" "[I", Cond.methodLink RX3 85 yX2_fits, Cond.instanceMethod yX2_fits, Cond.selects RX2 yX2_fits yX2_fits, Cond.initialized RX2, Cond.code yX2_fits cX2_fits 1 (some .boolean), Cond.fieldLink RX2 22 "SelfOpener$Program" "origin" "I", Cond.fieldLink RX2 18 "SelfOpener$Program" "size" "I", Cond.methodLink RX3 70 yX1_refresh, Cond.instanceMethod yX1_refresh, Cond.selects RX1 yX1_refresh yX1_refresh, Cond.initialized RX1, Cond.code yX1_refresh cX1_refresh 3 none, Cond.fieldLink RX1 34 "SelfOpener$Packing" "edition" "I", Cond.fieldLink RX1 12 "SelfOpener$Packing" "program" "LSelfOpener$Program;"]
def wsX3_apart_r2 : List Cond := [Cond.fieldLink RX1 56 "SelfOpener$Program" "edition" "I", Cond.fieldLink RX1 41 "SelfOpener$Program" "size" "I", Cond.fieldLink RX1 31 "SelfOpener$Packing" "alike" "[I", Cond.fieldLink RX1 22 "SelfOpener$Packing" "cost" "[I", Cond.fieldLink RX1 64 "SelfOpener$Packing" "length" "I", Cond.methodLink RX1 57 yX1_findCopy, Cond.instanceMethod yX1_findCopy, Cond.selects RX1 yX1_findCopy yX1_findCopy, Cond.code yX1_findCopy cX1_findCopy 5 none, Cond.fieldLink RX1 70 "SelfOpener$Program" "bytes" "[I", Cond.fieldLink RX1 25 "SelfOpener$Packing" "makes" "[I", Cond.fieldLink RX1 28 "SelfOpener$Packing" "distance" "[I", Cond.methodLink RX1 73 Lib.Math.min.name, Cond.static Lib.Math.min.name, Cond.initialized "java/lang/Math", Cond.code Lib.Math.min.name Lib.Math.min.code 2 (some .int), Cond.methodLink RX1 61 yX1_chooseToken, Cond.instanceMethod yX1_chooseToken, Cond.selects RX1 yX1_chooseToken yX1_chooseToken, Cond.code yX1_chooseToken cX1_chooseToken 6 none, Cond.methodLink RX1 67 yX1_writeStream, Cond.instanceMethod yX1_writeStream, Cond.selects RX1 yX1_writeStream yX1_writeStream, Cond.code yX1_writeStream cX1_writeStream 6 none]
def wsX3_apart_r3 : List Cond := [Cond.methodLink RX1 79 Lib.Math.max.name, Cond.static Lib.Math.max.name, Cond.code Lib.Math.max.name Lib.Math.max.code 2 (some .int), Cond.fieldLink RX1 44 "SelfOpener$Packing" "gap" "I", Cond.fieldLink RX1 18 "SelfOpener$Packing" "stream" "[I", Cond.methodLink RX1 82 arraycopyName, Cond.native arraycopyName, Cond.static arraycopyName, Cond.initialized "java/lang/System", Cond.methodLink RX3 99 yX1_fits, Cond.instanceMethod yX1_fits, Cond.selects RX1 yX1_fits yX1_fits, Cond.code yX1_fits cX1_fits 1 (some .boolean), Cond.methodLink RX1 53 yX1_layoutEnd, Cond.instanceMethod yX1_layoutEnd, Cond.selects RX1 yX1_layoutEnd yX1_layoutEnd, Cond.code yX1_layoutEnd cX1_layoutEnd 1 (some .int), Cond.methodLink RX1 47 yX1_stubAddress, Cond.instanceMethod yX1_stubAddress, Cond.selects RX1 yX1_stubAddress yX1_stubAddress, Cond.code yX1_stubAddress cX1_stubAddress 1 (some .int), Cond.fieldLink RX1 38 "SelfOpener$Program" "origin" "I", Cond.methodLink RX3 111 yX1_layoutEnd, Cond.methodLink RX3 144 yX2_loadedAt]
def wsX3_apart_r4 : List Cond := [Cond.instanceMethod yX2_loadedAt, Cond.selects RX2 yX2_loadedAt yX2_loadedAt, Cond.code yX2_loadedAt cX2_loadedAt 3 (some .int), Cond.fieldLink RX2 9 "SelfOpener$Program" "bytes" "[I"]
def wsX3_apart : List Cond := .code yX3_apart cX3_apart 6 (some .int) :: ((wsX3_apart_r1 ++ (wsX3_apart_r2 ++ (wsX3_apart_r3 ++ wsX3_apart_r4))) ++ wsX30 ++ wsX20 ++ wsX00 ++ wsX10 ++ (vx_at0 RX3 91 "java/lang/IllegalStateException" ["java/lang/RuntimeException", "java/lang/Exception"]).filter goodWord ++ (vx_at0 RX3 102 "java/lang/UnsupportedOperationException" ["java/lang/RuntimeException", "java/lang/Exception"]).filter goodWord)
def wsX4_init : List Cond := .code yX4_init cX4_init 1 none :: ([.methodLink RX4 1 objectInit, .instanceMethod objectInit, .code objectInit ⟨#[0xb1]⟩ 1 none, .arrayClass .int, .fieldLink RX4 7 "SelfOpenerModel" "program" "[I", .fieldLink RX4 13 "SelfOpenerModel" "stream" "[I", .fieldLink RX4 16 "SelfOpenerModel" "least" "[I", .fieldLink RX4 19 "SelfOpenerModel" "token" "[I", .fieldLink RX4 22 "SelfOpenerModel" "distance" "[I", .fieldLink RX4 25 "SelfOpenerModel" "right" "[I", .fieldLink RX4 28 "SelfOpenerModel" "open" "[I", .fieldLink RX4 31 "SelfOpenerModel" "memory" "[I", .fieldLink RX4 34 "SelfOpenerModel" "registers" "[I", .fieldLink RX4 37 "SelfOpenerModel" "state" "I", .fieldLink RX4 41 "SelfOpenerModel" "out" "[I"] ++ wsX40)
def wsX4_thrown : List Cond := .code yX4_thrown cX4_thrown 1 (some .int) :: ([.fieldLink RX4 44 "SelfOpenerModel" "thrown" "I"] ++ wsX40)
def wsX4_fail : List Cond := .code yX4_fail cX4_fail 2 (some .int) :: ([.fieldLink RX4 44 "SelfOpenerModel" "thrown" "I"] ++ wsX40)
def wsX4_put : List Cond := .code yX4_put cX4_put 5 (some .boolean) :: ([.fieldLink RX4 44 "SelfOpenerModel" "thrown" "I", .fieldLink RX4 47 "SelfOpenerModel" "size" "I", .fieldLink RX4 7 "SelfOpenerModel" "program" "[I", .constantLong RX4 50 (255), .fieldLink RX4 52 "SelfOpenerModel" "known" "Z"] ++ wsX40)
def wsX4_again : List Cond := .code yX4_again cX4_again 4 (some .boolean) :: ([.fieldLink RX4 44 "SelfOpenerModel" "thrown" "I", .fieldLink RX4 47 "SelfOpenerModel" "size" "I", .fieldLink RX4 7 "SelfOpenerModel" "program" "[I", .fieldLink RX4 52 "SelfOpenerModel" "known" "Z"] ++ wsX40)
def wsX4_isByte : List Cond := .code yX4_isByte cX4_isByte 1 (some .boolean) :: ([])
def wsX4_change : List Cond := .code yX4_change cX4_change 3 none :: ([.fieldLink RX4 47 "SelfOpenerModel" "size" "I", .fieldLink RX4 44 "SelfOpenerModel" "thrown" "I", .fieldLink RX4 7 "SelfOpenerModel" "program" "[I", .fieldLink RX4 52 "SelfOpenerModel" "known" "Z", .methodLink RX4 56 yX4_isByte, .static yX4_isByte, .initialized RX4, .code yX4_isByte cX4_isByte 1 (some .boolean)] ++ wsX40)
def wsX4_cut : List Cond := .code yX4_cut cX4_cut 2 none :: ([.fieldLink RX4 47 "SelfOpenerModel" "size" "I", .fieldLink RX4 44 "SelfOpenerModel" "thrown" "I", .fieldLink RX4 52 "SelfOpenerModel" "known" "Z"] ++ wsX40)
def wsX4_place : List Cond := .code yX4_place cX4_place 3 none :: ([.fieldLink RX4 44 "SelfOpenerModel" "thrown" "I", .fieldLink RX4 60 "SelfOpenerModel" "origin" "I", .fieldLink RX4 63 "SelfOpenerModel" "entry" "I", .methodLink RX4 56 yX4_isByte, .static yX4_isByte, .initialized RX4, .code yX4_isByte cX4_isByte 1 (some .boolean)] ++ wsX40)
def wsX4_size : List Cond := .code yX4_size cX4_size 1 (some .int) :: ([.fieldLink RX4 44 "SelfOpenerModel" "thrown" "I", .fieldLink RX4 47 "SelfOpenerModel" "size" "I"] ++ wsX40)
def wsX4_choose : List Cond := .code yX4_choose cX4_choose 6 none :: ([.fieldLink RX4 47 "SelfOpenerModel" "size" "I", .fieldLink RX4 25 "SelfOpenerModel" "right" "[I", .fieldLink RX4 7 "SelfOpenerModel" "program" "[I", .constant RX4 66 (100000), .fieldLink RX4 16 "SelfOpenerModel" "least" "[I", .fieldLink RX4 19 "SelfOpenerModel" "token" "[I", .fieldLink RX4 22 "SelfOpenerModel" "distance" "[I"] ++ wsX40)
def wsX4_pack : List Cond := .code yX4_pack cX4_pack 5 none :: ([.fieldLink RX4 52 "SelfOpenerModel" "known" "Z", .fieldLink RX4 16 "SelfOpenerModel" "least" "[I", .fieldLink RX4 47 "SelfOpenerModel" "size" "I", .fieldLink RX4 25 "SelfOpenerModel" "right" "[I", .fieldLink RX4 71 "SelfOpenerModel" "gap" "I", .fieldLink RX4 74 "SelfOpenerModel" "length" "I", .fieldLink RX4 19 "SelfOpenerModel" "token" "[I", .fieldLink RX4 13 "SelfOpenerModel" "stream" "[I", .fieldLink RX4 22 "SelfOpenerModel" "distance" "[I", .fieldLink RX4 7 "SelfOpenerModel" "program" "[I", .methodLink RX4 67 yX4_choose, .instanceMethod yX4_choose, .selects RX4 yX4_choose yX4_choose, .initialized RX4, .code yX4_choose cX4_choose 6 none, .constant RX4 66 (100000)] ++ wsX40)
def wsX4_packed : List Cond := .code yX4_packed cX4_packed 1 (some .int) :: ([.fieldLink RX4 44 "SelfOpenerModel" "thrown" "I", .fieldLink RX4 74 "SelfOpenerModel" "length" "I", .methodLink RX4 77 yX4_pack, .instanceMethod yX4_pack, .selects RX4 yX4_pack yX4_pack, .initialized RX4, .code yX4_pack cX4_pack 5 none, .fieldLink RX4 52 "SelfOpenerModel" "known" "Z", .fieldLink RX4 16 "SelfOpenerModel" "least" "[I", .fieldLink RX4 47 "SelfOpenerModel" "size" "I", .fieldLink RX4 25 "SelfOpenerModel" "right" "[I", .fieldLink RX4 71 "SelfOpenerModel" "gap" "I", .fieldLink RX4 19 "SelfOpenerModel" "token" "[I", .fieldLink RX4 13 "SelfOpenerModel" "stream" "[I", .fieldLink RX4 22 "SelfOpenerModel" "distance" "[I", .fieldLink RX4 7 "SelfOpenerModel" "program" "[I", .methodLink RX4 67 yX4_choose, .instanceMethod yX4_choose, .selects RX4 yX4_choose yX4_choose, .code yX4_choose cX4_choose 6 none, .constant RX4 66 (100000)] ++ wsX40)
def wsX4_stream : List Cond := .code yX4_stream cX4_stream 2 (some .int) :: ([.fieldLink RX4 74 "SelfOpenerModel" "length" "I", .fieldLink RX4 44 "SelfOpenerModel" "thrown" "I", .fieldLink RX4 13 "SelfOpenerModel" "stream" "[I", .methodLink RX4 77 yX4_pack, .instanceMethod yX4_pack, .selects RX4 yX4_pack yX4_pack, .initialized RX4, .code yX4_pack cX4_pack 5 none, .fieldLink RX4 52 "SelfOpenerModel" "known" "Z", .fieldLink RX4 16 "SelfOpenerModel" "least" "[I", .fieldLink RX4 47 "SelfOpenerModel" "size" "I", .fieldLink RX4 25 "SelfOpenerModel" "right" "[I", .fieldLink RX4 71 "SelfOpenerModel" "gap" "I", .fieldLink RX4 19 "SelfOpenerModel" "token" "[I", .fieldLink RX4 22 "SelfOpenerModel" "distance" "[I", .fieldLink RX4 7 "SelfOpenerModel" "program" "[I", .methodLink RX4 67 yX4_choose, .instanceMethod yX4_choose, .selects RX4 yX4_choose yX4_choose, .code yX4_choose cX4_choose 6 none, .constant RX4 66 (100000)] ++ wsX40)
def wsX4_gap : List Cond := .code yX4_gap cX4_gap 1 (some .int) :: ([.fieldLink RX4 44 "SelfOpenerModel" "thrown" "I", .fieldLink RX4 71 "SelfOpenerModel" "gap" "I", .methodLink RX4 77 yX4_pack, .instanceMethod yX4_pack, .selects RX4 yX4_pack yX4_pack, .initialized RX4, .code yX4_pack cX4_pack 5 none, .fieldLink RX4 52 "SelfOpenerModel" "known" "Z", .fieldLink RX4 16 "SelfOpenerModel" "least" "[I", .fieldLink RX4 47 "SelfOpenerModel" "size" "I", .fieldLink RX4 25 "SelfOpenerModel" "right" "[I", .fieldLink RX4 74 "SelfOpenerModel" "length" "I", .fieldLink RX4 19 "SelfOpenerModel" "token" "[I", .fieldLink RX4 13 "SelfOpenerModel" "stream" "[I", .fieldLink RX4 22 "SelfOpenerModel" "distance" "[I", .fieldLink RX4 7 "SelfOpenerModel" "program" "[I", .methodLink RX4 67 yX4_choose, .instanceMethod yX4_choose, .selects RX4 yX4_choose yX4_choose, .code yX4_choose cX4_choose 6 none, .constant RX4 66 (100000)] ++ wsX40)
def wsX4_wrong : List Cond := .code yX4_wrong cX4_wrong 5 (some .int) :: ([.fieldLink RX4 7 "SelfOpenerModel" "program" "[I", .fieldLink RX4 47 "SelfOpenerModel" "size" "I"] ++ wsX40)
def wsX4_unpack : List Cond := .code yX4_unpack cX4_unpack 7 (some .int) :: ([.fieldLink RX4 44 "SelfOpenerModel" "thrown" "I", .fieldLink RX4 47 "SelfOpenerModel" "size" "I", .fieldLink RX4 7 "SelfOpenerModel" "program" "[I", .fieldLink RX4 28 "SelfOpenerModel" "open" "[I", .fieldLink RX4 52 "SelfOpenerModel" "known" "Z", .methodLink RX4 80 yX4_wrong, .instanceMethod yX4_wrong, .selects RX4 yX4_wrong yX4_wrong, .initialized RX4, .code yX4_wrong cX4_wrong 5 (some .int), .methodLink RX4 84 yX4_fail, .instanceMethod yX4_fail, .selects RX4 yX4_fail yX4_fail, .code yX4_fail cX4_fail 2 (some .int)] ++ wsX40)
def wsX4_clear : List Cond := .code yX4_clear cX4_clear 3 none :: ([.fieldLink RX4 31 "SelfOpenerModel" "memory" "[I", .fieldLink RX4 34 "SelfOpenerModel" "registers" "[I", .fieldLink RX4 88 "SelfOpenerModel" "place" "I", .fieldLink RX4 37 "SelfOpenerModel" "state" "I", .fieldLink RX4 91 "SelfOpenerModel" "steps" "I", .fieldLink RX4 94 "SelfOpenerModel" "outs" "I"] ++ wsX40)
def wsX4_load : List Cond := .code yX4_load cX4_load 2 none :: ([.fieldLink RX4 60 "SelfOpenerModel" "origin" "I", .fieldLink RX4 47 "SelfOpenerModel" "size" "I", .fieldLink RX4 44 "SelfOpenerModel" "thrown" "I", .fieldLink RX4 63 "SelfOpenerModel" "entry" "I", .fieldLink RX4 31 "SelfOpenerModel" "memory" "[I", .fieldLink RX4 7 "SelfOpenerModel" "program" "[I", .methodLink RX4 97 yX4_clear, .instanceMethod yX4_clear, .selects RX4 yX4_clear yX4_clear, .initialized RX4, .code yX4_clear cX4_clear 3 none, .fieldLink RX4 34 "SelfOpenerModel" "registers" "[I", .fieldLink RX4 88 "SelfOpenerModel" "place" "I", .fieldLink RX4 37 "SelfOpenerModel" "state" "I", .fieldLink RX4 91 "SelfOpenerModel" "steps" "I", .fieldLink RX4 94 "SelfOpenerModel" "outs" "I"] ++ wsX40)
def wsX4_eighth : List Cond := .code yX4_eighth cX4_eighth 3 (some .int) :: ([.constantLong RX4 50 (255)])
def wsX4_first : List Cond := .code yX4_first cX4_first 3 (some .int) :: ([.constantLong RX4 100 (7229583154687971857), .constantLong RX4 102 (4707461730014544449), .constantLong RX4 104 (-7835346056596130266), .constantLong RX4 106 (140832314364288), .methodLink RX4 108 yX4_eighth, .static yX4_eighth, .initialized RX4, .code yX4_eighth cX4_eighth 3 (some .int), .constantLong RX4 50 (255)])
def wsX4_second : List Cond := .code yX4_second cX4_second 7 (some .int) :: ([.constantLong RX4 112 (144425465120096256), .constantLong RX4 114 (72482057149677825), .constantLong RX4 116 (360007599053472770), .constantLong RX4 118 (36), .constant RX4 120 (25172016), .fieldLink RX4 74 "SelfOpenerModel" "length" "I", .fieldLink RX4 60 "SelfOpenerModel" "origin" "I", .fieldLink RX4 63 "SelfOpenerModel" "entry" "I", .methodLink RX4 108 yX4_eighth, .static yX4_eighth, .initialized RX4, .code yX4_eighth cX4_eighth 3 (some .int), .constantLong RX4 50 (255)] ++ wsX40)
def wsX4_isPackable : List Cond := .code yX4_isPackable cX4_isPackable 1 (some .boolean) :: ([.fieldLink RX4 60 "SelfOpenerModel" "origin" "I", .fieldLink RX4 47 "SelfOpenerModel" "size" "I", .fieldLink RX4 71 "SelfOpenerModel" "gap" "I", .methodLink RX4 77 yX4_pack, .instanceMethod yX4_pack, .selects RX4 yX4_pack yX4_pack, .initialized RX4, .code yX4_pack cX4_pack 5 none, .fieldLink RX4 52 "SelfOpenerModel" "known" "Z", .fieldLink RX4 16 "SelfOpenerModel" "least" "[I", .fieldLink RX4 25 "SelfOpenerModel" "right" "[I", .fieldLink RX4 74 "SelfOpenerModel" "length" "I", .fieldLink RX4 19 "SelfOpenerModel" "token" "[I", .fieldLink RX4 13 "SelfOpenerModel" "stream" "[I", .fieldLink RX4 22 "SelfOpenerModel" "distance" "[I", .fieldLink RX4 7 "SelfOpenerModel" "program" "[I", .methodLink RX4 67 yX4_choose, .instanceMethod yX4_choose, .selects RX4 yX4_choose yX4_choose, .code yX4_choose cX4_choose 6 none, .constant RX4 66 (100000)] ++ wsX40)
def wsX4_loadPacked_r1 : List Cond := [Cond.fieldLink RX4 44 "SelfOpenerModel" "thrown" "I", Cond.fieldLink RX4 60 "SelfOpenerModel" "origin" "I", Cond.fieldLink RX4 47 "SelfOpenerModel" "size" "I", Cond.fieldLink RX4 71 "SelfOpenerModel" "gap" "I", Cond.fieldLink RX4 74 "SelfOpenerModel" "length" "I", Cond.fieldLink RX4 31 "SelfOpenerModel" "memory" "[I", Cond.fieldLink RX4 13 "SelfOpenerModel" "stream" "[I", Cond.methodLink RX4 121 yX4_isPackable, Cond.instanceMethod yX4_isPackable, Cond.selects RX4 yX4_isPackable yX4_isPackable, Cond.initialized RX4, Cond.code yX4_isPackable cX4_isPackable 1 (some .boolean), Cond.methodLink RX4 77 yX4_pack, Cond.instanceMethod yX4_pack, Cond.selects RX4 yX4_pack yX4_pack, Cond.code yX4_pack cX4_pack 5 none, Cond.fieldLink RX4 52 "SelfOpenerModel" "known" "Z", Cond.fieldLink RX4 16 "SelfOpenerModel" "least" "[I", Cond.fieldLink RX4 25 "SelfOpenerModel" "right" "[I", Cond.fieldLink RX4 19 "SelfOpenerModel" "token" "[I", Cond.fieldLink RX4 22 "SelfOpenerModel" "distance" "[I", Cond.fieldLink RX4 7 "SelfOpenerModel" "program" "[I", Cond.methodLink RX4 67 yX4_choose, Cond.instanceMethod yX4_choose]
def wsX4_loadPacked_r2 : List Cond := [Cond.selects RX4 yX4_choose yX4_choose, Cond.code yX4_choose cX4_choose 6 none, Cond.constant RX4 66 (100000), Cond.methodLink RX4 97 yX4_clear, Cond.instanceMethod yX4_clear, Cond.selects RX4 yX4_clear yX4_clear, Cond.code yX4_clear cX4_clear 3 none, Cond.fieldLink RX4 34 "SelfOpenerModel" "registers" "[I", Cond.fieldLink RX4 88 "SelfOpenerModel" "place" "I", Cond.fieldLink RX4 37 "SelfOpenerModel" "state" "I", Cond.fieldLink RX4 91 "SelfOpenerModel" "steps" "I", Cond.fieldLink RX4 94 "SelfOpenerModel" "outs" "I", Cond.methodLink RX4 125 yX4_first, Cond.static yX4_first, Cond.code yX4_first cX4_first 3 (some .int), Cond.constantLong RX4 100 (7229583154687971857), Cond.constantLong RX4 102 (4707461730014544449), Cond.constantLong RX4 104 (-7835346056596130266), Cond.constantLong RX4 106 (140832314364288), Cond.methodLink RX4 108 yX4_eighth, Cond.static yX4_eighth, Cond.code yX4_eighth cX4_eighth 3 (some .int), Cond.constantLong RX4 50 (255), Cond.methodLink RX4 128 yX4_second]
def wsX4_loadPacked_r3 : List Cond := [Cond.instanceMethod yX4_second, Cond.selects RX4 yX4_second yX4_second, Cond.code yX4_second cX4_second 7 (some .int), Cond.constantLong RX4 112 (144425465120096256), Cond.constantLong RX4 114 (72482057149677825), Cond.constantLong RX4 116 (360007599053472770), Cond.constantLong RX4 118 (36), Cond.constant RX4 120 (25172016), Cond.fieldLink RX4 63 "SelfOpenerModel" "entry" "I"]
def wsX4_loadPacked : List Cond := .code yX4_loadPacked cX4_loadPacked 3 (some .int) :: ((wsX4_loadPacked_r1 ++ (wsX4_loadPacked_r2 ++ wsX4_loadPacked_r3)) ++ wsX40)
def wsX4_putOut : List Cond := .code yX4_putOut cX4_putOut 2 none :: ([.fieldLink RX4 41 "SelfOpenerModel" "out" "[I", .fieldLink RX4 94 "SelfOpenerModel" "outs" "I"] ++ wsX40)
def wsX4_step : List Cond := .code yX4_step cX4_step 6 none :: ([.fieldLink RX4 31 "SelfOpenerModel" "memory" "[I", .fieldLink RX4 88 "SelfOpenerModel" "place" "I", .fieldLink RX4 34 "SelfOpenerModel" "registers" "[I", .fieldLink RX4 91 "SelfOpenerModel" "steps" "I", .fieldLink RX4 37 "SelfOpenerModel" "state" "I", .methodLink RX4 131 yX4_putOut, .instanceMethod yX4_putOut, .selects RX4 yX4_putOut yX4_putOut, .initialized RX4, .code yX4_putOut cX4_putOut 2 none, .fieldLink RX4 41 "SelfOpenerModel" "out" "[I", .fieldLink RX4 94 "SelfOpenerModel" "outs" "I"] ++ wsX40)
def wsX4_run : List Cond := .code yX4_run cX4_run 4 (some .int) :: ([.fieldLink RX4 44 "SelfOpenerModel" "thrown" "I", .fieldLink RX4 37 "SelfOpenerModel" "state" "I", .fieldLink RX4 88 "SelfOpenerModel" "place" "I", .methodLink RX4 134 yX4_step, .instanceMethod yX4_step, .selects RX4 yX4_step yX4_step, .initialized RX4, .code yX4_step cX4_step 6 none, .fieldLink RX4 31 "SelfOpenerModel" "memory" "[I", .fieldLink RX4 34 "SelfOpenerModel" "registers" "[I", .fieldLink RX4 91 "SelfOpenerModel" "steps" "I", .methodLink RX4 131 yX4_putOut, .instanceMethod yX4_putOut, .selects RX4 yX4_putOut yX4_putOut, .code yX4_putOut cX4_putOut 2 none, .fieldLink RX4 41 "SelfOpenerModel" "out" "[I", .fieldLink RX4 94 "SelfOpenerModel" "outs" "I"] ++ wsX40)
def wsX4_look : List Cond := .code yX4_look cX4_look 2 (some .int) :: ([.fieldLink RX4 44 "SelfOpenerModel" "thrown" "I", .fieldLink RX4 34 "SelfOpenerModel" "registers" "[I", .fieldLink RX4 88 "SelfOpenerModel" "place" "I", .fieldLink RX4 37 "SelfOpenerModel" "state" "I", .fieldLink RX4 91 "SelfOpenerModel" "steps" "I", .fieldLink RX4 94 "SelfOpenerModel" "outs" "I"] ++ wsX40)
def wsX4_memory : List Cond := .code yX4_memory cX4_memory 2 (some .int) :: ([.fieldLink RX4 44 "SelfOpenerModel" "thrown" "I", .fieldLink RX4 31 "SelfOpenerModel" "memory" "[I", .methodLink RX4 56 yX4_isByte, .static yX4_isByte, .initialized RX4, .code yX4_isByte cX4_isByte 1 (some .boolean)] ++ wsX40)
def wsX4_out : List Cond := .code yX4_out cX4_out 2 (some .int) :: ([.fieldLink RX4 94 "SelfOpenerModel" "outs" "I", .fieldLink RX4 44 "SelfOpenerModel" "thrown" "I", .fieldLink RX4 41 "SelfOpenerModel" "out" "[I"] ++ wsX40)
def wsX4_apart_r1 : List Cond := [Cond.fieldLink RX4 60 "SelfOpenerModel" "origin" "I", Cond.fieldLink RX4 47 "SelfOpenerModel" "size" "I", Cond.fieldLink RX4 44 "SelfOpenerModel" "thrown" "I", Cond.fieldLink RX4 7 "SelfOpenerModel" "program" "[I", Cond.fieldLink RX4 71 "SelfOpenerModel" "gap" "I", Cond.fieldLink RX4 31 "SelfOpenerModel" "memory" "[I", Cond.methodLink RX4 121 yX4_isPackable, Cond.instanceMethod yX4_isPackable, Cond.selects RX4 yX4_isPackable yX4_isPackable, Cond.initialized RX4, Cond.code yX4_isPackable cX4_isPackable 1 (some .boolean), Cond.methodLink RX4 77 yX4_pack, Cond.instanceMethod yX4_pack, Cond.selects RX4 yX4_pack yX4_pack, Cond.code yX4_pack cX4_pack 5 none, Cond.fieldLink RX4 52 "SelfOpenerModel" "known" "Z", Cond.fieldLink RX4 16 "SelfOpenerModel" "least" "[I", Cond.fieldLink RX4 25 "SelfOpenerModel" "right" "[I", Cond.fieldLink RX4 74 "SelfOpenerModel" "length" "I", Cond.fieldLink RX4 19 "SelfOpenerModel" "token" "[I", Cond.fieldLink RX4 13 "SelfOpenerModel" "stream" "[I", Cond.fieldLink RX4 22 "SelfOpenerModel" "distance" "[I", Cond.methodLink RX4 67 yX4_choose, Cond.instanceMethod yX4_choose]
def wsX4_apart_r2 : List Cond := [Cond.selects RX4 yX4_choose yX4_choose, Cond.code yX4_choose cX4_choose 6 none, Cond.constant RX4 66 (100000)]
def wsX4_apart : List Cond := .code yX4_apart cX4_apart 6 (some .int) :: ((wsX4_apart_r1 ++ wsX4_apart_r2) ++ wsX40)
def wsJ9_max_7cf53 : List Cond := .code yJ9_max_7cf53 cJ9_max_7cf53 2 (some .int) :: ([])
def wsJ9_min_7cf53 : List Cond := .code yJ9_min_7cf53 cJ9_min_7cf53 2 (some .int) :: ([])
def wsL_change : List Cond := .codeWith yL_change cL_change 4 (some .int) [(0, 6, 9, 13), (0, 6, 12, 15)] :: ([.classLink RL 13 "java/lang/IndexOutOfBoundsException", .classLink RL 15 "java/lang/IllegalArgumentException", .methodLink RL 7 yX3_change, .instanceMethod yX3_change, .selects RX3 yX3_change yX3_change, .initialized RX3, .code yX3_change cX3_change 3 none, .classLink RX3 48 "java/lang/IndexOutOfBoundsException", .initialized "java/lang/IndexOutOfBoundsException", .classLink RX3 54 "java/lang/IllegalArgumentException", .initialized "java/lang/IllegalArgumentException", .fieldLink RX3 20 "SelfOpener" "program" "LSelfOpener$Program;", .fieldLink RX3 40 "SelfOpener$Program" "size" "I", .methodLink RX3 51 yX3_isByte, .static yX3_isByte, .code yX3_isByte cX3_isByte 1 (some .boolean), .methodLink RX3 57 yX2_set, .instanceMethod yX2_set, .selects RX2 yX2_set yX2_set, .initialized RX2, .code yX2_set cX2_set 3 none, .fieldLink RX2 9 "SelfOpener$Program" "bytes" "[I", .fieldLink RX2 25 "SelfOpener$Program" "edition" "I"] ++ wsX30 ++ wsX20 ++ (vx_at0 RX3 50 "java/lang/IndexOutOfBoundsException" ["java/lang/RuntimeException", "java/lang/Exception"]).filter goodWord ++ (vx_at0 RX3 56 "java/lang/IllegalArgumentException" ["java/lang/RuntimeException", "java/lang/Exception"]).filter goodWord)
def wsL_cut : List Cond := .codeWith yL_cut cL_cut 3 (some .int) [(0, 5, 8, 15)] :: ([.classLink RL 15 "java/lang/IllegalArgumentException", .methodLink RL 17 yX3_cut, .instanceMethod yX3_cut, .selects RX3 yX3_cut yX3_cut, .initialized RX3, .code yX3_cut cX3_cut 2 none, .classLink RX3 54 "java/lang/IllegalArgumentException", .initialized "java/lang/IllegalArgumentException", .fieldLink RX3 20 "SelfOpener" "program" "LSelfOpener$Program;", .fieldLink RX3 40 "SelfOpener$Program" "size" "I", .methodLink RX3 61 yX2_shorten, .instanceMethod yX2_shorten, .selects RX2 yX2_shorten yX2_shorten, .initialized RX2, .code yX2_shorten cX2_shorten 2 none, .fieldLink RX2 18 "SelfOpener$Program" "size" "I", .fieldLink RX2 25 "SelfOpener$Program" "edition" "I"] ++ wsX30 ++ wsX20 ++ (vx_at0 RX3 56 "java/lang/IllegalArgumentException" ["java/lang/RuntimeException", "java/lang/Exception"]).filter goodWord)
def wsL_place : List Cond := .codeWith yL_place cL_place 4 (some .int) [(0, 6, 9, 15)] :: ([.classLink RL 15 "java/lang/IllegalArgumentException", .methodLink RL 21 yX3_place, .instanceMethod yX3_place, .selects RX3 yX3_place yX3_place, .initialized RX3, .code yX3_place cX3_place 3 none, .classLink RX3 54 "java/lang/IllegalArgumentException", .initialized "java/lang/IllegalArgumentException", .fieldLink RX3 20 "SelfOpener" "program" "LSelfOpener$Program;", .fieldLink RX3 64 "SelfOpener$Program" "origin" "I", .fieldLink RX3 67 "SelfOpener$Program" "entry" "I", .methodLink RX3 51 yX3_isByte, .static yX3_isByte, .code yX3_isByte cX3_isByte 1 (some .boolean)] ++ wsX30 ++ wsX20 ++ (vx_at0 RX3 56 "java/lang/IllegalArgumentException" ["java/lang/RuntimeException", "java/lang/Exception"]).filter goodWord)
def wsL_stream_r1 : List Cond := [Cond.classLink RL 13 "java/lang/IndexOutOfBoundsException", Cond.methodLink RL 24 yX3_stream, Cond.instanceMethod yX3_stream, Cond.selects RX3 yX3_stream yX3_stream, Cond.initialized RX3, Cond.code yX3_stream cX3_stream 2 (some .int), Cond.classLink RX3 48 "java/lang/IndexOutOfBoundsException", Cond.initialized "java/lang/IndexOutOfBoundsException", Cond.fieldLink RX3 10 "SelfOpener" "packing" "LSelfOpener$Packing;", Cond.fieldLink RX3 73 "SelfOpener$Packing" "length" "I", Cond.fieldLink RX3 76 "SelfOpener$Packing" "stream" "[I", Cond.methodLink RX3 70 yX1_refresh, Cond.instanceMethod yX1_refresh, Cond.selects RX1 yX1_refresh yX1_refresh, Cond.initialized RX1, Cond.code yX1_refresh cX1_refresh 3 none, Cond.fieldLink RX1 34 "SelfOpener$Packing" "edition" "I", Cond.fieldLink RX1 12 "SelfOpener$Packing" "program" "LSelfOpener$Program;", Cond.fieldLink RX1 56 "SelfOpener$Program" "edition" "I", Cond.fieldLink RX1 41 "SelfOpener$Program" "size" "I", Cond.fieldLink RX1 31 "SelfOpener$Packing" "alike" "[I", Cond.fieldLink RX1 22 "SelfOpener$Packing" "cost" "[I", Cond.fieldLink RX1 64 "SelfOpener$Packing" "length" "I", Cond.methodLink RX1 57 yX1_findCopy]
def wsL_stream_r2 : List Cond := [Cond.instanceMethod yX1_findCopy, Cond.selects RX1 yX1_findCopy yX1_findCopy, Cond.code yX1_findCopy cX1_findCopy 5 none, Cond.fieldLink RX1 70 "SelfOpener$Program" "bytes" "[I", Cond.fieldLink RX1 25 "SelfOpener$Packing" "makes" "[I", Cond.fieldLink RX1 28 "SelfOpener$Packing" "distance" "[I", Cond.methodLink RX1 73 Lib.Math.min.name, Cond.static Lib.Math.min.name, Cond.initialized "java/lang/Math", Cond.code Lib.Math.min.name Lib.Math.min.code 2 (some .int), Cond.methodLink RX1 61 yX1_chooseToken, Cond.instanceMethod yX1_chooseToken, Cond.selects RX1 yX1_chooseToken yX1_chooseToken, Cond.code yX1_chooseToken cX1_chooseToken 6 none, Cond.methodLink RX1 67 yX1_writeStream, Cond.instanceMethod yX1_writeStream, Cond.selects RX1 yX1_writeStream yX1_writeStream, Cond.code yX1_writeStream cX1_writeStream 6 none, Cond.methodLink RX1 79 Lib.Math.max.name, Cond.static Lib.Math.max.name, Cond.code Lib.Math.max.name Lib.Math.max.code 2 (some .int), Cond.fieldLink RX1 44 "SelfOpener$Packing" "gap" "I", Cond.fieldLink RX1 18 "SelfOpener$Packing" "stream" "[I", Cond.methodLink RX1 82 arraycopyName]
def wsL_stream_r3 : List Cond := [Cond.native arraycopyName, Cond.static arraycopyName, Cond.initialized "java/lang/System"]
def wsL_stream : List Cond := .codeWith yL_stream cL_stream 4 (some .int) [(0, 9, 12, 13)] :: ((wsL_stream_r1 ++ (wsL_stream_r2 ++ wsL_stream_r3)) ++ wsX30 ++ wsX10 ++ wsX20 ++ (vx_at0 RX3 50 "java/lang/IndexOutOfBoundsException" ["java/lang/RuntimeException", "java/lang/Exception"]).filter goodWord)
def wsL_unpack_r1 : List Cond := [Cond.classLink RL 32 "java/util/NoSuchElementException", Cond.classLink RL 34 "java/lang/IllegalStateException", Cond.classLink RL 15 "java/lang/IllegalArgumentException", Cond.classLink RL 36 "java/lang/UnsupportedOperationException", Cond.methodLink RL 28 yX3_unpack, Cond.instanceMethod yX3_unpack, Cond.selects RX3 yX3_unpack yX3_unpack, Cond.initialized RX3, Cond.code yX3_unpack cX3_unpack 1 (some .int), Cond.fieldLink RX3 20 "SelfOpener" "program" "LSelfOpener$Program;", Cond.fieldLink RX3 40 "SelfOpener$Program" "size" "I", Cond.methodLink RX3 82 yX2_openAsStream, Cond.instanceMethod yX2_openAsStream, Cond.selects RX2 yX2_openAsStream yX2_openAsStream, Cond.initialized RX2, Cond.code yX2_openAsStream cX2_openAsStream 4 none, Cond.classLink RX2 37 "java/util/NoSuchElementException", Cond.initialized "java/util/NoSuchElementException", Cond.classLink RX2 40 "java/lang/IllegalStateException", Cond.initialized "java/lang/IllegalStateException", Cond.fieldLink RX2 18 "SelfOpener$Program" "size" "I", Cond.fieldLink RX2 9 "SelfOpener$Program" "bytes" "[I", Cond.fieldLink RX2 15 "SelfOpener$Program" "opened" "[I", Cond.methodLink RX2 43 arraycopyName]
def wsL_unpack_r2 : List Cond := [Cond.native arraycopyName, Cond.static arraycopyName, Cond.initialized "java/lang/System", Cond.methodLink RX2 30 yX2_openRun, Cond.instanceMethod yX2_openRun, Cond.selects RX2 yX2_openRun yX2_openRun, Cond.code yX2_openRun cX2_openRun 4 (some .int), Cond.classLink RX2 53 "java/lang/UnsupportedOperationException", Cond.initialized "java/lang/UnsupportedOperationException", Cond.methodLink RX2 34 yX2_openCopy, Cond.instanceMethod yX2_openCopy, Cond.selects RX2 yX2_openCopy yX2_openCopy, Cond.code yX2_openCopy cX2_openCopy 6 (some .int), Cond.classLink RX2 56 "java/lang/IllegalArgumentException", Cond.initialized "java/lang/IllegalArgumentException", Cond.methodLink RX2 49 yX2_shorten, Cond.instanceMethod yX2_shorten, Cond.selects RX2 yX2_shorten yX2_shorten, Cond.code yX2_shorten cX2_shorten 2 none, Cond.fieldLink RX2 25 "SelfOpener$Program" "edition" "I"]
def wsL_unpack : List Cond := .codeWith yL_unpack cL_unpack 3 (some .int) [(0, 8, 11, 32), (0, 8, 14, 34), (0, 8, 17, 15), (0, 8, 20, 36)] :: ((wsL_unpack_r1 ++ wsL_unpack_r2) ++ wsX30 ++ wsX20 ++ (vx_at0 RX2 39 "java/util/NoSuchElementException" ["java/lang/RuntimeException", "java/lang/Exception"]).filter goodWord ++ (vx_at0 RX2 42 "java/lang/IllegalStateException" ["java/lang/RuntimeException", "java/lang/Exception"]).filter goodWord ++ (vx_at0 RX2 55 "java/lang/UnsupportedOperationException" ["java/lang/RuntimeException", "java/lang/Exception"]).filter goodWord ++ (vx_at0 RX2 58 "java/lang/IllegalArgumentException" ["java/lang/RuntimeException", "java/lang/Exception"]).filter goodWord)
def wsL_load_r1 : List Cond := [Cond.classLink RL 34 "java/lang/IllegalStateException", Cond.methodLink RL 38 yX3_load, Cond.instanceMethod yX3_load, Cond.selects RX3 yX3_load yX3_load, Cond.initialized RX3, Cond.code yX3_load cX3_load 1 none, Cond.classLink RX3 89 "java/lang/IllegalStateException", Cond.initialized "java/lang/IllegalStateException", Cond.fieldLink RX3 20 "SelfOpener" "program" "LSelfOpener$Program;", Cond.fieldLink RX3 24 "SelfOpener" "machine" "LSelfOpener$Machine;", Cond.fieldLink RX3 67 "SelfOpener$Program" "entry" "I", Cond.fieldLink RX3 64 "SelfOpener$Program" "origin" "I", Cond.fieldLink RX3 44 "SelfOpener$Program" "bytes" "[I", Cond.fieldLink RX3 40 "SelfOpener$Program" "size" "I", Cond.methodLink RX3 85 yX2_fits, Cond.instanceMethod yX2_fits, Cond.selects RX2 yX2_fits yX2_fits, Cond.initialized RX2, Cond.code yX2_fits cX2_fits 1 (some .boolean), Cond.fieldLink RX2 22 "SelfOpener$Program" "origin" "I", Cond.fieldLink RX2 18 "SelfOpener$Program" "size" "I", Cond.methodLink RX3 92 yX0_clear, Cond.instanceMethod yX0_clear, Cond.selects RX0 yX0_clear yX0_clear]
def wsL_load_r2 : List Cond := [Cond.initialized RX0, Cond.code yX0_clear cX0_clear 3 none, Cond.fieldLink RX0 9 "SelfOpener$Machine" "memory" "[I", Cond.fieldLink RX0 15 "SelfOpener$Machine" "registers" "[I", Cond.fieldLink RX0 28 "SelfOpener$Machine" "place" "I", Cond.fieldLink RX0 21 "SelfOpener$Machine" "state" "I", Cond.fieldLink RX0 31 "SelfOpener$Machine" "steps" "I", Cond.fieldLink RX0 25 "SelfOpener$Machine" "putOut" "I", Cond.methodLink RX3 95 yX0_write, Cond.instanceMethod yX0_write, Cond.selects RX0 yX0_write yX0_write, Cond.code yX0_write cX0_write 4 none, Cond.methodLink RX0 34 arraycopyName, Cond.native arraycopyName, Cond.static arraycopyName, Cond.initialized "java/lang/System"]
def wsL_load : List Cond := .codeWith yL_load cL_load 2 (some .int) [(0, 4, 7, 34)] :: ((wsL_load_r1 ++ wsL_load_r2) ++ wsX30 ++ wsX20 ++ wsX00 ++ (vx_at0 RX3 91 "java/lang/IllegalStateException" ["java/lang/RuntimeException", "java/lang/Exception"]).filter goodWord)
def wsL_loadPacked_r1 : List Cond := [Cond.classLink RL 36 "java/lang/UnsupportedOperationException", Cond.methodLink RL 41 yX3_loadPacked, Cond.instanceMethod yX3_loadPacked, Cond.selects RX3 yX3_loadPacked yX3_loadPacked, Cond.initialized RX3, Cond.code yX3_loadPacked cX3_loadPacked 3 (some .int), Cond.classLink RX3 100 "java/lang/UnsupportedOperationException", Cond.initialized "java/lang/UnsupportedOperationException", Cond.fieldLink RX3 10 "SelfOpener" "packing" "LSelfOpener$Packing;", Cond.fieldLink RX3 73 "SelfOpener$Packing" "length" "I", Cond.fieldLink RX3 24 "SelfOpener" "machine" "LSelfOpener$Machine;", Cond.fieldLink RX3 76 "SelfOpener$Packing" "stream" "[I", Cond.fieldLink RX3 20 "SelfOpener" "program" "LSelfOpener$Program;", Cond.fieldLink RX3 64 "SelfOpener$Program" "origin" "I", Cond.fieldLink RX3 67 "SelfOpener$Program" "entry" "I", Cond.methodLink RX3 70 yX1_refresh, Cond.instanceMethod yX1_refresh, Cond.selects RX1 yX1_refresh yX1_refresh, Cond.initialized RX1, Cond.code yX1_refresh cX1_refresh 3 none, Cond.fieldLink RX1 34 "SelfOpener$Packing" "edition" "I", Cond.fieldLink RX1 12 "SelfOpener$Packing" "program" "LSelfOpener$Program;", Cond.fieldLink RX1 56 "SelfOpener$Program" "edition" "I", Cond.fieldLink RX1 41 "SelfOpener$Program" "size" "I"]
def wsL_loadPacked_r2 : List Cond := [Cond.fieldLink RX1 31 "SelfOpener$Packing" "alike" "[I", Cond.fieldLink RX1 22 "SelfOpener$Packing" "cost" "[I", Cond.fieldLink RX1 64 "SelfOpener$Packing" "length" "I", Cond.methodLink RX1 57 yX1_findCopy, Cond.instanceMethod yX1_findCopy, Cond.selects RX1 yX1_findCopy yX1_findCopy, Cond.code yX1_findCopy cX1_findCopy 5 none, Cond.fieldLink RX1 70 "SelfOpener$Program" "bytes" "[I", Cond.fieldLink RX1 25 "SelfOpener$Packing" "makes" "[I", Cond.fieldLink RX1 28 "SelfOpener$Packing" "distance" "[I", Cond.methodLink RX1 73 Lib.Math.min.name, Cond.static Lib.Math.min.name, Cond.initialized "java/lang/Math", Cond.code Lib.Math.min.name Lib.Math.min.code 2 (some .int), Cond.methodLink RX1 61 yX1_chooseToken, Cond.instanceMethod yX1_chooseToken, Cond.selects RX1 yX1_chooseToken yX1_chooseToken, Cond.code yX1_chooseToken cX1_chooseToken 6 none, Cond.methodLink RX1 67 yX1_writeStream, Cond.instanceMethod yX1_writeStream, Cond.selects RX1 yX1_writeStream yX1_writeStream, Cond.code yX1_writeStream cX1_writeStream 6 none, Cond.methodLink RX1 79 Lib.Math.max.name, Cond.static Lib.Math.max.name]
def wsL_loadPacked_r3 : List Cond := [Cond.code Lib.Math.max.name Lib.Math.max.code 2 (some .int), Cond.fieldLink RX1 44 "SelfOpener$Packing" "gap" "I", Cond.fieldLink RX1 18 "SelfOpener$Packing" "stream" "[I", Cond.methodLink RX1 82 arraycopyName, Cond.native arraycopyName, Cond.static arraycopyName, Cond.initialized "java/lang/System", Cond.methodLink RX3 99 yX1_fits, Cond.instanceMethod yX1_fits, Cond.selects RX1 yX1_fits yX1_fits, Cond.code yX1_fits cX1_fits 1 (some .boolean), Cond.methodLink RX1 53 yX1_layoutEnd, Cond.instanceMethod yX1_layoutEnd, Cond.selects RX1 yX1_layoutEnd yX1_layoutEnd, Cond.code yX1_layoutEnd cX1_layoutEnd 1 (some .int), Cond.methodLink RX1 47 yX1_stubAddress, Cond.instanceMethod yX1_stubAddress, Cond.selects RX1 yX1_stubAddress yX1_stubAddress, Cond.code yX1_stubAddress cX1_stubAddress 1 (some .int), Cond.fieldLink RX1 38 "SelfOpener$Program" "origin" "I", Cond.methodLink RX3 103 yX1_stubAddress, Cond.methodLink RX3 92 yX0_clear, Cond.instanceMethod yX0_clear, Cond.selects RX0 yX0_clear yX0_clear]
def wsL_loadPacked_r4 : List Cond := [Cond.initialized RX0, Cond.code yX0_clear cX0_clear 3 none, Cond.fieldLink RX0 9 "SelfOpener$Machine" "memory" "[I", Cond.fieldLink RX0 15 "SelfOpener$Machine" "registers" "[I", Cond.fieldLink RX0 28 "SelfOpener$Machine" "place" "I", Cond.fieldLink RX0 21 "SelfOpener$Machine" "state" "I", Cond.fieldLink RX0 31 "SelfOpener$Machine" "steps" "I", Cond.fieldLink RX0 25 "SelfOpener$Machine" "putOut" "I", Cond.methodLink RX3 95 yX0_write, Cond.instanceMethod yX0_write, Cond.selects RX0 yX0_write yX0_write, Cond.code yX0_write cX0_write 4 none, Cond.methodLink RX0 34 arraycopyName, Cond.methodLink RX3 107 yX0_writeStub, Cond.instanceMethod yX0_writeStub, Cond.selects RX0 yX0_writeStub yX0_writeStub, Cond.code yX0_writeStub cX0_writeStub 7 none, Cond.fieldLink RX0 40 "SelfOpener$Machine" "STUB" "[I", Cond.methodLink RX3 111 yX1_layoutEnd]
def wsL_loadPacked : List Cond := .codeWith yL_loadPacked cL_loadPacked 3 (some .int) [(0, 8, 11, 36)] :: ((wsL_loadPacked_r1 ++ (wsL_loadPacked_r2 ++ (wsL_loadPacked_r3 ++ wsL_loadPacked_r4))) ++ wsX30 ++ wsX10 ++ wsX20 ++ wsX00 ++ (vx_at0 RX3 102 "java/lang/UnsupportedOperationException" ["java/lang/RuntimeException", "java/lang/Exception"]).filter goodWord)
def wsL_run_r1 : List Cond := [Cond.classLink RL 15 "java/lang/IllegalArgumentException", Cond.methodLink RL 44 yX3_run, Cond.instanceMethod yX3_run, Cond.selects RX3 yX3_run yX3_run, Cond.initialized RX3, Cond.code yX3_run cX3_run 4 (some .int), Cond.classLink RX3 54 "java/lang/IllegalArgumentException", Cond.initialized "java/lang/IllegalArgumentException", Cond.fieldLink RX3 24 "SelfOpener" "machine" "LSelfOpener$Machine;", Cond.fieldLink RX3 117 "SelfOpener$Machine" "place" "I", Cond.methodLink RX3 114 yX0_runs, Cond.instanceMethod yX0_runs, Cond.selects RX0 yX0_runs yX0_runs, Cond.initialized RX0, Cond.code yX0_runs cX0_runs 1 (some .boolean), Cond.fieldLink RX0 21 "SelfOpener$Machine" "state" "I", Cond.methodLink RX3 120 yX0_step, Cond.instanceMethod yX0_step, Cond.selects RX0 yX0_step yX0_step, Cond.code yX0_step cX0_step 3 none, Cond.fieldLink RX0 9 "SelfOpener$Machine" "memory" "[I", Cond.fieldLink RX0 28 "SelfOpener$Machine" "place" "I", Cond.fieldLink RX0 31 "SelfOpener$Machine" "steps" "I", Cond.methodLink RX0 43 yX0_act]
def wsL_run_r2 : List Cond := [Cond.instanceMethod yX0_act, Cond.selects RX0 yX0_act yX0_act, Cond.code yX0_act cX0_act 5 none, Cond.fieldLink RX0 15 "SelfOpener$Machine" "registers" "[I", Cond.fieldLink RX0 18 "SelfOpener$Machine" "kept" "[I", Cond.fieldLink RX0 25 "SelfOpener$Machine" "putOut" "I", Cond.methodLink RX0 47 yX0_jump, Cond.instanceMethod yX0_jump, Cond.selects RX0 yX0_jump yX0_jump, Cond.code yX0_jump cX0_jump 4 none, Cond.methodLink RX0 50 yX0_reckon, Cond.instanceMethod yX0_reckon, Cond.selects RX0 yX0_reckon yX0_reckon, Cond.code yX0_reckon cX0_reckon 5 (some .int)]
def wsL_run : List Cond := .codeWith yL_run cL_run 5 (some .int) [(0, 10, 13, 15)] :: ((wsL_run_r1 ++ wsL_run_r2) ++ wsX30 ++ wsX00 ++ (vx_at0 RX3 56 "java/lang/IllegalArgumentException" ["java/lang/RuntimeException", "java/lang/Exception"]).filter goodWord)
def wsL_look : List Cond := .codeWith yL_look cL_look 4 (some .int) [(0, 9, 12, 13)] :: ([.classLink RL 13 "java/lang/IndexOutOfBoundsException", .methodLink RL 48 yX3_look, .instanceMethod yX3_look, .selects RX3 yX3_look yX3_look, .initialized RX3, .code yX3_look cX3_look 2 (some .int), .classLink RX3 48 "java/lang/IndexOutOfBoundsException", .initialized "java/lang/IndexOutOfBoundsException", .fieldLink RX3 24 "SelfOpener" "machine" "LSelfOpener$Machine;", .fieldLink RX3 123 "SelfOpener$Machine" "registers" "[I", .fieldLink RX3 117 "SelfOpener$Machine" "place" "I", .fieldLink RX3 126 "SelfOpener$Machine" "state" "I", .fieldLink RX3 129 "SelfOpener$Machine" "steps" "I", .fieldLink RX3 132 "SelfOpener$Machine" "putOut" "I"] ++ wsX30 ++ wsX00 ++ (vx_at0 RX3 50 "java/lang/IndexOutOfBoundsException" ["java/lang/RuntimeException", "java/lang/Exception"]).filter goodWord)
def wsL_memory : List Cond := .codeWith yL_memory cL_memory 4 (some .int) [(0, 9, 12, 13)] :: ([.classLink RL 13 "java/lang/IndexOutOfBoundsException", .methodLink RL 51 yX3_memory, .instanceMethod yX3_memory, .selects RX3 yX3_memory yX3_memory, .initialized RX3, .code yX3_memory cX3_memory 2 (some .int), .classLink RX3 48 "java/lang/IndexOutOfBoundsException", .initialized "java/lang/IndexOutOfBoundsException", .fieldLink RX3 24 "SelfOpener" "machine" "LSelfOpener$Machine;", .fieldLink RX3 135 "SelfOpener$Machine" "memory" "[I", .methodLink RX3 51 yX3_isByte, .static yX3_isByte, .code yX3_isByte cX3_isByte 1 (some .boolean)] ++ wsX30 ++ wsX00 ++ (vx_at0 RX3 50 "java/lang/IndexOutOfBoundsException" ["java/lang/RuntimeException", "java/lang/Exception"]).filter goodWord)
def wsL_out : List Cond := .codeWith yL_out cL_out 4 (some .int) [(0, 9, 12, 13)] :: ([.classLink RL 13 "java/lang/IndexOutOfBoundsException", .methodLink RL 54 yX3_out, .instanceMethod yX3_out, .selects RX3 yX3_out yX3_out, .initialized RX3, .code yX3_out cX3_out 2 (some .int), .classLink RX3 48 "java/lang/IndexOutOfBoundsException", .initialized "java/lang/IndexOutOfBoundsException", .fieldLink RX3 24 "SelfOpener" "machine" "LSelfOpener$Machine;", .fieldLink RX3 141 "SelfOpener$Machine" "kept" "[I", .methodLink RX3 138 yX0_keeps, .instanceMethod yX0_keeps, .selects RX0 yX0_keeps yX0_keeps, .initialized RX0, .code yX0_keeps cX0_keeps 2 (some .boolean), .fieldLink RX0 25 "SelfOpener$Machine" "putOut" "I"] ++ wsX30 ++ wsX00 ++ (vx_at0 RX3 50 "java/lang/IndexOutOfBoundsException" ["java/lang/RuntimeException", "java/lang/Exception"]).filter goodWord)
def wsL_apart_r1 : List Cond := [Cond.classLink RL 34 "java/lang/IllegalStateException", Cond.classLink RL 36 "java/lang/UnsupportedOperationException", Cond.methodLink RL 57 yX3_apart, Cond.instanceMethod yX3_apart, Cond.selects RX3 yX3_apart yX3_apart, Cond.initialized RX3, Cond.code yX3_apart cX3_apart 6 (some .int), Cond.classLink RX3 89 "java/lang/IllegalStateException", Cond.initialized "java/lang/IllegalStateException", Cond.classLink RX3 100 "java/lang/UnsupportedOperationException", Cond.initialized "java/lang/UnsupportedOperationException", Cond.fieldLink RX3 20 "SelfOpener" "program" "LSelfOpener$Program;", Cond.fieldLink RX3 10 "SelfOpener" "packing" "LSelfOpener$Packing;", Cond.fieldLink RX3 64 "SelfOpener$Program" "origin" "I", Cond.fieldLink RX3 40 "SelfOpener$Program" "size" "I", Cond.fieldLink RX3 24 "SelfOpener" "machine" "LSelfOpener$Machine;", Cond.fieldLink RX3 135 "SelfOpener$Machine" "memory" "[I", Cond.methodLink RX3 85 yX2_fits, Cond.instanceMethod yX2_fits, Cond.selects RX2 yX2_fits yX2_fits, Cond.initialized RX2, Cond.code yX2_fits cX2_fits 1 (some .boolean), Cond.fieldLink RX2 22 "SelfOpener$Program" "origin" "I", Cond.fieldLink RX2 18 "SelfOpener$Program" "size" "I"]
def wsL_apart_r2 : List Cond := [Cond.methodLink RX3 70 yX1_refresh, Cond.instanceMethod yX1_refresh, Cond.selects RX1 yX1_refresh yX1_refresh, Cond.initialized RX1, Cond.code yX1_refresh cX1_refresh 3 none, Cond.fieldLink RX1 34 "SelfOpener$Packing" "edition" "I", Cond.fieldLink RX1 12 "SelfOpener$Packing" "program" "LSelfOpener$Program;", Cond.fieldLink RX1 56 "SelfOpener$Program" "edition" "I", Cond.fieldLink RX1 41 "SelfOpener$Program" "size" "I", Cond.fieldLink RX1 31 "SelfOpener$Packing" "alike" "[I", Cond.fieldLink RX1 22 "SelfOpener$Packing" "cost" "[I", Cond.fieldLink RX1 64 "SelfOpener$Packing" "length" "I", Cond.methodLink RX1 57 yX1_findCopy, Cond.instanceMethod yX1_findCopy, Cond.selects RX1 yX1_findCopy yX1_findCopy, Cond.code yX1_findCopy cX1_findCopy 5 none, Cond.fieldLink RX1 70 "SelfOpener$Program" "bytes" "[I", Cond.fieldLink RX1 25 "SelfOpener$Packing" "makes" "[I", Cond.fieldLink RX1 28 "SelfOpener$Packing" "distance" "[I", Cond.methodLink RX1 73 Lib.Math.min.name, Cond.static Lib.Math.min.name, Cond.initialized "java/lang/Math", Cond.code Lib.Math.min.name Lib.Math.min.code 2 (some .int), Cond.methodLink RX1 61 yX1_chooseToken]
def wsL_apart_r3 : List Cond := [Cond.instanceMethod yX1_chooseToken, Cond.selects RX1 yX1_chooseToken yX1_chooseToken, Cond.code yX1_chooseToken cX1_chooseToken 6 none, Cond.methodLink RX1 67 yX1_writeStream, Cond.instanceMethod yX1_writeStream, Cond.selects RX1 yX1_writeStream yX1_writeStream, Cond.code yX1_writeStream cX1_writeStream 6 none, Cond.methodLink RX1 79 Lib.Math.max.name, Cond.static Lib.Math.max.name, Cond.code Lib.Math.max.name Lib.Math.max.code 2 (some .int), Cond.fieldLink RX1 44 "SelfOpener$Packing" "gap" "I", Cond.fieldLink RX1 18 "SelfOpener$Packing" "stream" "[I", Cond.methodLink RX1 82 arraycopyName, Cond.native arraycopyName, Cond.static arraycopyName, Cond.initialized "java/lang/System", Cond.methodLink RX3 99 yX1_fits, Cond.instanceMethod yX1_fits, Cond.selects RX1 yX1_fits yX1_fits, Cond.code yX1_fits cX1_fits 1 (some .boolean), Cond.methodLink RX1 53 yX1_layoutEnd, Cond.instanceMethod yX1_layoutEnd, Cond.selects RX1 yX1_layoutEnd yX1_layoutEnd, Cond.code yX1_layoutEnd cX1_layoutEnd 1 (some .int)]
def wsL_apart_r4 : List Cond := [Cond.methodLink RX1 47 yX1_stubAddress, Cond.instanceMethod yX1_stubAddress, Cond.selects RX1 yX1_stubAddress yX1_stubAddress, Cond.code yX1_stubAddress cX1_stubAddress 1 (some .int), Cond.fieldLink RX1 38 "SelfOpener$Program" "origin" "I", Cond.methodLink RX3 111 yX1_layoutEnd, Cond.methodLink RX3 144 yX2_loadedAt, Cond.instanceMethod yX2_loadedAt, Cond.selects RX2 yX2_loadedAt yX2_loadedAt, Cond.code yX2_loadedAt cX2_loadedAt 3 (some .int), Cond.fieldLink RX2 9 "SelfOpener$Program" "bytes" "[I"]
def wsL_apart : List Cond := .codeWith yL_apart cL_apart 3 (some .int) [(0, 8, 11, 34), (0, 8, 14, 36)] :: ((wsL_apart_r1 ++ (wsL_apart_r2 ++ (wsL_apart_r3 ++ wsL_apart_r4))) ++ wsX30 ++ wsX20 ++ wsX00 ++ wsX10 ++ (vx_at0 RX3 91 "java/lang/IllegalStateException" ["java/lang/RuntimeException", "java/lang/Exception"]).filter goodWord ++ (vx_at0 RX3 102 "java/lang/UnsupportedOperationException" ["java/lang/RuntimeException", "java/lang/Exception"]).filter goodWord)
def wsL_law0_r1 : List Cond := [Cond.classLink RL 8 RX3, Cond.instantiable RX3 3, Cond.initialized RX3, Cond.classLink RL 61 RX4, Cond.instantiable RX4 21, Cond.initialized RX4, Cond.arrayClass .long, Cond.constantLong RL 64 (4294967295), Cond.methodLink RL 60 yX3_init, Cond.instanceMethod yX3_init, Cond.code yX3_init cX3_init 1 none, Cond.methodLink RX3 1 objectInit, Cond.instanceMethod objectInit, Cond.code objectInit ⟨#[0xb1]⟩ 1 none, Cond.classLink RX3 7 RX1, Cond.instantiable RX1 9, Cond.initialized RX1, Cond.fieldLink RX3 10 "SelfOpener" "packing" "LSelfOpener$Packing;", Cond.fieldLink RX3 16 "SelfOpener$Packing" "program" "LSelfOpener$Program;", Cond.fieldLink RX3 20 "SelfOpener" "program" "LSelfOpener$Program;", Cond.classLink RX3 21 RX0, Cond.instantiable RX0 7, Cond.initialized RX0, Cond.fieldLink RX3 24 "SelfOpener" "machine" "LSelfOpener$Machine;"]
def wsL_law0_r2 : List Cond := [Cond.methodLink RX3 9 yX1_init, Cond.instanceMethod yX1_init, Cond.code yX1_init cX1_init 1 none, Cond.methodLink RX1 3 objectInit, Cond.classLink RX1 9 RX2, Cond.instantiable RX2 6, Cond.initialized RX2, Cond.fieldLink RX1 12 "SelfOpener$Packing" "program" "LSelfOpener$Program;", Cond.arrayClass .int, Cond.fieldLink RX1 18 "SelfOpener$Packing" "stream" "[I", Cond.fieldLink RX1 22 "SelfOpener$Packing" "cost" "[I", Cond.fieldLink RX1 25 "SelfOpener$Packing" "makes" "[I", Cond.fieldLink RX1 28 "SelfOpener$Packing" "distance" "[I", Cond.fieldLink RX1 31 "SelfOpener$Packing" "alike" "[I", Cond.fieldLink RX1 34 "SelfOpener$Packing" "edition" "I", Cond.methodLink RX1 11 yX2_init, Cond.instanceMethod yX2_init, Cond.code yX2_init cX2_init 1 none, Cond.methodLink RX2 3 objectInit, Cond.fieldLink RX2 9 "SelfOpener$Program" "bytes" "[I", Cond.fieldLink RX2 15 "SelfOpener$Program" "opened" "[I", Cond.methodLink RX3 23 yX0_init, Cond.instanceMethod yX0_init, Cond.code yX0_init cX0_init 1 none]
def wsL_law0_r3 : List Cond := [Cond.methodLink RX0 3 objectInit, Cond.fieldLink RX0 9 "SelfOpener$Machine" "memory" "[I", Cond.fieldLink RX0 15 "SelfOpener$Machine" "registers" "[I", Cond.fieldLink RX0 18 "SelfOpener$Machine" "kept" "[I", Cond.fieldLink RX0 21 "SelfOpener$Machine" "state" "I", Cond.methodLink RL 63 yX4_init, Cond.instanceMethod yX4_init, Cond.code yX4_init cX4_init 1 none, Cond.methodLink RX4 1 objectInit, Cond.fieldLink RX4 7 "SelfOpenerModel" "program" "[I", Cond.fieldLink RX4 13 "SelfOpenerModel" "stream" "[I", Cond.fieldLink RX4 16 "SelfOpenerModel" "least" "[I", Cond.fieldLink RX4 19 "SelfOpenerModel" "token" "[I", Cond.fieldLink RX4 22 "SelfOpenerModel" "distance" "[I", Cond.fieldLink RX4 25 "SelfOpenerModel" "right" "[I", Cond.fieldLink RX4 28 "SelfOpenerModel" "open" "[I", Cond.fieldLink RX4 31 "SelfOpenerModel" "memory" "[I", Cond.fieldLink RX4 34 "SelfOpenerModel" "registers" "[I", Cond.fieldLink RX4 37 "SelfOpenerModel" "state" "I", Cond.fieldLink RX4 41 "SelfOpenerModel" "out" "[I", Cond.methodLink RL 66 yX3_put, Cond.instanceMethod yX3_put, Cond.selects RX3 yX3_put yX3_put, Cond.code yX3_put cX3_put 7 (some .boolean)]
def wsL_law0_r4 : List Cond := [Cond.constantLong RX3 34 (255), Cond.methodLink RX3 28 yX2_hasRoom, Cond.instanceMethod yX2_hasRoom, Cond.selects RX2 yX2_hasRoom yX2_hasRoom, Cond.code yX2_hasRoom cX2_hasRoom 2 (some .boolean), Cond.fieldLink RX2 18 "SelfOpener$Program" "size" "I", Cond.methodLink RX3 36 yX2_append, Cond.instanceMethod yX2_append, Cond.selects RX2 yX2_append yX2_append, Cond.code yX2_append cX2_append 2 none, Cond.fieldLink RX2 25 "SelfOpener$Program" "edition" "I", Cond.methodLink RL 70 yX4_put, Cond.instanceMethod yX4_put, Cond.selects RX4 yX4_put yX4_put, Cond.code yX4_put cX4_put 5 (some .boolean), Cond.fieldLink RX4 44 "SelfOpenerModel" "thrown" "I", Cond.fieldLink RX4 47 "SelfOpenerModel" "size" "I", Cond.constantLong RX4 50 (255), Cond.fieldLink RX4 52 "SelfOpenerModel" "known" "Z", Cond.methodLink RL 71 yX3_again, Cond.instanceMethod yX3_again, Cond.selects RX3 yX3_again yX3_again, Cond.code yX3_again cX3_again 4 (some .boolean), Cond.fieldLink RX3 40 "SelfOpener$Program" "size" "I"]
def wsL_law0_r5 : List Cond := [Cond.fieldLink RX3 44 "SelfOpener$Program" "bytes" "[I", Cond.methodLink RL 75 yX4_again, Cond.instanceMethod yX4_again, Cond.selects RX4 yX4_again yX4_again, Cond.code yX4_again cX4_again 4 (some .boolean), Cond.methodLink RL 76 yL_change, Cond.static yL_change, Cond.initialized RL, Cond.codeWith yL_change cL_change 4 (some .int) [(0, 6, 9, 13), (0, 6, 12, 15)], Cond.classLink RL 13 "java/lang/IndexOutOfBoundsException", Cond.classLink RL 15 "java/lang/IllegalArgumentException", Cond.methodLink RL 7 yX3_change, Cond.instanceMethod yX3_change, Cond.selects RX3 yX3_change yX3_change, Cond.code yX3_change cX3_change 3 none, Cond.classLink RX3 48 "java/lang/IndexOutOfBoundsException", Cond.initialized "java/lang/IndexOutOfBoundsException", Cond.classLink RX3 54 "java/lang/IllegalArgumentException", Cond.initialized "java/lang/IllegalArgumentException", Cond.methodLink RX3 51 yX3_isByte, Cond.static yX3_isByte, Cond.code yX3_isByte cX3_isByte 1 (some .boolean), Cond.methodLink RX3 57 yX2_set, Cond.instanceMethod yX2_set]
def wsL_law0_r6 : List Cond := [Cond.selects RX2 yX2_set yX2_set, Cond.code yX2_set cX2_set 3 none, Cond.methodLink RL 81 yX4_change, Cond.instanceMethod yX4_change, Cond.selects RX4 yX4_change yX4_change, Cond.code yX4_change cX4_change 3 none, Cond.methodLink RX4 56 yX4_isByte, Cond.static yX4_isByte, Cond.code yX4_isByte cX4_isByte 1 (some .boolean), Cond.methodLink RL 82 yX4_thrown, Cond.instanceMethod yX4_thrown, Cond.selects RX4 yX4_thrown yX4_thrown, Cond.code yX4_thrown cX4_thrown 1 (some .int), Cond.methodLink RL 85 yL_cut, Cond.static yL_cut, Cond.codeWith yL_cut cL_cut 3 (some .int) [(0, 5, 8, 15)], Cond.methodLink RL 17 yX3_cut, Cond.instanceMethod yX3_cut, Cond.selects RX3 yX3_cut yX3_cut, Cond.code yX3_cut cX3_cut 2 none, Cond.methodLink RX3 61 yX2_shorten, Cond.instanceMethod yX2_shorten, Cond.selects RX2 yX2_shorten yX2_shorten, Cond.code yX2_shorten cX2_shorten 2 none]
def wsL_law0_r7 : List Cond := [Cond.methodLink RL 88 yX4_cut, Cond.instanceMethod yX4_cut, Cond.selects RX4 yX4_cut yX4_cut, Cond.code yX4_cut cX4_cut 2 none, Cond.methodLink RL 89 yL_place, Cond.static yL_place, Cond.codeWith yL_place cL_place 4 (some .int) [(0, 6, 9, 15)], Cond.methodLink RL 21 yX3_place, Cond.instanceMethod yX3_place, Cond.selects RX3 yX3_place yX3_place, Cond.code yX3_place cX3_place 3 none, Cond.fieldLink RX3 64 "SelfOpener$Program" "origin" "I", Cond.fieldLink RX3 67 "SelfOpener$Program" "entry" "I", Cond.methodLink RL 91 yX4_place, Cond.instanceMethod yX4_place, Cond.selects RX4 yX4_place yX4_place, Cond.code yX4_place cX4_place 3 none, Cond.fieldLink RX4 60 "SelfOpenerModel" "origin" "I", Cond.fieldLink RX4 63 "SelfOpenerModel" "entry" "I", Cond.methodLink RL 92 yX3_size, Cond.instanceMethod yX3_size, Cond.selects RX3 yX3_size yX3_size, Cond.code yX3_size cX3_size 1 (some .int), Cond.methodLink RL 95 yX4_size]
def wsL_law0_r8 : List Cond := [Cond.instanceMethod yX4_size, Cond.selects RX4 yX4_size yX4_size, Cond.code yX4_size cX4_size 1 (some .int), Cond.methodLink RL 96 yX3_packed, Cond.instanceMethod yX3_packed, Cond.selects RX3 yX3_packed yX3_packed, Cond.code yX3_packed cX3_packed 1 (some .int), Cond.fieldLink RX3 73 "SelfOpener$Packing" "length" "I", Cond.methodLink RX3 70 yX1_refresh, Cond.instanceMethod yX1_refresh, Cond.selects RX1 yX1_refresh yX1_refresh, Cond.code yX1_refresh cX1_refresh 3 none, Cond.fieldLink RX1 56 "SelfOpener$Program" "edition" "I", Cond.fieldLink RX1 41 "SelfOpener$Program" "size" "I", Cond.fieldLink RX1 64 "SelfOpener$Packing" "length" "I", Cond.methodLink RX1 57 yX1_findCopy, Cond.instanceMethod yX1_findCopy, Cond.selects RX1 yX1_findCopy yX1_findCopy, Cond.code yX1_findCopy cX1_findCopy 5 none, Cond.fieldLink RX1 70 "SelfOpener$Program" "bytes" "[I", Cond.methodLink RX1 73 Lib.Math.min.name, Cond.static Lib.Math.min.name, Cond.initialized "java/lang/Math", Cond.code Lib.Math.min.name Lib.Math.min.code 2 (some .int)]
def wsL_law0_r9 : List Cond := [Cond.methodLink RX1 61 yX1_chooseToken, Cond.instanceMethod yX1_chooseToken, Cond.selects RX1 yX1_chooseToken yX1_chooseToken, Cond.code yX1_chooseToken cX1_chooseToken 6 none, Cond.methodLink RX1 67 yX1_writeStream, Cond.instanceMethod yX1_writeStream, Cond.selects RX1 yX1_writeStream yX1_writeStream, Cond.code yX1_writeStream cX1_writeStream 6 none, Cond.methodLink RX1 79 Lib.Math.max.name, Cond.static Lib.Math.max.name, Cond.code Lib.Math.max.name Lib.Math.max.code 2 (some .int), Cond.fieldLink RX1 44 "SelfOpener$Packing" "gap" "I", Cond.methodLink RX1 82 arraycopyName, Cond.native arraycopyName, Cond.static arraycopyName, Cond.initialized "java/lang/System", Cond.methodLink RL 99 yX4_packed, Cond.instanceMethod yX4_packed, Cond.selects RX4 yX4_packed yX4_packed, Cond.code yX4_packed cX4_packed 1 (some .int), Cond.fieldLink RX4 74 "SelfOpenerModel" "length" "I", Cond.methodLink RX4 77 yX4_pack, Cond.instanceMethod yX4_pack, Cond.selects RX4 yX4_pack yX4_pack]
def wsL_law0_r10 : List Cond := [Cond.code yX4_pack cX4_pack 5 none, Cond.fieldLink RX4 71 "SelfOpenerModel" "gap" "I", Cond.methodLink RX4 67 yX4_choose, Cond.instanceMethod yX4_choose, Cond.selects RX4 yX4_choose yX4_choose, Cond.code yX4_choose cX4_choose 6 none, Cond.constant RX4 66 (100000), Cond.methodLink RL 100 yL_stream, Cond.static yL_stream, Cond.codeWith yL_stream cL_stream 4 (some .int) [(0, 9, 12, 13)], Cond.methodLink RL 24 yX3_stream, Cond.instanceMethod yX3_stream, Cond.selects RX3 yX3_stream yX3_stream, Cond.code yX3_stream cX3_stream 2 (some .int), Cond.fieldLink RX3 76 "SelfOpener$Packing" "stream" "[I", Cond.methodLink RL 103 yX4_stream, Cond.instanceMethod yX4_stream, Cond.selects RX4 yX4_stream yX4_stream, Cond.code yX4_stream cX4_stream 2 (some .int), Cond.methodLink RL 104 yX3_gap, Cond.instanceMethod yX3_gap, Cond.selects RX3 yX3_gap yX3_gap, Cond.code yX3_gap cX3_gap 1 (some .int), Cond.fieldLink RX3 79 "SelfOpener$Packing" "gap" "I"]
def wsL_law0_r11 : List Cond := [Cond.methodLink RL 107 yX4_gap, Cond.instanceMethod yX4_gap, Cond.selects RX4 yX4_gap yX4_gap, Cond.code yX4_gap cX4_gap 1 (some .int), Cond.methodLink RL 108 yL_unpack, Cond.static yL_unpack, Cond.codeWith yL_unpack cL_unpack 3 (some .int) [(0, 8, 11, 32), (0, 8, 14, 34), (0, 8, 17, 15), (0, 8, 20, 36)], Cond.classLink RL 32 "java/util/NoSuchElementException", Cond.classLink RL 34 "java/lang/IllegalStateException", Cond.classLink RL 36 "java/lang/UnsupportedOperationException", Cond.methodLink RL 28 yX3_unpack, Cond.instanceMethod yX3_unpack, Cond.selects RX3 yX3_unpack yX3_unpack, Cond.code yX3_unpack cX3_unpack 1 (some .int), Cond.methodLink RX3 82 yX2_openAsStream, Cond.instanceMethod yX2_openAsStream, Cond.selects RX2 yX2_openAsStream yX2_openAsStream, Cond.code yX2_openAsStream cX2_openAsStream 4 none, Cond.classLink RX2 37 "java/util/NoSuchElementException", Cond.initialized "java/util/NoSuchElementException", Cond.classLink RX2 40 "java/lang/IllegalStateException", Cond.initialized "java/lang/IllegalStateException", Cond.methodLink RX2 43 arraycopyName, Cond.methodLink RX2 30 yX2_openRun]
def wsL_law0_r12 : List Cond := [Cond.instanceMethod yX2_openRun, Cond.selects RX2 yX2_openRun yX2_openRun, Cond.code yX2_openRun cX2_openRun 4 (some .int), Cond.classLink RX2 53 "java/lang/UnsupportedOperationException", Cond.initialized "java/lang/UnsupportedOperationException", Cond.methodLink RX2 34 yX2_openCopy, Cond.instanceMethod yX2_openCopy, Cond.selects RX2 yX2_openCopy yX2_openCopy, Cond.code yX2_openCopy cX2_openCopy 6 (some .int), Cond.classLink RX2 56 "java/lang/IllegalArgumentException", Cond.methodLink RX2 49 yX2_shorten, Cond.methodLink RL 111 yX4_unpack, Cond.instanceMethod yX4_unpack, Cond.selects RX4 yX4_unpack yX4_unpack, Cond.code yX4_unpack cX4_unpack 7 (some .int), Cond.methodLink RX4 80 yX4_wrong, Cond.instanceMethod yX4_wrong, Cond.selects RX4 yX4_wrong yX4_wrong, Cond.code yX4_wrong cX4_wrong 5 (some .int), Cond.methodLink RX4 84 yX4_fail, Cond.instanceMethod yX4_fail, Cond.selects RX4 yX4_fail yX4_fail, Cond.code yX4_fail cX4_fail 2 (some .int), Cond.methodLink RL 112 yL_load]
def wsL_law0_r13 : List Cond := [Cond.static yL_load, Cond.codeWith yL_load cL_load 2 (some .int) [(0, 4, 7, 34)], Cond.methodLink RL 38 yX3_load, Cond.instanceMethod yX3_load, Cond.selects RX3 yX3_load yX3_load, Cond.code yX3_load cX3_load 1 none, Cond.classLink RX3 89 "java/lang/IllegalStateException", Cond.methodLink RX3 85 yX2_fits, Cond.instanceMethod yX2_fits, Cond.selects RX2 yX2_fits yX2_fits, Cond.code yX2_fits cX2_fits 1 (some .boolean), Cond.fieldLink RX2 22 "SelfOpener$Program" "origin" "I", Cond.methodLink RX3 92 yX0_clear, Cond.instanceMethod yX0_clear, Cond.selects RX0 yX0_clear yX0_clear, Cond.code yX0_clear cX0_clear 3 none, Cond.fieldLink RX0 28 "SelfOpener$Machine" "place" "I", Cond.fieldLink RX0 31 "SelfOpener$Machine" "steps" "I", Cond.fieldLink RX0 25 "SelfOpener$Machine" "putOut" "I", Cond.methodLink RX3 95 yX0_write, Cond.instanceMethod yX0_write, Cond.selects RX0 yX0_write yX0_write, Cond.code yX0_write cX0_write 4 none, Cond.methodLink RX0 34 arraycopyName]
def wsL_law0_r14 : List Cond := [Cond.methodLink RL 115 yX4_load, Cond.instanceMethod yX4_load, Cond.selects RX4 yX4_load yX4_load, Cond.code yX4_load cX4_load 2 none, Cond.methodLink RX4 97 yX4_clear, Cond.instanceMethod yX4_clear, Cond.selects RX4 yX4_clear yX4_clear, Cond.code yX4_clear cX4_clear 3 none, Cond.fieldLink RX4 88 "SelfOpenerModel" "place" "I", Cond.fieldLink RX4 91 "SelfOpenerModel" "steps" "I", Cond.fieldLink RX4 94 "SelfOpenerModel" "outs" "I", Cond.methodLink RL 116 yL_loadPacked, Cond.static yL_loadPacked, Cond.codeWith yL_loadPacked cL_loadPacked 3 (some .int) [(0, 8, 11, 36)], Cond.methodLink RL 41 yX3_loadPacked, Cond.instanceMethod yX3_loadPacked, Cond.selects RX3 yX3_loadPacked yX3_loadPacked, Cond.code yX3_loadPacked cX3_loadPacked 3 (some .int), Cond.classLink RX3 100 "java/lang/UnsupportedOperationException", Cond.methodLink RX3 99 yX1_fits, Cond.instanceMethod yX1_fits, Cond.selects RX1 yX1_fits yX1_fits, Cond.code yX1_fits cX1_fits 1 (some .boolean), Cond.methodLink RX1 53 yX1_layoutEnd]
def wsL_law0_r15 : List Cond := [Cond.instanceMethod yX1_layoutEnd, Cond.selects RX1 yX1_layoutEnd yX1_layoutEnd, Cond.code yX1_layoutEnd cX1_layoutEnd 1 (some .int), Cond.methodLink RX1 47 yX1_stubAddress, Cond.instanceMethod yX1_stubAddress, Cond.selects RX1 yX1_stubAddress yX1_stubAddress, Cond.code yX1_stubAddress cX1_stubAddress 1 (some .int), Cond.fieldLink RX1 38 "SelfOpener$Program" "origin" "I", Cond.methodLink RX3 103 yX1_stubAddress, Cond.methodLink RX3 107 yX0_writeStub, Cond.instanceMethod yX0_writeStub, Cond.selects RX0 yX0_writeStub yX0_writeStub, Cond.code yX0_writeStub cX0_writeStub 7 none, Cond.fieldLink RX0 40 "SelfOpener$Machine" "STUB" "[I", Cond.methodLink RX3 111 yX1_layoutEnd, Cond.methodLink RL 118 yX4_loadPacked, Cond.instanceMethod yX4_loadPacked, Cond.selects RX4 yX4_loadPacked yX4_loadPacked, Cond.code yX4_loadPacked cX4_loadPacked 3 (some .int), Cond.methodLink RX4 121 yX4_isPackable, Cond.instanceMethod yX4_isPackable, Cond.selects RX4 yX4_isPackable yX4_isPackable, Cond.code yX4_isPackable cX4_isPackable 1 (some .boolean), Cond.methodLink RX4 125 yX4_first]
def wsL_law0_r16 : List Cond := [Cond.static yX4_first, Cond.code yX4_first cX4_first 3 (some .int), Cond.constantLong RX4 100 (7229583154687971857), Cond.constantLong RX4 102 (4707461730014544449), Cond.constantLong RX4 104 (-7835346056596130266), Cond.constantLong RX4 106 (140832314364288), Cond.methodLink RX4 108 yX4_eighth, Cond.static yX4_eighth, Cond.code yX4_eighth cX4_eighth 3 (some .int), Cond.methodLink RX4 128 yX4_second, Cond.instanceMethod yX4_second, Cond.selects RX4 yX4_second yX4_second, Cond.code yX4_second cX4_second 7 (some .int), Cond.constantLong RX4 112 (144425465120096256), Cond.constantLong RX4 114 (72482057149677825), Cond.constantLong RX4 116 (360007599053472770), Cond.constantLong RX4 118 (36), Cond.constant RX4 120 (25172016), Cond.methodLink RL 119 yL_run, Cond.static yL_run, Cond.codeWith yL_run cL_run 5 (some .int) [(0, 10, 13, 15)], Cond.methodLink RL 44 yX3_run, Cond.instanceMethod yX3_run, Cond.selects RX3 yX3_run yX3_run]
def wsL_law0_r17 : List Cond := [Cond.code yX3_run cX3_run 4 (some .int), Cond.fieldLink RX3 117 "SelfOpener$Machine" "place" "I", Cond.methodLink RX3 114 yX0_runs, Cond.instanceMethod yX0_runs, Cond.selects RX0 yX0_runs yX0_runs, Cond.code yX0_runs cX0_runs 1 (some .boolean), Cond.methodLink RX3 120 yX0_step, Cond.instanceMethod yX0_step, Cond.selects RX0 yX0_step yX0_step, Cond.code yX0_step cX0_step 3 none, Cond.methodLink RX0 43 yX0_act, Cond.instanceMethod yX0_act, Cond.selects RX0 yX0_act yX0_act, Cond.code yX0_act cX0_act 5 none, Cond.methodLink RX0 47 yX0_jump, Cond.instanceMethod yX0_jump, Cond.selects RX0 yX0_jump yX0_jump, Cond.code yX0_jump cX0_jump 4 none, Cond.methodLink RX0 50 yX0_reckon, Cond.instanceMethod yX0_reckon, Cond.selects RX0 yX0_reckon yX0_reckon, Cond.code yX0_reckon cX0_reckon 5 (some .int), Cond.methodLink RL 122 yX4_run, Cond.instanceMethod yX4_run]
def wsL_law0_r18 : List Cond := [Cond.selects RX4 yX4_run yX4_run, Cond.code yX4_run cX4_run 4 (some .int), Cond.methodLink RX4 134 yX4_step, Cond.instanceMethod yX4_step, Cond.selects RX4 yX4_step yX4_step, Cond.code yX4_step cX4_step 6 none, Cond.methodLink RX4 131 yX4_putOut, Cond.instanceMethod yX4_putOut, Cond.selects RX4 yX4_putOut yX4_putOut, Cond.code yX4_putOut cX4_putOut 2 none, Cond.methodLink RL 123 yL_look, Cond.static yL_look, Cond.codeWith yL_look cL_look 4 (some .int) [(0, 9, 12, 13)], Cond.methodLink RL 48 yX3_look, Cond.instanceMethod yX3_look, Cond.selects RX3 yX3_look yX3_look, Cond.code yX3_look cX3_look 2 (some .int), Cond.fieldLink RX3 123 "SelfOpener$Machine" "registers" "[I", Cond.fieldLink RX3 126 "SelfOpener$Machine" "state" "I", Cond.fieldLink RX3 129 "SelfOpener$Machine" "steps" "I", Cond.fieldLink RX3 132 "SelfOpener$Machine" "putOut" "I", Cond.methodLink RL 125 yX4_look, Cond.instanceMethod yX4_look, Cond.selects RX4 yX4_look yX4_look]
def wsL_law0_r19 : List Cond := [Cond.code yX4_look cX4_look 2 (some .int), Cond.methodLink RL 126 yL_memory, Cond.static yL_memory, Cond.codeWith yL_memory cL_memory 4 (some .int) [(0, 9, 12, 13)], Cond.methodLink RL 51 yX3_memory, Cond.instanceMethod yX3_memory, Cond.selects RX3 yX3_memory yX3_memory, Cond.code yX3_memory cX3_memory 2 (some .int), Cond.fieldLink RX3 135 "SelfOpener$Machine" "memory" "[I", Cond.methodLink RL 128 yX4_memory, Cond.instanceMethod yX4_memory, Cond.selects RX4 yX4_memory yX4_memory, Cond.code yX4_memory cX4_memory 2 (some .int), Cond.methodLink RL 129 yL_out, Cond.static yL_out, Cond.codeWith yL_out cL_out 4 (some .int) [(0, 9, 12, 13)], Cond.methodLink RL 54 yX3_out, Cond.instanceMethod yX3_out, Cond.selects RX3 yX3_out yX3_out, Cond.code yX3_out cX3_out 2 (some .int), Cond.fieldLink RX3 141 "SelfOpener$Machine" "kept" "[I", Cond.methodLink RX3 138 yX0_keeps, Cond.instanceMethod yX0_keeps, Cond.selects RX0 yX0_keeps yX0_keeps]
def wsL_law0_r20 : List Cond := [Cond.code yX0_keeps cX0_keeps 2 (some .boolean), Cond.methodLink RL 131 yX4_out, Cond.instanceMethod yX4_out, Cond.selects RX4 yX4_out yX4_out, Cond.code yX4_out cX4_out 2 (some .int), Cond.methodLink RL 132 yL_apart, Cond.static yL_apart, Cond.codeWith yL_apart cL_apart 3 (some .int) [(0, 8, 11, 34), (0, 8, 14, 36)], Cond.methodLink RL 57 yX3_apart, Cond.instanceMethod yX3_apart, Cond.selects RX3 yX3_apart yX3_apart, Cond.code yX3_apart cX3_apart 6 (some .int), Cond.methodLink RX3 144 yX2_loadedAt, Cond.instanceMethod yX2_loadedAt, Cond.selects RX2 yX2_loadedAt yX2_loadedAt, Cond.code yX2_loadedAt cX2_loadedAt 3 (some .int), Cond.methodLink RL 134 yX4_apart, Cond.instanceMethod yX4_apart, Cond.selects RX4 yX4_apart yX4_apart, Cond.code yX4_apart cX4_apart 6 (some .int)]
def wsL_law0 : List Cond := (wsL_law0_r1 ++ (wsL_law0_r2 ++ (wsL_law0_r3 ++ (wsL_law0_r4 ++ (wsL_law0_r5 ++ (wsL_law0_r6 ++ (wsL_law0_r7 ++ (wsL_law0_r8 ++ (wsL_law0_r9 ++ (wsL_law0_r10 ++ (wsL_law0_r11 ++ (wsL_law0_r12 ++ (wsL_law0_r13 ++ (wsL_law0_r14 ++ (wsL_law0_r15 ++ (wsL_law0_r16 ++ (wsL_law0_r17 ++ (wsL_law0_r18 ++ (wsL_law0_r19 ++ wsL_law0_r20))))))))))))))))))) ++ wsX30 ++ wsX40 ++ wsX10 ++ wsX00 ++ wsX20 ++ ([] : List Cond)
def wsL_law : List Cond := wsL_law0 ++ (vx_at0 RX3 50 "java/lang/IndexOutOfBoundsException" ["java/lang/RuntimeException", "java/lang/Exception"]).filter goodWord ++ (vx_at0 RX3 56 "java/lang/IllegalArgumentException" ["java/lang/RuntimeException", "java/lang/Exception"]).filter goodWord ++ (vx_at0 RX2 39 "java/util/NoSuchElementException" ["java/lang/RuntimeException", "java/lang/Exception"]).filter goodWord ++ (vx_at0 RX2 42 "java/lang/IllegalStateException" ["java/lang/RuntimeException", "java/lang/Exception"]).filter goodWord ++ (vx_at0 RX2 55 "java/lang/UnsupportedOperationException" ["java/lang/RuntimeException", "java/lang/Exception"]).filter goodWord ++ (vx_at0 RX2 58 "java/lang/IllegalArgumentException" ["java/lang/RuntimeException", "java/lang/Exception"]).filter goodWord ++ (vx_at0 RX3 91 "java/lang/IllegalStateException" ["java/lang/RuntimeException", "java/lang/Exception"]).filter goodWord ++ (vx_at0 RX3 102 "java/lang/UnsupportedOperationException" ["java/lang/RuntimeException", "java/lang/Exception"]).filter goodWord
set_option maxRecDepth 20000 in
set_option maxRecDepth 100000 in
theorem wsL_law0_r1_tb : ∀ w ∈ wsL_law0_r1, w ∈ lw_tbl := fun w h => (goodIn_r wsL_law0_r1 [34, 35, 19, 518, 519, 23, 717, 716, 36, 37, 38, 39, 40, 41, 42, 43, 20, 148, 82, 149, 113, 114, 22, 150] (by rfl) (by decide +kernel) w h).1
set_option maxRecDepth 100000 in
theorem wsL_law0_r2_tb : ∀ w ∈ wsL_law0_r2, w ∈ lw_tbl := fun w h => (goodIn_r wsL_law0_r2 [44, 45, 46, 47, 48, 49, 21, 81, 80, 83, 90, 91, 92, 93, 89, 50, 51, 52, 53, 54, 57, 115, 116, 117] (by rfl) (by decide +kernel) w h).1
set_option maxRecDepth 100000 in
theorem wsL_law0_r3_tb : ∀ w ∈ wsL_law0_r3, w ∈ lw_tbl := fun w h => (goodIn_r wsL_law0_r3 [118, 119, 121, 123, 127, 520, 521, 522, 523, 526, 532, 533, 534, 535, 536, 537, 538, 539, 541, 544, 158, 159, 160, 161] (by rfl) (by decide +kernel) w h).1
set_option maxRecDepth 100000 in
theorem wsL_law0_r4_tb : ∀ w ∈ wsL_law0_r4, w ∈ lw_tbl := fun w h => (goodIn_r wsL_law0_r4 [166, 162, 163, 164, 165, 58, 167, 168, 169, 170, 65, 592, 593, 594, 595, 524, 525, 596, 529, 171, 172, 173, 174, 60] (by rfl) (by decide +kernel) w h).1
set_option maxRecDepth 100000 in
theorem wsL_law0_r5_tb : ∀ w ∈ wsL_law0_r5, w ∈ lw_tbl := fun w h => (goodIn_r wsL_law0_r5 [55, 597, 598, 599, 600, 212, 213, 18, 214, 215, 216, 217, 218, 219, 220, 221, 27, 289, 28, 286, 287, 288, 304, 305] (by rfl) (by decide +kernel) w h).1
set_option maxRecDepth 100000 in
theorem wsL_law0_r6_tb : ∀ w ∈ wsL_law0_r6, w ∈ lw_tbl := fun w h => (goodIn_r wsL_law0_r6 [306, 307, 601, 602, 603, 604, 605, 606, 607, 588, 589, 590, 591, 308, 309, 310, 311, 312, 313, 314, 315, 316, 317, 318] (by rfl) (by decide +kernel) w h).1
set_option maxRecDepth 100000 in
theorem wsL_law0_r7_tb : ∀ w ∈ wsL_law0_r7, w ∈ lw_tbl := fun w h => (goodIn_r wsL_law0_r7 [608, 609, 610, 611, 319, 320, 321, 322, 323, 324, 325, 63, 64, 612, 613, 614, 615, 527, 528, 175, 176, 177, 178, 616] (by rfl) (by decide +kernel) w h).1
set_option maxRecDepth 100000 in
theorem wsL_law0_r8_tb : ∀ w ∈ wsL_law0_r8, w ∈ lw_tbl := fun w h => (goodIn_r wsL_law0_r8 [617, 618, 619, 179, 180, 181, 182, 86, 183, 184, 185, 186, 66, 59, 85, 187, 189, 0, 190, 56, 191, 192, 29, 193] (by rfl) (by decide +kernel) w h).1
set_option maxRecDepth 100000 in
theorem wsL_law0_r9_tb : ∀ w ∈ wsL_law0_r9, w ∈ lw_tbl := fun w h => (goodIn_r wsL_law0_r9 [194, 196, 1, 197, 198, 200, 2, 201, 202, 203, 204, 87, 205, 207, 206, 30, 620, 621, 622, 623, 531, 624, 626, 9] (by rfl) (by decide +kernel) w h).1
set_option maxRecDepth 100000 in
theorem wsL_law0_r10_tb : ∀ w ∈ wsL_law0_r10, w ∈ lw_tbl := fun w h => (goodIn_r wsL_law0_r10 [627, 530, 628, 630, 10, 631, 632, 326, 327, 328, 329, 330, 331, 332, 84, 633, 634, 635, 636, 208, 209, 210, 211, 88] (by rfl) (by decide +kernel) w h).1
set_option maxRecDepth 100000 in
theorem wsL_law0_r11_tb : ∀ w ∈ wsL_law0_r11, w ∈ lw_tbl := fun w h => (goodIn_r wsL_law0_r11 [637, 638, 639, 640, 333, 334, 335, 336, 337, 338, 339, 340, 341, 342, 343, 344, 345, 346, 351, 31, 388, 33, 381, 347] (by rfl) (by decide +kernel) w h).1
set_option maxRecDepth 100000 in
theorem wsL_law0_r12_tb : ∀ w ∈ wsL_law0_r12, w ∈ lw_tbl := fun w h => (goodIn_r wsL_law0_r12 [349, 4, 350, 366, 32, 382, 384, 5, 385, 386, 403, 641, 642, 643, 644, 645, 647, 11, 648, 649, 651, 12, 652, 404] (by rfl) (by decide +kernel) w h).1
set_option maxRecDepth 100000 in
theorem wsL_law0_r13_tb : ∀ w ∈ wsL_law0_r13, w ∈ lw_tbl := fun w h => (goodIn_r wsL_law0_r13 [405, 406, 407, 408, 409, 410, 415, 411, 412, 413, 414, 62, 417, 418, 419, 420, 125, 129, 131, 421, 422, 423, 424, 425] (by rfl) (by decide +kernel) w h).1
set_option maxRecDepth 100000 in
theorem wsL_law0_r14_tb : ∀ w ∈ wsL_law0_r14, w ∈ lw_tbl := fun w h => (goodIn_r wsL_law0_r14 [653, 654, 655, 656, 657, 659, 13, 660, 540, 542, 543, 426, 427, 428, 429, 430, 431, 432, 445, 433, 434, 435, 436, 437] (by rfl) (by decide +kernel) w h).1
set_option maxRecDepth 100000 in
theorem wsL_law0_r15_tb : ∀ w ∈ wsL_law0_r15, w ∈ lw_tbl := fun w h => (goodIn_r wsL_law0_r15 [438, 439, 440, 441, 442, 443, 444, 61, 447, 448, 449, 450, 451, 452, 454, 661, 662, 663, 664, 665, 667, 14, 668, 669] (by rfl) (by decide +kernel) w h).1
set_option maxRecDepth 100000 in
theorem wsL_law0_r16_tb : ∀ w ∈ wsL_law0_r16, w ∈ lw_tbl := fun w h => (goodIn_r wsL_law0_r16 [670, 671, 672, 673, 674, 675, 676, 677, 678, 679, 681, 15, 682, 683, 684, 685, 686, 687, 455, 456, 457, 458, 459, 460] (by rfl) (by decide +kernel) w h).1
set_option maxRecDepth 100000 in
theorem wsL_law0_r17_tb : ∀ w ∈ wsL_law0_r17, w ∈ lw_tbl := fun w h => (goodIn_r wsL_law0_r17 [461, 126, 462, 463, 464, 465, 466, 467, 468, 469, 470, 472, 6, 473, 474, 476, 7, 477, 478, 480, 8, 481, 688, 689] (by rfl) (by decide +kernel) w h).1
set_option maxRecDepth 100000 in
theorem wsL_law0_r18_tb : ∀ w ∈ wsL_law0_r18, w ∈ lw_tbl := fun w h => (goodIn_r wsL_law0_r18 [690, 691, 692, 694, 16, 695, 696, 698, 17, 699, 482, 483, 484, 485, 486, 487, 488, 122, 128, 130, 132, 700, 701, 702] (by rfl) (by decide +kernel) w h).1
set_option maxRecDepth 100000 in
theorem wsL_law0_r19_tb : ∀ w ∈ wsL_law0_r19, w ∈ lw_tbl := fun w h => (goodIn_r wsL_law0_r19 [703, 489, 490, 491, 492, 493, 494, 495, 120, 704, 705, 706, 707, 496, 497, 498, 499, 500, 501, 502, 124, 503, 504, 505] (by rfl) (by decide +kernel) w h).1
set_option maxRecDepth 100000 in
theorem wsL_law0_r20_tb : ∀ w ∈ wsL_law0_r20, w ∈ lw_tbl := fun w h => (goodIn_r wsL_law0_r20 [506, 708, 709, 710, 711, 507, 508, 509, 510, 511, 512, 513, 514, 515, 516, 517, 712, 713, 714, 715] (by rfl) (by decide +kernel) w h).1
set_option maxRecDepth 100000 in
theorem wsX30_tb : ∀ w ∈ wsX30, w ∈ lw_tbl := fun w h => (goodIn_r wsX30 [151, 153, 155] (by rfl) (by decide +kernel) w h).1
set_option maxRecDepth 100000 in
theorem wsX40_tb : ∀ w ∈ wsX40, w ∈ lw_tbl := fun w h => (goodIn_r wsX40 [545, 547, 549, 551, 553, 555, 557, 559, 561, 563, 565, 567, 569, 571, 573, 575, 577, 579, 581, 583, 585] (by rfl) (by decide +kernel) w h).1
set_option maxRecDepth 100000 in
theorem wsX10_tb : ∀ w ∈ wsX10, w ∈ lw_tbl := fun w h => (goodIn_r wsX10 [94, 96, 98, 100, 102, 104, 106, 108, 110] (by rfl) (by decide +kernel) w h).1
set_option maxRecDepth 100000 in
theorem wsX00_tb : ∀ w ∈ wsX00, w ∈ lw_tbl := fun w h => (goodIn_r wsX00 [133, 135, 137, 139, 141, 143, 145] (by rfl) (by decide +kernel) w h).1
set_option maxRecDepth 100000 in
theorem wsX20_tb : ∀ w ∈ wsX20, w ∈ lw_tbl := fun w h => (goodIn_r wsX20 [67, 69, 71, 73, 75, 77] (by rfl) (by decide +kernel) w h).1
theorem wsL_law_in0 : ∀ w ∈ wsL_law0, w ∈ lw_tbl := fun w => fun h => (List.mem_append.mp h).elim (fun h => (List.mem_append.mp h).elim (fun h => (List.mem_append.mp h).elim (fun h => (List.mem_append.mp h).elim (fun h => (List.mem_append.mp h).elim (fun h => (List.mem_append.mp h).elim (fun h => ((List.mem_append.mp h).elim (fun h => wsL_law0_r1_tb w h) (fun h => (List.mem_append.mp h).elim (fun h => wsL_law0_r2_tb w h) (fun h => (List.mem_append.mp h).elim (fun h => wsL_law0_r3_tb w h) (fun h => (List.mem_append.mp h).elim (fun h => wsL_law0_r4_tb w h) (fun h => (List.mem_append.mp h).elim (fun h => wsL_law0_r5_tb w h) (fun h => (List.mem_append.mp h).elim (fun h => wsL_law0_r6_tb w h) (fun h => (List.mem_append.mp h).elim (fun h => wsL_law0_r7_tb w h) (fun h => (List.mem_append.mp h).elim (fun h => wsL_law0_r8_tb w h) (fun h => (List.mem_append.mp h).elim (fun h => wsL_law0_r9_tb w h) (fun h => (List.mem_append.mp h).elim (fun h => wsL_law0_r10_tb w h) (fun h => (List.mem_append.mp h).elim (fun h => wsL_law0_r11_tb w h) (fun h => (List.mem_append.mp h).elim (fun h => wsL_law0_r12_tb w h) (fun h => (List.mem_append.mp h).elim (fun h => wsL_law0_r13_tb w h) (fun h => (List.mem_append.mp h).elim (fun h => wsL_law0_r14_tb w h) (fun h => (List.mem_append.mp h).elim (fun h => wsL_law0_r15_tb w h) (fun h => (List.mem_append.mp h).elim (fun h => wsL_law0_r16_tb w h) (fun h => (List.mem_append.mp h).elim (fun h => wsL_law0_r17_tb w h) (fun h => (List.mem_append.mp h).elim (fun h => wsL_law0_r18_tb w h) (fun h => (List.mem_append.mp h).elim (fun h => wsL_law0_r19_tb w h) (fun h => wsL_law0_r20_tb w h))))))))))))))))))))) (fun h => wsX30_tb w h)) (fun h => wsX40_tb w h)) (fun h => wsX10_tb w h)) (fun h => wsX00_tb w h)) (fun h => wsX20_tb w h)) (fun h => nomatch h)
theorem wsL_law_x0 : ∀ w ∈ (vx_at0 RX3 50 "java/lang/IndexOutOfBoundsException" ["java/lang/RuntimeException", "java/lang/Exception"]).filter goodWord, w ∈ lw_tbl := by decide +kernel
theorem wsL_law_x1 : ∀ w ∈ (vx_at0 RX3 56 "java/lang/IllegalArgumentException" ["java/lang/RuntimeException", "java/lang/Exception"]).filter goodWord, w ∈ lw_tbl := by decide +kernel
theorem wsL_law_x2 : ∀ w ∈ (vx_at0 RX2 39 "java/util/NoSuchElementException" ["java/lang/RuntimeException", "java/lang/Exception"]).filter goodWord, w ∈ lw_tbl := by decide +kernel
theorem wsL_law_x3 : ∀ w ∈ (vx_at0 RX2 42 "java/lang/IllegalStateException" ["java/lang/RuntimeException", "java/lang/Exception"]).filter goodWord, w ∈ lw_tbl := by decide +kernel
theorem wsL_law_x4 : ∀ w ∈ (vx_at0 RX2 55 "java/lang/UnsupportedOperationException" ["java/lang/RuntimeException", "java/lang/Exception"]).filter goodWord, w ∈ lw_tbl := by decide +kernel
theorem wsL_law_x5 : ∀ w ∈ (vx_at0 RX2 58 "java/lang/IllegalArgumentException" ["java/lang/RuntimeException", "java/lang/Exception"]).filter goodWord, w ∈ lw_tbl := by decide +kernel
theorem wsL_law_x6 : ∀ w ∈ (vx_at0 RX3 91 "java/lang/IllegalStateException" ["java/lang/RuntimeException", "java/lang/Exception"]).filter goodWord, w ∈ lw_tbl := by decide +kernel
theorem wsL_law_x7 : ∀ w ∈ (vx_at0 RX3 102 "java/lang/UnsupportedOperationException" ["java/lang/RuntimeException", "java/lang/Exception"]).filter goodWord, w ∈ lw_tbl := by decide +kernel
theorem wsL_law_in : ∀ w ∈ wsL_law, w ∈ lw_tbl := fun w h => (List.mem_append.mp h).elim (fun h => (List.mem_append.mp h).elim (fun h => (List.mem_append.mp h).elim (fun h => (List.mem_append.mp h).elim (fun h => (List.mem_append.mp h).elim (fun h => (List.mem_append.mp h).elim (fun h => (List.mem_append.mp h).elim (fun h => (List.mem_append.mp h).elim (fun h => wsL_law_in0 w h) (fun h => wsL_law_x0 w h)) (fun h => wsL_law_x1 w h)) (fun h => wsL_law_x2 w h)) (fun h => wsL_law_x3 w h)) (fun h => wsL_law_x4 w h)) (fun h => wsL_law_x5 w h)) (fun h => wsL_law_x6 w h)) (fun h => wsL_law_x7 w h)
theorem inlX0 : ∀ w ∈ wsX00, w ∈ wsL_law := fun _ h => List.mem_append_left _ (List.mem_append_left _ (List.mem_append_left _ (List.mem_append_left _ (List.mem_append_left _ (List.mem_append_left _ (List.mem_append_left _ (List.mem_append_left _ (List.mem_append_left _ (List.mem_append_left _ (List.mem_append_right _ h))))))))))
theorem inX0 : ∀ w ∈ wsX00, w ∈ lw_tbl := fun w h => wsL_law_in w (inlX0 w h)
theorem inlX1 : ∀ w ∈ wsX10, w ∈ wsL_law := fun _ h => List.mem_append_left _ (List.mem_append_left _ (List.mem_append_left _ (List.mem_append_left _ (List.mem_append_left _ (List.mem_append_left _ (List.mem_append_left _ (List.mem_append_left _ (List.mem_append_left _ (List.mem_append_left _ (List.mem_append_left _ (List.mem_append_right _ h)))))))))))
theorem inX1 : ∀ w ∈ wsX10, w ∈ lw_tbl := fun w h => wsL_law_in w (inlX1 w h)
theorem inlX2 : ∀ w ∈ wsX20, w ∈ wsL_law := fun _ h => List.mem_append_left _ (List.mem_append_left _ (List.mem_append_left _ (List.mem_append_left _ (List.mem_append_left _ (List.mem_append_left _ (List.mem_append_left _ (List.mem_append_left _ (List.mem_append_left _ (List.mem_append_right _ h)))))))))
theorem inX2 : ∀ w ∈ wsX20, w ∈ lw_tbl := fun w h => wsL_law_in w (inlX2 w h)
theorem inlX3 : ∀ w ∈ wsX30, w ∈ wsL_law := fun _ h => List.mem_append_left _ (List.mem_append_left _ (List.mem_append_left _ (List.mem_append_left _ (List.mem_append_left _ (List.mem_append_left _ (List.mem_append_left _ (List.mem_append_left _ (List.mem_append_left _ (List.mem_append_left _ (List.mem_append_left _ (List.mem_append_left _ (List.mem_append_left _ (List.mem_append_right _ h)))))))))))))
theorem inX3 : ∀ w ∈ wsX30, w ∈ lw_tbl := fun w h => wsL_law_in w (inlX3 w h)
theorem inlX4 : ∀ w ∈ wsX40, w ∈ wsL_law := fun _ h => List.mem_append_left _ (List.mem_append_left _ (List.mem_append_left _ (List.mem_append_left _ (List.mem_append_left _ (List.mem_append_left _ (List.mem_append_left _ (List.mem_append_left _ (List.mem_append_left _ (List.mem_append_left _ (List.mem_append_left _ (List.mem_append_left _ (List.mem_append_right _ h))))))))))))
theorem inX4 : ∀ w ∈ wsX40, w ∈ lw_tbl := fun w h => wsL_law_in w (inlX4 w h)
theorem inJx145de : ∀ w ∈ wsJx145de0, w ∈ lw_tbl := by decide +kernel
theorem inJ9 : ∀ w ∈ wsJ90, w ∈ lw_tbl := by decide +kernel
theorem inJ10 : ∀ w ∈ wsJ100, w ∈ lw_tbl := by decide +kernel
abbrev vwCl : List vw_C := [(RX0, TX0, 7), (RX1, TX1, 9), (RX2, TX2, 6), (RX3, TX3, 3), (RX4, TX4, 21)]
end
section
theorem dX0_init_0 : decode cX0_init 0 = .ok (.aload_n 0, 1) := by decide +kernel
theorem dX0_init_1 : decode cX0_init 1 = .ok (.invokespecial 3, 3) := by decide +kernel
theorem dX0_init_4 : decode cX0_init 4 = .ok (.aload_n 0, 1) := by decide +kernel
theorem dX0_init_5 : decode cX0_init 5 = .ok (.sipush 256, 3) := by decide +kernel
theorem dX0_init_8 : decode cX0_init 8 = .ok (.newarray .int, 2) := by decide +kernel
theorem dX0_init_10 : decode cX0_init 10 = .ok (.putfield 9, 3) := by decide +kernel
theorem dX0_init_13 : decode cX0_init 13 = .ok (.aload_n 0, 1) := by decide +kernel
theorem dX0_init_14 : decode cX0_init 14 = .ok (.bipush 8, 2) := by decide +kernel
theorem dX0_init_16 : decode cX0_init 16 = .ok (.newarray .int, 2) := by decide +kernel
theorem dX0_init_18 : decode cX0_init 18 = .ok (.putfield 15, 3) := by decide +kernel
theorem dX0_init_21 : decode cX0_init 21 = .ok (.aload_n 0, 1) := by decide +kernel
theorem dX0_init_22 : decode cX0_init 22 = .ok (.bipush 32, 2) := by decide +kernel
theorem dX0_init_24 : decode cX0_init 24 = .ok (.newarray .int, 2) := by decide +kernel
theorem dX0_init_26 : decode cX0_init 26 = .ok (.putfield 18, 3) := by decide +kernel
theorem dX0_init_29 : decode cX0_init 29 = .ok (.aload_n 0, 1) := by decide +kernel
theorem dX0_init_30 : decode cX0_init 30 = .ok (.iconst 1, 1) := by decide +kernel
theorem dX0_init_31 : decode cX0_init 31 = .ok (.putfield 21, 3) := by decide +kernel
theorem dX0_init_34 : decode cX0_init 34 = .ok (.return_, 1) := by decide +kernel
theorem dX0_runs_0 : decode cX0_runs 0 = .ok (.aload_n 0, 1) := by decide +kernel
theorem dX0_runs_1 : decode cX0_runs 1 = .ok (.getfield 21, 3) := by decide +kernel
theorem dX0_runs_4 : decode cX0_runs 4 = .ok (.ifCond .ne 7, 3) := by decide +kernel
theorem dX0_runs_7 : decode cX0_runs 7 = .ok (.iconst 1, 1) := by decide +kernel
theorem dX0_runs_8 : decode cX0_runs 8 = .ok (.goto 4, 3) := by decide +kernel
theorem dX0_runs_11 : decode cX0_runs 11 = .ok (.iconst 0, 1) := by decide +kernel
theorem dX0_runs_12 : decode cX0_runs 12 = .ok (.ireturn, 1) := by decide +kernel
theorem dX0_keeps_0 : decode cX0_keeps 0 = .ok (.iload_n 1, 1) := by decide +kernel
theorem dX0_keeps_1 : decode cX0_keeps 1 = .ok (.ifCond .lt 26, 3) := by decide +kernel
theorem dX0_keeps_4 : decode cX0_keeps 4 = .ok (.iload_n 1, 1) := by decide +kernel
theorem dX0_keeps_5 : decode cX0_keeps 5 = .ok (.aload_n 0, 1) := by decide +kernel
theorem dX0_keeps_6 : decode cX0_keeps 6 = .ok (.getfield 25, 3) := by decide +kernel
theorem dX0_keeps_9 : decode cX0_keeps 9 = .ok (.if_icmp .ge 18, 3) := by decide +kernel
theorem dX0_keeps_12 : decode cX0_keeps 12 = .ok (.iload_n 1, 1) := by decide +kernel
theorem dX0_keeps_13 : decode cX0_keeps 13 = .ok (.aload_n 0, 1) := by decide +kernel
theorem dX0_keeps_14 : decode cX0_keeps 14 = .ok (.getfield 25, 3) := by decide +kernel
theorem dX0_keeps_17 : decode cX0_keeps 17 = .ok (.bipush 32, 2) := by decide +kernel
theorem dX0_keeps_19 : decode cX0_keeps 19 = .ok (.isub, 1) := by decide +kernel
theorem dX0_keeps_20 : decode cX0_keeps 20 = .ok (.if_icmp .lt 7, 3) := by decide +kernel
theorem dX0_keeps_23 : decode cX0_keeps 23 = .ok (.iconst 1, 1) := by decide +kernel
theorem dX0_keeps_24 : decode cX0_keeps 24 = .ok (.goto 4, 3) := by decide +kernel
theorem dX0_keeps_27 : decode cX0_keeps 27 = .ok (.iconst 0, 1) := by decide +kernel
theorem dX0_keeps_28 : decode cX0_keeps 28 = .ok (.ireturn, 1) := by decide +kernel
theorem dX0_clear_0 : decode cX0_clear 0 = .ok (.iconst 0, 1) := by decide +kernel
theorem dX0_clear_1 : decode cX0_clear 1 = .ok (.istore_n 2, 1) := by decide +kernel
theorem dX0_clear_2 : decode cX0_clear 2 = .ok (.iload_n 2, 1) := by decide +kernel
theorem dX0_clear_3 : decode cX0_clear 3 = .ok (.sipush 256, 3) := by decide +kernel
theorem dX0_clear_6 : decode cX0_clear 6 = .ok (.if_icmp .ge 16, 3) := by decide +kernel
theorem dX0_clear_9 : decode cX0_clear 9 = .ok (.aload_n 0, 1) := by decide +kernel
theorem dX0_clear_10 : decode cX0_clear 10 = .ok (.getfield 9, 3) := by decide +kernel
theorem dX0_clear_13 : decode cX0_clear 13 = .ok (.iload_n 2, 1) := by decide +kernel
theorem dX0_clear_14 : decode cX0_clear 14 = .ok (.iconst 0, 1) := by decide +kernel
theorem dX0_clear_15 : decode cX0_clear 15 = .ok (.iastore, 1) := by decide +kernel
theorem dX0_clear_16 : decode cX0_clear 16 = .ok (.iinc 2 1, 3) := by decide +kernel
theorem dX0_clear_19 : decode cX0_clear 19 = .ok (.goto (-17), 3) := by decide +kernel
theorem dX0_clear_22 : decode cX0_clear 22 = .ok (.iconst 0, 1) := by decide +kernel
theorem dX0_clear_23 : decode cX0_clear 23 = .ok (.istore_n 2, 1) := by decide +kernel
theorem dX0_clear_24 : decode cX0_clear 24 = .ok (.iload_n 2, 1) := by decide +kernel
theorem dX0_clear_25 : decode cX0_clear 25 = .ok (.bipush 8, 2) := by decide +kernel
theorem dX0_clear_27 : decode cX0_clear 27 = .ok (.if_icmp .ge 16, 3) := by decide +kernel
theorem dX0_clear_30 : decode cX0_clear 30 = .ok (.aload_n 0, 1) := by decide +kernel
theorem dX0_clear_31 : decode cX0_clear 31 = .ok (.getfield 15, 3) := by decide +kernel
theorem dX0_clear_34 : decode cX0_clear 34 = .ok (.iload_n 2, 1) := by decide +kernel
theorem dX0_clear_35 : decode cX0_clear 35 = .ok (.iconst 0, 1) := by decide +kernel
theorem dX0_clear_36 : decode cX0_clear 36 = .ok (.iastore, 1) := by decide +kernel
theorem dX0_clear_37 : decode cX0_clear 37 = .ok (.iinc 2 1, 3) := by decide +kernel
theorem dX0_clear_40 : decode cX0_clear 40 = .ok (.goto (-16), 3) := by decide +kernel
theorem dX0_clear_43 : decode cX0_clear 43 = .ok (.aload_n 0, 1) := by decide +kernel
theorem dX0_clear_44 : decode cX0_clear 44 = .ok (.iload_n 1, 1) := by decide +kernel
theorem dX0_clear_45 : decode cX0_clear 45 = .ok (.putfield 28, 3) := by decide +kernel
theorem dX0_clear_48 : decode cX0_clear 48 = .ok (.aload_n 0, 1) := by decide +kernel
theorem dX0_clear_49 : decode cX0_clear 49 = .ok (.iconst 0, 1) := by decide +kernel
theorem dX0_clear_50 : decode cX0_clear 50 = .ok (.putfield 21, 3) := by decide +kernel
theorem dX0_clear_53 : decode cX0_clear 53 = .ok (.aload_n 0, 1) := by decide +kernel
theorem dX0_clear_54 : decode cX0_clear 54 = .ok (.iconst 0, 1) := by decide +kernel
theorem dX0_clear_55 : decode cX0_clear 55 = .ok (.putfield 31, 3) := by decide +kernel
theorem dX0_clear_58 : decode cX0_clear 58 = .ok (.aload_n 0, 1) := by decide +kernel
theorem dX0_clear_59 : decode cX0_clear 59 = .ok (.iconst 0, 1) := by decide +kernel
theorem dX0_clear_60 : decode cX0_clear 60 = .ok (.putfield 25, 3) := by decide +kernel
theorem dX0_clear_63 : decode cX0_clear 63 = .ok (.return_, 1) := by decide +kernel
theorem dX0_write_0 : decode cX0_write 0 = .ok (.aload_n 2, 1) := by decide +kernel
theorem dX0_write_1 : decode cX0_write 1 = .ok (.iconst 0, 1) := by decide +kernel
theorem dX0_write_2 : decode cX0_write 2 = .ok (.aload_n 0, 1) := by decide +kernel
theorem dX0_write_3 : decode cX0_write 3 = .ok (.getfield 9, 3) := by decide +kernel
theorem dX0_write_6 : decode cX0_write 6 = .ok (.iload_n 1, 1) := by decide +kernel
theorem dX0_write_7 : decode cX0_write 7 = .ok (.iload_n 3, 1) := by decide +kernel
theorem dX0_write_8 : decode cX0_write 8 = .ok (.invokestatic 34, 3) := by decide +kernel
theorem dX0_write_11 : decode cX0_write 11 = .ok (.return_, 1) := by decide +kernel
theorem dX0_writeStub_0 : decode cX0_writeStub 0 = .ok (.iconst 0, 1) := by decide +kernel
theorem dX0_writeStub_1 : decode cX0_writeStub 1 = .ok (.istore 5, 2) := by decide +kernel
theorem dX0_writeStub_3 : decode cX0_writeStub 3 = .ok (.iload 5, 2) := by decide +kernel
theorem dX0_writeStub_5 : decode cX0_writeStub 5 = .ok (.bipush 60, 2) := by decide +kernel
theorem dX0_writeStub_7 : decode cX0_writeStub 7 = .ok (.if_icmp .ge 69, 3) := by decide +kernel
theorem dX0_writeStub_10 : decode cX0_writeStub 10 = .ok (.getstatic 40, 3) := by decide +kernel
theorem dX0_writeStub_13 : decode cX0_writeStub 13 = .ok (.iload 5, 2) := by decide +kernel
theorem dX0_writeStub_15 : decode cX0_writeStub 15 = .ok (.iaload, 1) := by decide +kernel
theorem dX0_writeStub_16 : decode cX0_writeStub 16 = .ok (.sipush 128, 3) := by decide +kernel
theorem dX0_writeStub_19 : decode cX0_writeStub 19 = .ok (.if_icmp .lt 7, 3) := by decide +kernel
theorem dX0_writeStub_22 : decode cX0_writeStub 22 = .ok (.iload_n 1, 1) := by decide +kernel
theorem dX0_writeStub_23 : decode cX0_writeStub 23 = .ok (.goto 4, 3) := by decide +kernel
theorem dX0_writeStub_26 : decode cX0_writeStub 26 = .ok (.iconst 0, 1) := by decide +kernel
theorem dX0_writeStub_27 : decode cX0_writeStub 27 = .ok (.istore 6, 2) := by decide +kernel
theorem dX0_writeStub_29 : decode cX0_writeStub 29 = .ok (.aload_n 0, 1) := by decide +kernel
theorem dX0_writeStub_30 : decode cX0_writeStub 30 = .ok (.getfield 9, 3) := by decide +kernel
theorem dX0_writeStub_33 : decode cX0_writeStub 33 = .ok (.iload_n 1, 1) := by decide +kernel
theorem dX0_writeStub_34 : decode cX0_writeStub 34 = .ok (.iload 5, 2) := by decide +kernel
theorem dX0_writeStub_36 : decode cX0_writeStub 36 = .ok (.iadd, 1) := by decide +kernel
theorem dX0_writeStub_37 : decode cX0_writeStub 37 = .ok (.getstatic 40, 3) := by decide +kernel
theorem dX0_writeStub_40 : decode cX0_writeStub 40 = .ok (.iload 5, 2) := by decide +kernel
theorem dX0_writeStub_42 : decode cX0_writeStub 42 = .ok (.iaload, 1) := by decide +kernel
theorem dX0_writeStub_43 : decode cX0_writeStub 43 = .ok (.iastore, 1) := by decide +kernel
theorem dX0_writeStub_44 : decode cX0_writeStub 44 = .ok (.aload_n 0, 1) := by decide +kernel
theorem dX0_writeStub_45 : decode cX0_writeStub 45 = .ok (.getfield 9, 3) := by decide +kernel
theorem dX0_writeStub_48 : decode cX0_writeStub 48 = .ok (.iload_n 1, 1) := by decide +kernel
theorem dX0_writeStub_49 : decode cX0_writeStub 49 = .ok (.iload 5, 2) := by decide +kernel
theorem dX0_writeStub_51 : decode cX0_writeStub 51 = .ok (.iadd, 1) := by decide +kernel
theorem dX0_writeStub_52 : decode cX0_writeStub 52 = .ok (.iconst 1, 1) := by decide +kernel
theorem dX0_writeStub_53 : decode cX0_writeStub 53 = .ok (.iadd, 1) := by decide +kernel
theorem dX0_writeStub_54 : decode cX0_writeStub 54 = .ok (.getstatic 40, 3) := by decide +kernel
theorem dX0_writeStub_57 : decode cX0_writeStub 57 = .ok (.iload 5, 2) := by decide +kernel
theorem dX0_writeStub_59 : decode cX0_writeStub 59 = .ok (.iconst 1, 1) := by decide +kernel
theorem dX0_writeStub_60 : decode cX0_writeStub 60 = .ok (.iadd, 1) := by decide +kernel
theorem dX0_writeStub_61 : decode cX0_writeStub 61 = .ok (.iaload, 1) := by decide +kernel
theorem dX0_writeStub_62 : decode cX0_writeStub 62 = .ok (.iload 6, 2) := by decide +kernel
theorem dX0_writeStub_64 : decode cX0_writeStub 64 = .ok (.iadd, 1) := by decide +kernel
theorem dX0_writeStub_65 : decode cX0_writeStub 65 = .ok (.sipush 255, 3) := by decide +kernel
theorem dX0_writeStub_68 : decode cX0_writeStub 68 = .ok (.iand, 1) := by decide +kernel
theorem dX0_writeStub_69 : decode cX0_writeStub 69 = .ok (.iastore, 1) := by decide +kernel
theorem dX0_writeStub_70 : decode cX0_writeStub 70 = .ok (.iinc 5 2, 3) := by decide +kernel
theorem dX0_writeStub_73 : decode cX0_writeStub 73 = .ok (.goto (-70), 3) := by decide +kernel
theorem dX0_writeStub_76 : decode cX0_writeStub 76 = .ok (.aload_n 0, 1) := by decide +kernel
theorem dX0_writeStub_77 : decode cX0_writeStub 77 = .ok (.getfield 9, 3) := by decide +kernel
theorem dX0_writeStub_80 : decode cX0_writeStub 80 = .ok (.iload_n 1, 1) := by decide +kernel
theorem dX0_writeStub_81 : decode cX0_writeStub 81 = .ok (.iconst 1, 1) := by decide +kernel
theorem dX0_writeStub_82 : decode cX0_writeStub 82 = .ok (.iadd, 1) := by decide +kernel
theorem dX0_writeStub_83 : decode cX0_writeStub 83 = .ok (.iload_n 2, 1) := by decide +kernel
theorem dX0_writeStub_84 : decode cX0_writeStub 84 = .ok (.iastore, 1) := by decide +kernel
theorem dX0_writeStub_85 : decode cX0_writeStub 85 = .ok (.aload_n 0, 1) := by decide +kernel
theorem dX0_writeStub_86 : decode cX0_writeStub 86 = .ok (.getfield 9, 3) := by decide +kernel
theorem dX0_writeStub_89 : decode cX0_writeStub 89 = .ok (.iload_n 1, 1) := by decide +kernel
theorem dX0_writeStub_90 : decode cX0_writeStub 90 = .ok (.iconst 3, 1) := by decide +kernel
theorem dX0_writeStub_91 : decode cX0_writeStub 91 = .ok (.iadd, 1) := by decide +kernel
theorem dX0_writeStub_92 : decode cX0_writeStub 92 = .ok (.iload_n 3, 1) := by decide +kernel
theorem dX0_writeStub_93 : decode cX0_writeStub 93 = .ok (.iastore, 1) := by decide +kernel
theorem dX0_writeStub_94 : decode cX0_writeStub 94 = .ok (.aload_n 0, 1) := by decide +kernel
theorem dX0_writeStub_95 : decode cX0_writeStub 95 = .ok (.getfield 9, 3) := by decide +kernel
theorem dX0_writeStub_98 : decode cX0_writeStub 98 = .ok (.iload_n 1, 1) := by decide +kernel
theorem dX0_writeStub_99 : decode cX0_writeStub 99 = .ok (.bipush 60, 2) := by decide +kernel
theorem dX0_writeStub_101 : decode cX0_writeStub 101 = .ok (.iadd, 1) := by decide +kernel
theorem dX0_writeStub_102 : decode cX0_writeStub 102 = .ok (.iconst 1, 1) := by decide +kernel
theorem dX0_writeStub_103 : decode cX0_writeStub 103 = .ok (.isub, 1) := by decide +kernel
theorem dX0_writeStub_104 : decode cX0_writeStub 104 = .ok (.iload 4, 2) := by decide +kernel
theorem dX0_writeStub_106 : decode cX0_writeStub 106 = .ok (.iastore, 1) := by decide +kernel
theorem dX0_writeStub_107 : decode cX0_writeStub 107 = .ok (.return_, 1) := by decide +kernel
set_option maxRecDepth 20000 in
theorem ggX0_step_X0_act : GoodIn wsX0_step wsX0_act := goodIn_r _ [8, 9, 10, 1, 11, 12, 13, 14, 15, 7, 16, 2, 17, 18, 19, 20, 21, 22, 23, 24, 25, 26, 27] (by decide +kernel) (by decide +kernel)
set_option maxRecDepth 20000 in
theorem gX0_step_X0_act : GoodIn wsX0_step (wsV RX0 43 RX0 yX0_act wsX0_act) := goodIn_app (goodIn_of _ (by decide +kernel)) ggX0_step_X0_act
theorem dX0_step_0 : decode cX0_step 0 = .ok (.aload_n 0, 1) := by decide +kernel
theorem dX0_step_1 : decode cX0_step 1 = .ok (.getfield 9, 3) := by decide +kernel
theorem dX0_step_4 : decode cX0_step 4 = .ok (.aload_n 0, 1) := by decide +kernel
theorem dX0_step_5 : decode cX0_step 5 = .ok (.getfield 28, 3) := by decide +kernel
theorem dX0_step_8 : decode cX0_step 8 = .ok (.iaload, 1) := by decide +kernel
theorem dX0_step_9 : decode cX0_step 9 = .ok (.istore_n 1, 1) := by decide +kernel
theorem dX0_step_10 : decode cX0_step 10 = .ok (.aload_n 0, 1) := by decide +kernel
theorem dX0_step_11 : decode cX0_step 11 = .ok (.getfield 9, 3) := by decide +kernel
theorem dX0_step_14 : decode cX0_step 14 = .ok (.aload_n 0, 1) := by decide +kernel
theorem dX0_step_15 : decode cX0_step 15 = .ok (.getfield 28, 3) := by decide +kernel
theorem dX0_step_18 : decode cX0_step 18 = .ok (.iconst 1, 1) := by decide +kernel
theorem dX0_step_19 : decode cX0_step 19 = .ok (.iadd, 1) := by decide +kernel
theorem dX0_step_20 : decode cX0_step 20 = .ok (.sipush 255, 3) := by decide +kernel
theorem dX0_step_23 : decode cX0_step 23 = .ok (.iand, 1) := by decide +kernel
theorem dX0_step_24 : decode cX0_step 24 = .ok (.iaload, 1) := by decide +kernel
theorem dX0_step_25 : decode cX0_step 25 = .ok (.istore_n 2, 1) := by decide +kernel
theorem dX0_step_26 : decode cX0_step 26 = .ok (.aload_n 0, 1) := by decide +kernel
theorem dX0_step_27 : decode cX0_step 27 = .ok (.aload_n 0, 1) := by decide +kernel
theorem dX0_step_28 : decode cX0_step 28 = .ok (.getfield 28, 3) := by decide +kernel
theorem dX0_step_31 : decode cX0_step 31 = .ok (.iconst 2, 1) := by decide +kernel
theorem dX0_step_32 : decode cX0_step 32 = .ok (.iadd, 1) := by decide +kernel
theorem dX0_step_33 : decode cX0_step 33 = .ok (.sipush 255, 3) := by decide +kernel
theorem dX0_step_36 : decode cX0_step 36 = .ok (.iand, 1) := by decide +kernel
theorem dX0_step_37 : decode cX0_step 37 = .ok (.putfield 28, 3) := by decide +kernel
theorem dX0_step_40 : decode cX0_step 40 = .ok (.aload_n 0, 1) := by decide +kernel
theorem dX0_step_41 : decode cX0_step 41 = .ok (.dup, 1) := by decide +kernel
theorem dX0_step_42 : decode cX0_step 42 = .ok (.getfield 31, 3) := by decide +kernel
theorem dX0_step_45 : decode cX0_step 45 = .ok (.iconst 1, 1) := by decide +kernel
theorem dX0_step_46 : decode cX0_step 46 = .ok (.iadd, 1) := by decide +kernel
theorem dX0_step_47 : decode cX0_step 47 = .ok (.putfield 31, 3) := by decide +kernel
theorem dX0_step_50 : decode cX0_step 50 = .ok (.aload_n 0, 1) := by decide +kernel
theorem dX0_step_51 : decode cX0_step 51 = .ok (.iload_n 1, 1) := by decide +kernel
theorem dX0_step_52 : decode cX0_step 52 = .ok (.iconst 4, 1) := by decide +kernel
theorem dX0_step_53 : decode cX0_step 53 = .ok (.ishr, 1) := by decide +kernel
theorem dX0_step_54 : decode cX0_step 54 = .ok (.iload_n 1, 1) := by decide +kernel
theorem dX0_step_55 : decode cX0_step 55 = .ok (.bipush 7, 2) := by decide +kernel
theorem dX0_step_57 : decode cX0_step 57 = .ok (.iand, 1) := by decide +kernel
theorem dX0_step_58 : decode cX0_step 58 = .ok (.iload_n 2, 1) := by decide +kernel
theorem dX0_step_59 : decode cX0_step 59 = .ok (.invokevirtual 43, 3) := by decide +kernel
theorem dX0_step_62 : decode cX0_step 62 = .ok (.return_, 1) := by decide +kernel
set_option maxRecDepth 20000 in
theorem ggX0_act_X0_jump : GoodIn wsX0_act wsX0_jump := goodIn_r _ [10, 11, 16, 17, 18, 19, 20, 21, 22] (by decide +kernel) (by decide +kernel)
set_option maxRecDepth 20000 in
theorem gX0_act_X0_jump : GoodIn wsX0_act (wsV RX0 47 RX0 yX0_jump wsX0_jump) := goodIn_app (goodIn_of _ (by decide +kernel)) ggX0_act_X0_jump
set_option maxRecDepth 20000 in
theorem ggX0_act_X0_reckon : GoodIn wsX0_act wsX0_reckon := goodIn_r _ [15, 3, 16, 17, 18, 19, 20, 21, 22] (by decide +kernel) (by decide +kernel)
set_option maxRecDepth 20000 in
theorem gX0_act_X0_reckon : GoodIn wsX0_act (wsV RX0 50 RX0 yX0_reckon wsX0_reckon) := goodIn_app (goodIn_of _ (by decide +kernel)) ggX0_act_X0_reckon
theorem dX0_act_0 : decode cX0_act 0 = .ok (.aload_n 0, 1) := by decide +kernel
theorem dX0_act_1 : decode cX0_act 1 = .ok (.getfield 15, 3) := by decide +kernel
theorem dX0_act_4 : decode cX0_act 4 = .ok (.iload_n 3, 1) := by decide +kernel
theorem dX0_act_5 : decode cX0_act 5 = .ok (.bipush 7, 2) := by decide +kernel
theorem dX0_act_7 : decode cX0_act 7 = .ok (.iand, 1) := by decide +kernel
theorem dX0_act_8 : decode cX0_act 8 = .ok (.iaload, 1) := by decide +kernel
theorem dX0_act_9 : decode cX0_act 9 = .ok (.istore 4, 2) := by decide +kernel
theorem dX0_act_11 : decode cX0_act 11 = .ok (.iload_n 1, 1) := by decide +kernel
theorem dX0_act_12 : decode cX0_act 12 = .ok (.tableswitch 158 0 15 #[80, 158, 158, 158, 158, 158, 88, 158, 104, 104, 104, 104, 158, 158, 119, 150], 80) := by decide +kernel
theorem dX0_act_92 : decode cX0_act 92 = .ok (.aload_n 0, 1) := by decide +kernel
theorem dX0_act_93 : decode cX0_act 93 = .ok (.iconst 1, 1) := by decide +kernel
theorem dX0_act_94 : decode cX0_act 94 = .ok (.putfield 21, 3) := by decide +kernel
theorem dX0_act_97 : decode cX0_act 97 = .ok (.goto 97, 3) := by decide +kernel
theorem dX0_act_100 : decode cX0_act 100 = .ok (.aload_n 0, 1) := by decide +kernel
theorem dX0_act_101 : decode cX0_act 101 = .ok (.getfield 9, 3) := by decide +kernel
theorem dX0_act_104 : decode cX0_act 104 = .ok (.iload 4, 2) := by decide +kernel
theorem dX0_act_106 : decode cX0_act 106 = .ok (.aload_n 0, 1) := by decide +kernel
theorem dX0_act_107 : decode cX0_act 107 = .ok (.getfield 15, 3) := by decide +kernel
theorem dX0_act_110 : decode cX0_act 110 = .ok (.iload_n 2, 1) := by decide +kernel
theorem dX0_act_111 : decode cX0_act 111 = .ok (.iaload, 1) := by decide +kernel
theorem dX0_act_112 : decode cX0_act 112 = .ok (.iastore, 1) := by decide +kernel
theorem dX0_act_113 : decode cX0_act 113 = .ok (.goto 81, 3) := by decide +kernel
theorem dX0_act_116 : decode cX0_act 116 = .ok (.aload_n 0, 1) := by decide +kernel
theorem dX0_act_117 : decode cX0_act 117 = .ok (.iload_n 1, 1) := by decide +kernel
theorem dX0_act_118 : decode cX0_act 118 = .ok (.aload_n 0, 1) := by decide +kernel
theorem dX0_act_119 : decode cX0_act 119 = .ok (.getfield 15, 3) := by decide +kernel
theorem dX0_act_122 : decode cX0_act 122 = .ok (.iload_n 2, 1) := by decide +kernel
theorem dX0_act_123 : decode cX0_act 123 = .ok (.iaload, 1) := by decide +kernel
theorem dX0_act_124 : decode cX0_act 124 = .ok (.iload_n 3, 1) := by decide +kernel
theorem dX0_act_125 : decode cX0_act 125 = .ok (.invokevirtual 47, 3) := by decide +kernel
theorem dX0_act_128 : decode cX0_act 128 = .ok (.goto 66, 3) := by decide +kernel
theorem dX0_act_131 : decode cX0_act 131 = .ok (.aload_n 0, 1) := by decide +kernel
theorem dX0_act_132 : decode cX0_act 132 = .ok (.getfield 18, 3) := by decide +kernel
theorem dX0_act_135 : decode cX0_act 135 = .ok (.aload_n 0, 1) := by decide +kernel
theorem dX0_act_136 : decode cX0_act 136 = .ok (.getfield 25, 3) := by decide +kernel
theorem dX0_act_139 : decode cX0_act 139 = .ok (.bipush 32, 2) := by decide +kernel
theorem dX0_act_141 : decode cX0_act 141 = .ok (.irem, 1) := by decide +kernel
theorem dX0_act_142 : decode cX0_act 142 = .ok (.aload_n 0, 1) := by decide +kernel
theorem dX0_act_143 : decode cX0_act 143 = .ok (.getfield 15, 3) := by decide +kernel
theorem dX0_act_146 : decode cX0_act 146 = .ok (.iload_n 2, 1) := by decide +kernel
theorem dX0_act_147 : decode cX0_act 147 = .ok (.iaload, 1) := by decide +kernel
theorem dX0_act_148 : decode cX0_act 148 = .ok (.iastore, 1) := by decide +kernel
theorem dX0_act_149 : decode cX0_act 149 = .ok (.aload_n 0, 1) := by decide +kernel
theorem dX0_act_150 : decode cX0_act 150 = .ok (.dup, 1) := by decide +kernel
theorem dX0_act_151 : decode cX0_act 151 = .ok (.getfield 25, 3) := by decide +kernel
theorem dX0_act_154 : decode cX0_act 154 = .ok (.iconst 1, 1) := by decide +kernel
theorem dX0_act_155 : decode cX0_act 155 = .ok (.iadd, 1) := by decide +kernel
theorem dX0_act_156 : decode cX0_act 156 = .ok (.putfield 25, 3) := by decide +kernel
theorem dX0_act_159 : decode cX0_act 159 = .ok (.goto 35, 3) := by decide +kernel
theorem dX0_act_162 : decode cX0_act 162 = .ok (.aload_n 0, 1) := by decide +kernel
theorem dX0_act_163 : decode cX0_act 163 = .ok (.iconst 2, 1) := by decide +kernel
theorem dX0_act_164 : decode cX0_act 164 = .ok (.putfield 21, 3) := by decide +kernel
theorem dX0_act_167 : decode cX0_act 167 = .ok (.goto 27, 3) := by decide +kernel
theorem dX0_act_170 : decode cX0_act 170 = .ok (.aload_n 0, 1) := by decide +kernel
theorem dX0_act_171 : decode cX0_act 171 = .ok (.getfield 15, 3) := by decide +kernel
theorem dX0_act_174 : decode cX0_act 174 = .ok (.iload_n 2, 1) := by decide +kernel
theorem dX0_act_175 : decode cX0_act 175 = .ok (.aload_n 0, 1) := by decide +kernel
theorem dX0_act_176 : decode cX0_act 176 = .ok (.iload_n 1, 1) := by decide +kernel
theorem dX0_act_177 : decode cX0_act 177 = .ok (.aload_n 0, 1) := by decide +kernel
theorem dX0_act_178 : decode cX0_act 178 = .ok (.getfield 15, 3) := by decide +kernel
theorem dX0_act_181 : decode cX0_act 181 = .ok (.iload_n 2, 1) := by decide +kernel
theorem dX0_act_182 : decode cX0_act 182 = .ok (.iaload, 1) := by decide +kernel
theorem dX0_act_183 : decode cX0_act 183 = .ok (.iload 4, 2) := by decide +kernel
theorem dX0_act_185 : decode cX0_act 185 = .ok (.iload_n 3, 1) := by decide +kernel
theorem dX0_act_186 : decode cX0_act 186 = .ok (.invokevirtual 50, 3) := by decide +kernel
theorem dX0_act_189 : decode cX0_act 189 = .ok (.sipush 255, 3) := by decide +kernel
theorem dX0_act_192 : decode cX0_act 192 = .ok (.iand, 1) := by decide +kernel
theorem dX0_act_193 : decode cX0_act 193 = .ok (.iastore, 1) := by decide +kernel
theorem dX0_act_194 : decode cX0_act 194 = .ok (.return_, 1) := by decide +kernel
theorem dX0_jump_0 : decode cX0_jump 0 = .ok (.iload_n 1, 1) := by decide +kernel
theorem dX0_jump_1 : decode cX0_jump 1 = .ok (.bipush 11, 2) := by decide +kernel
theorem dX0_jump_3 : decode cX0_jump 3 = .ok (.if_icmp .ne 11, 3) := by decide +kernel
theorem dX0_jump_6 : decode cX0_jump 6 = .ok (.aload_n 0, 1) := by decide +kernel
theorem dX0_jump_7 : decode cX0_jump 7 = .ok (.iload_n 2, 1) := by decide +kernel
theorem dX0_jump_8 : decode cX0_jump 8 = .ok (.putfield 28, 3) := by decide +kernel
theorem dX0_jump_11 : decode cX0_jump 11 = .ok (.goto 36, 3) := by decide +kernel
theorem dX0_jump_14 : decode cX0_jump 14 = .ok (.iload_n 1, 1) := by decide +kernel
theorem dX0_jump_15 : decode cX0_jump 15 = .ok (.bipush 8, 2) := by decide +kernel
theorem dX0_jump_17 : decode cX0_jump 17 = .ok (.if_icmp .eq 25, 3) := by decide +kernel
theorem dX0_jump_20 : decode cX0_jump 20 = .ok (.iload_n 1, 1) := by decide +kernel
theorem dX0_jump_21 : decode cX0_jump 21 = .ok (.bipush 9, 2) := by decide +kernel
theorem dX0_jump_23 : decode cX0_jump 23 = .ok (.if_icmp .ne 7, 3) := by decide +kernel
theorem dX0_jump_26 : decode cX0_jump 26 = .ok (.iload_n 2, 1) := by decide +kernel
theorem dX0_jump_27 : decode cX0_jump 27 = .ok (.ifCond .eq 15, 3) := by decide +kernel
theorem dX0_jump_30 : decode cX0_jump 30 = .ok (.iload_n 1, 1) := by decide +kernel
theorem dX0_jump_31 : decode cX0_jump 31 = .ok (.bipush 10, 2) := by decide +kernel
theorem dX0_jump_33 : decode cX0_jump 33 = .ok (.if_icmp .ne 14, 3) := by decide +kernel
theorem dX0_jump_36 : decode cX0_jump 36 = .ok (.iload_n 2, 1) := by decide +kernel
theorem dX0_jump_37 : decode cX0_jump 37 = .ok (.bipush 127, 2) := by decide +kernel
theorem dX0_jump_39 : decode cX0_jump 39 = .ok (.if_icmp .le 8, 3) := by decide +kernel
theorem dX0_jump_42 : decode cX0_jump 42 = .ok (.aload_n 0, 1) := by decide +kernel
theorem dX0_jump_43 : decode cX0_jump 43 = .ok (.iload_n 3, 1) := by decide +kernel
theorem dX0_jump_44 : decode cX0_jump 44 = .ok (.putfield 28, 3) := by decide +kernel
theorem dX0_jump_47 : decode cX0_jump 47 = .ok (.return_, 1) := by decide +kernel
theorem dX0_reckon_0 : decode cX0_reckon 0 = .ok (.iload_n 1, 1) := by decide +kernel
theorem dX0_reckon_1 : decode cX0_reckon 1 = .ok (.tableswitch 92 1 12 #[63, 66, 68, 72, 77, 92, 84, 92, 92, 92, 92, 88], 63) := by decide +kernel
theorem dX0_reckon_64 : decode cX0_reckon 64 = .ok (.iload 4, 2) := by decide +kernel
theorem dX0_reckon_66 : decode cX0_reckon 66 = .ok (.ireturn, 1) := by decide +kernel
theorem dX0_reckon_67 : decode cX0_reckon 67 = .ok (.iload_n 3, 1) := by decide +kernel
theorem dX0_reckon_68 : decode cX0_reckon 68 = .ok (.ireturn, 1) := by decide +kernel
theorem dX0_reckon_69 : decode cX0_reckon 69 = .ok (.iload_n 2, 1) := by decide +kernel
theorem dX0_reckon_70 : decode cX0_reckon 70 = .ok (.iload_n 3, 1) := by decide +kernel
theorem dX0_reckon_71 : decode cX0_reckon 71 = .ok (.iadd, 1) := by decide +kernel
theorem dX0_reckon_72 : decode cX0_reckon 72 = .ok (.ireturn, 1) := by decide +kernel
theorem dX0_reckon_73 : decode cX0_reckon 73 = .ok (.iload_n 2, 1) := by decide +kernel
theorem dX0_reckon_74 : decode cX0_reckon 74 = .ok (.iload 4, 2) := by decide +kernel
theorem dX0_reckon_76 : decode cX0_reckon 76 = .ok (.iadd, 1) := by decide +kernel
theorem dX0_reckon_77 : decode cX0_reckon 77 = .ok (.ireturn, 1) := by decide +kernel
theorem dX0_reckon_78 : decode cX0_reckon 78 = .ok (.aload_n 0, 1) := by decide +kernel
theorem dX0_reckon_79 : decode cX0_reckon 79 = .ok (.getfield 9, 3) := by decide +kernel
theorem dX0_reckon_82 : decode cX0_reckon 82 = .ok (.iload_n 3, 1) := by decide +kernel
theorem dX0_reckon_83 : decode cX0_reckon 83 = .ok (.iaload, 1) := by decide +kernel
theorem dX0_reckon_84 : decode cX0_reckon 84 = .ok (.ireturn, 1) := by decide +kernel
theorem dX0_reckon_85 : decode cX0_reckon 85 = .ok (.iload_n 2, 1) := by decide +kernel
theorem dX0_reckon_86 : decode cX0_reckon 86 = .ok (.iload_n 3, 1) := by decide +kernel
theorem dX0_reckon_87 : decode cX0_reckon 87 = .ok (.isub, 1) := by decide +kernel
theorem dX0_reckon_88 : decode cX0_reckon 88 = .ok (.ireturn, 1) := by decide +kernel
theorem dX0_reckon_89 : decode cX0_reckon 89 = .ok (.iload_n 2, 1) := by decide +kernel
theorem dX0_reckon_90 : decode cX0_reckon 90 = .ok (.iload_n 3, 1) := by decide +kernel
theorem dX0_reckon_91 : decode cX0_reckon 91 = .ok (.iand, 1) := by decide +kernel
theorem dX0_reckon_92 : decode cX0_reckon 92 = .ok (.ireturn, 1) := by decide +kernel
theorem dX0_reckon_93 : decode cX0_reckon 93 = .ok (.iload_n 2, 1) := by decide +kernel
theorem dX0_reckon_94 : decode cX0_reckon 94 = .ok (.iload 4, 2) := by decide +kernel
theorem dX0_reckon_96 : decode cX0_reckon 96 = .ok (.bipush 7, 2) := by decide +kernel
theorem dX0_reckon_98 : decode cX0_reckon 98 = .ok (.iand, 1) := by decide +kernel
theorem dX0_reckon_99 : decode cX0_reckon 99 = .ok (.ishr, 1) := by decide +kernel
theorem dX0_reckon_100 : decode cX0_reckon 100 = .ok (.ireturn, 1) := by decide +kernel
end
section
set_option maxRecDepth 20000 in
theorem ggX1_init_X2_init : GoodIn wsX1_init wsX2_init := goodIn_r _ [17, 18, 2, 3, 8, 19, 20, 21, 22, 23, 24, 25, 26] (by decide +kernel) (by decide +kernel)
set_option maxRecDepth 20000 in
theorem gX1_init_X2_init : GoodIn wsX1_init (wsX2_init) := ggX1_init_X2_init
theorem dX1_init_0 : decode cX1_init 0 = .ok (.aload_n 0, 1) := by decide +kernel
theorem dX1_init_1 : decode cX1_init 1 = .ok (.invokespecial 3, 3) := by decide +kernel
theorem dX1_init_4 : decode cX1_init 4 = .ok (.aload_n 0, 1) := by decide +kernel
theorem dX1_init_5 : decode cX1_init 5 = .ok (.new 9, 3) := by decide +kernel
theorem dX1_init_8 : decode cX1_init 8 = .ok (.dup, 1) := by decide +kernel
theorem dX1_init_9 : decode cX1_init 9 = .ok (.invokespecial 11, 3) := by decide +kernel
theorem dX1_init_12 : decode cX1_init 12 = .ok (.putfield 12, 3) := by decide +kernel
theorem dX1_init_15 : decode cX1_init 15 = .ok (.aload_n 0, 1) := by decide +kernel
theorem dX1_init_16 : decode cX1_init 16 = .ok (.sipush 163, 3) := by decide +kernel
theorem dX1_init_19 : decode cX1_init 19 = .ok (.newarray .int, 2) := by decide +kernel
theorem dX1_init_21 : decode cX1_init 21 = .ok (.putfield 18, 3) := by decide +kernel
theorem dX1_init_24 : decode cX1_init 24 = .ok (.aload_n 0, 1) := by decide +kernel
theorem dX1_init_25 : decode cX1_init 25 = .ok (.sipush 161, 3) := by decide +kernel
theorem dX1_init_28 : decode cX1_init 28 = .ok (.newarray .int, 2) := by decide +kernel
theorem dX1_init_30 : decode cX1_init 30 = .ok (.putfield 22, 3) := by decide +kernel
theorem dX1_init_33 : decode cX1_init 33 = .ok (.aload_n 0, 1) := by decide +kernel
theorem dX1_init_34 : decode cX1_init 34 = .ok (.sipush 160, 3) := by decide +kernel
theorem dX1_init_37 : decode cX1_init 37 = .ok (.newarray .int, 2) := by decide +kernel
theorem dX1_init_39 : decode cX1_init 39 = .ok (.putfield 25, 3) := by decide +kernel
theorem dX1_init_42 : decode cX1_init 42 = .ok (.aload_n 0, 1) := by decide +kernel
theorem dX1_init_43 : decode cX1_init 43 = .ok (.sipush 160, 3) := by decide +kernel
theorem dX1_init_46 : decode cX1_init 46 = .ok (.newarray .int, 2) := by decide +kernel
theorem dX1_init_48 : decode cX1_init 48 = .ok (.putfield 28, 3) := by decide +kernel
theorem dX1_init_51 : decode cX1_init 51 = .ok (.aload_n 0, 1) := by decide +kernel
theorem dX1_init_52 : decode cX1_init 52 = .ok (.sipush 160, 3) := by decide +kernel
theorem dX1_init_55 : decode cX1_init 55 = .ok (.newarray .int, 2) := by decide +kernel
theorem dX1_init_57 : decode cX1_init 57 = .ok (.putfield 31, 3) := by decide +kernel
theorem dX1_init_60 : decode cX1_init 60 = .ok (.aload_n 0, 1) := by decide +kernel
theorem dX1_init_61 : decode cX1_init 61 = .ok (.iconst (-1), 1) := by decide +kernel
theorem dX1_init_62 : decode cX1_init 62 = .ok (.putfield 34, 3) := by decide +kernel
theorem dX1_init_65 : decode cX1_init 65 = .ok (.return_, 1) := by decide +kernel
theorem dX1_stubAddress_0 : decode cX1_stubAddress 0 = .ok (.aload_n 0, 1) := by decide +kernel
theorem dX1_stubAddress_1 : decode cX1_stubAddress 1 = .ok (.getfield 12, 3) := by decide +kernel
theorem dX1_stubAddress_4 : decode cX1_stubAddress 4 = .ok (.getfield 38, 3) := by decide +kernel
theorem dX1_stubAddress_7 : decode cX1_stubAddress 7 = .ok (.aload_n 0, 1) := by decide +kernel
theorem dX1_stubAddress_8 : decode cX1_stubAddress 8 = .ok (.getfield 12, 3) := by decide +kernel
theorem dX1_stubAddress_11 : decode cX1_stubAddress 11 = .ok (.getfield 41, 3) := by decide +kernel
theorem dX1_stubAddress_14 : decode cX1_stubAddress 14 = .ok (.iadd, 1) := by decide +kernel
theorem dX1_stubAddress_15 : decode cX1_stubAddress 15 = .ok (.aload_n 0, 1) := by decide +kernel
theorem dX1_stubAddress_16 : decode cX1_stubAddress 16 = .ok (.getfield 44, 3) := by decide +kernel
theorem dX1_stubAddress_19 : decode cX1_stubAddress 19 = .ok (.iadd, 1) := by decide +kernel
theorem dX1_stubAddress_20 : decode cX1_stubAddress 20 = .ok (.ireturn, 1) := by decide +kernel
set_option maxRecDepth 20000 in
theorem ggX1_layoutEnd_X1_stubAddress : GoodIn wsX1_layoutEnd wsX1_stubAddress := goodIn_r _ [5, 6, 7, 8, 9, 10, 11, 12, 13, 14, 15, 16, 17, 18, 19, 20, 21, 22, 23, 24] (by decide +kernel) (by decide +kernel)
set_option maxRecDepth 20000 in
theorem gX1_layoutEnd_X1_stubAddress : GoodIn wsX1_layoutEnd (wsV RX1 47 RX1 yX1_stubAddress wsX1_stubAddress) := goodIn_app (goodIn_of _ (by decide +kernel)) ggX1_layoutEnd_X1_stubAddress
theorem dX1_layoutEnd_0 : decode cX1_layoutEnd 0 = .ok (.aload_n 0, 1) := by decide +kernel
theorem dX1_layoutEnd_1 : decode cX1_layoutEnd 1 = .ok (.invokevirtual 47, 3) := by decide +kernel
theorem dX1_layoutEnd_4 : decode cX1_layoutEnd 4 = .ok (.bipush 60, 2) := by decide +kernel
theorem dX1_layoutEnd_6 : decode cX1_layoutEnd 6 = .ok (.iadd, 1) := by decide +kernel
theorem dX1_layoutEnd_7 : decode cX1_layoutEnd 7 = .ok (.ireturn, 1) := by decide +kernel
set_option maxRecDepth 20000 in
theorem ggX1_fits_X1_layoutEnd : GoodIn wsX1_fits wsX1_layoutEnd := goodIn_r _ [5, 6, 7, 8, 4, 9, 10, 11, 12, 13, 14, 15, 16, 17, 18, 19, 20, 21, 22, 23, 24, 25, 26, 27, 28] (by decide +kernel) (by decide +kernel)
set_option maxRecDepth 20000 in
theorem gX1_fits_X1_layoutEnd : GoodIn wsX1_fits (wsV RX1 53 RX1 yX1_layoutEnd wsX1_layoutEnd) := goodIn_app (goodIn_of _ (by decide +kernel)) ggX1_fits_X1_layoutEnd
theorem dX1_fits_0 : decode cX1_fits 0 = .ok (.aload_n 0, 1) := by decide +kernel
theorem dX1_fits_1 : decode cX1_fits 1 = .ok (.invokevirtual 53, 3) := by decide +kernel
theorem dX1_fits_4 : decode cX1_fits 4 = .ok (.sipush 256, 3) := by decide +kernel
theorem dX1_fits_7 : decode cX1_fits 7 = .ok (.if_icmp .gt 7, 3) := by decide +kernel
theorem dX1_fits_10 : decode cX1_fits 10 = .ok (.iconst 1, 1) := by decide +kernel
theorem dX1_fits_11 : decode cX1_fits 11 = .ok (.goto 4, 3) := by decide +kernel
theorem dX1_fits_14 : decode cX1_fits 14 = .ok (.iconst 0, 1) := by decide +kernel
theorem dX1_fits_15 : decode cX1_fits 15 = .ok (.ireturn, 1) := by decide +kernel
set_option maxRecDepth 20000 in
theorem ggX1_refresh_X1_findCopy : GoodIn wsX1_refresh wsX1_findCopy := goodIn_r _ [12, 2, 13, 14, 15, 5, 16, 17, 18, 19, 37, 38, 39, 40, 41, 42, 43, 44, 45, 46, 47, 48, 49, 50, 51] (by decide +kernel) (by decide +kernel)
set_option maxRecDepth 20000 in
theorem gX1_refresh_X1_findCopy : GoodIn wsX1_refresh (wsV RX1 57 RX1 yX1_findCopy wsX1_findCopy) := goodIn_app (goodIn_of _ (by decide +kernel)) ggX1_refresh_X1_findCopy
set_option maxRecDepth 20000 in
theorem ggX1_refresh_X1_chooseToken : GoodIn wsX1_refresh wsX1_chooseToken := goodIn_r _ [23, 15, 6, 14, 2, 4, 16, 17, 18, 19, 37, 38, 39, 40, 41, 42, 43, 44, 45, 46, 47, 48, 49, 50, 51] (by decide +kernel) (by decide +kernel)
set_option maxRecDepth 20000 in
theorem gX1_refresh_X1_chooseToken : GoodIn wsX1_refresh (wsV RX1 61 RX1 yX1_chooseToken wsX1_chooseToken) := goodIn_app (goodIn_of _ (by decide +kernel)) ggX1_refresh_X1_chooseToken
set_option maxRecDepth 20000 in
theorem ggX1_refresh_X1_writeStream : GoodIn wsX1_refresh wsX1_writeStream := goodIn_r _ [27, 2, 4, 7, 28, 29, 18, 30, 31, 14, 15, 32, 13, 33, 34, 35, 36, 37, 38, 39, 40, 41, 42, 43, 44, 45, 46, 47, 48, 49, 50, 51] (by decide +kernel) (by decide +kernel)
set_option maxRecDepth 20000 in
theorem gX1_refresh_X1_writeStream : GoodIn wsX1_refresh (wsV RX1 67 RX1 yX1_writeStream wsX1_writeStream) := goodIn_app (goodIn_of _ (by decide +kernel)) ggX1_refresh_X1_writeStream
theorem dX1_refresh_0 : decode cX1_refresh 0 = .ok (.aload_n 0, 1) := by decide +kernel
theorem dX1_refresh_1 : decode cX1_refresh 1 = .ok (.getfield 34, 3) := by decide +kernel
theorem dX1_refresh_4 : decode cX1_refresh 4 = .ok (.aload_n 0, 1) := by decide +kernel
theorem dX1_refresh_5 : decode cX1_refresh 5 = .ok (.getfield 12, 3) := by decide +kernel
theorem dX1_refresh_8 : decode cX1_refresh 8 = .ok (.getfield 56, 3) := by decide +kernel
theorem dX1_refresh_11 : decode cX1_refresh 11 = .ok (.if_icmp .ne 4, 3) := by decide +kernel
theorem dX1_refresh_14 : decode cX1_refresh 14 = .ok (.return_, 1) := by decide +kernel
theorem dX1_refresh_15 : decode cX1_refresh 15 = .ok (.aload_n 0, 1) := by decide +kernel
theorem dX1_refresh_16 : decode cX1_refresh 16 = .ok (.getfield 12, 3) := by decide +kernel
theorem dX1_refresh_19 : decode cX1_refresh 19 = .ok (.getfield 41, 3) := by decide +kernel
theorem dX1_refresh_22 : decode cX1_refresh 22 = .ok (.istore_n 1, 1) := by decide +kernel
theorem dX1_refresh_23 : decode cX1_refresh 23 = .ok (.iconst 0, 1) := by decide +kernel
theorem dX1_refresh_24 : decode cX1_refresh 24 = .ok (.istore_n 2, 1) := by decide +kernel
theorem dX1_refresh_25 : decode cX1_refresh 25 = .ok (.iload_n 2, 1) := by decide +kernel
theorem dX1_refresh_26 : decode cX1_refresh 26 = .ok (.sipush 160, 3) := by decide +kernel
theorem dX1_refresh_29 : decode cX1_refresh 29 = .ok (.if_icmp .ge 16, 3) := by decide +kernel
theorem dX1_refresh_32 : decode cX1_refresh 32 = .ok (.aload_n 0, 1) := by decide +kernel
theorem dX1_refresh_33 : decode cX1_refresh 33 = .ok (.getfield 31, 3) := by decide +kernel
theorem dX1_refresh_36 : decode cX1_refresh 36 = .ok (.iload_n 2, 1) := by decide +kernel
theorem dX1_refresh_37 : decode cX1_refresh 37 = .ok (.iconst 0, 1) := by decide +kernel
theorem dX1_refresh_38 : decode cX1_refresh 38 = .ok (.iastore, 1) := by decide +kernel
theorem dX1_refresh_39 : decode cX1_refresh 39 = .ok (.iinc 2 1, 3) := by decide +kernel
theorem dX1_refresh_42 : decode cX1_refresh 42 = .ok (.goto (-17), 3) := by decide +kernel
theorem dX1_refresh_45 : decode cX1_refresh 45 = .ok (.aload_n 0, 1) := by decide +kernel
theorem dX1_refresh_46 : decode cX1_refresh 46 = .ok (.getfield 22, 3) := by decide +kernel
theorem dX1_refresh_49 : decode cX1_refresh 49 = .ok (.iload_n 1, 1) := by decide +kernel
theorem dX1_refresh_50 : decode cX1_refresh 50 = .ok (.iconst 1, 1) := by decide +kernel
theorem dX1_refresh_51 : decode cX1_refresh 51 = .ok (.iastore, 1) := by decide +kernel
theorem dX1_refresh_52 : decode cX1_refresh 52 = .ok (.iload_n 1, 1) := by decide +kernel
theorem dX1_refresh_53 : decode cX1_refresh 53 = .ok (.iconst 1, 1) := by decide +kernel
theorem dX1_refresh_54 : decode cX1_refresh 54 = .ok (.isub, 1) := by decide +kernel
theorem dX1_refresh_55 : decode cX1_refresh 55 = .ok (.istore_n 2, 1) := by decide +kernel
theorem dX1_refresh_56 : decode cX1_refresh 56 = .ok (.iload_n 2, 1) := by decide +kernel
theorem dX1_refresh_57 : decode cX1_refresh 57 = .ok (.ifCond .lt 19, 3) := by decide +kernel
theorem dX1_refresh_60 : decode cX1_refresh 60 = .ok (.aload_n 0, 1) := by decide +kernel
theorem dX1_refresh_61 : decode cX1_refresh 61 = .ok (.iload_n 2, 1) := by decide +kernel
theorem dX1_refresh_62 : decode cX1_refresh 62 = .ok (.invokevirtual 57, 3) := by decide +kernel
theorem dX1_refresh_65 : decode cX1_refresh 65 = .ok (.aload_n 0, 1) := by decide +kernel
theorem dX1_refresh_66 : decode cX1_refresh 66 = .ok (.iload_n 2, 1) := by decide +kernel
theorem dX1_refresh_67 : decode cX1_refresh 67 = .ok (.invokevirtual 61, 3) := by decide +kernel
theorem dX1_refresh_70 : decode cX1_refresh 70 = .ok (.iinc 2 (-1), 3) := by decide +kernel
theorem dX1_refresh_73 : decode cX1_refresh 73 = .ok (.goto (-17), 3) := by decide +kernel
theorem dX1_refresh_76 : decode cX1_refresh 76 = .ok (.aload_n 0, 1) := by decide +kernel
theorem dX1_refresh_77 : decode cX1_refresh 77 = .ok (.aload_n 0, 1) := by decide +kernel
theorem dX1_refresh_78 : decode cX1_refresh 78 = .ok (.getfield 22, 3) := by decide +kernel
theorem dX1_refresh_81 : decode cX1_refresh 81 = .ok (.iconst 0, 1) := by decide +kernel
theorem dX1_refresh_82 : decode cX1_refresh 82 = .ok (.iaload, 1) := by decide +kernel
theorem dX1_refresh_83 : decode cX1_refresh 83 = .ok (.putfield 64, 3) := by decide +kernel
theorem dX1_refresh_86 : decode cX1_refresh 86 = .ok (.aload_n 0, 1) := by decide +kernel
theorem dX1_refresh_87 : decode cX1_refresh 87 = .ok (.invokevirtual 67, 3) := by decide +kernel
theorem dX1_refresh_90 : decode cX1_refresh 90 = .ok (.aload_n 0, 1) := by decide +kernel
theorem dX1_refresh_91 : decode cX1_refresh 91 = .ok (.aload_n 0, 1) := by decide +kernel
theorem dX1_refresh_92 : decode cX1_refresh 92 = .ok (.getfield 12, 3) := by decide +kernel
theorem dX1_refresh_95 : decode cX1_refresh 95 = .ok (.getfield 56, 3) := by decide +kernel
theorem dX1_refresh_98 : decode cX1_refresh 98 = .ok (.putfield 34, 3) := by decide +kernel
theorem dX1_refresh_101 : decode cX1_refresh 101 = .ok (.return_, 1) := by decide +kernel
theorem dX1_findCopy_0 : decode cX1_findCopy 0 = .ok (.aload_n 0, 1) := by decide +kernel
theorem dX1_findCopy_1 : decode cX1_findCopy 1 = .ok (.getfield 12, 3) := by decide +kernel
theorem dX1_findCopy_4 : decode cX1_findCopy 4 = .ok (.getfield 70, 3) := by decide +kernel
theorem dX1_findCopy_7 : decode cX1_findCopy 7 = .ok (.astore_n 2, 1) := by decide +kernel
theorem dX1_findCopy_8 : decode cX1_findCopy 8 = .ok (.aload_n 0, 1) := by decide +kernel
theorem dX1_findCopy_9 : decode cX1_findCopy 9 = .ok (.getfield 25, 3) := by decide +kernel
theorem dX1_findCopy_12 : decode cX1_findCopy 12 = .ok (.iload_n 1, 1) := by decide +kernel
theorem dX1_findCopy_13 : decode cX1_findCopy 13 = .ok (.iconst 0, 1) := by decide +kernel
theorem dX1_findCopy_14 : decode cX1_findCopy 14 = .ok (.iastore, 1) := by decide +kernel
theorem dX1_findCopy_15 : decode cX1_findCopy 15 = .ok (.aload_n 0, 1) := by decide +kernel
theorem dX1_findCopy_16 : decode cX1_findCopy 16 = .ok (.getfield 28, 3) := by decide +kernel
theorem dX1_findCopy_19 : decode cX1_findCopy 19 = .ok (.iload_n 1, 1) := by decide +kernel
theorem dX1_findCopy_20 : decode cX1_findCopy 20 = .ok (.iconst 0, 1) := by decide +kernel
theorem dX1_findCopy_21 : decode cX1_findCopy 21 = .ok (.iastore, 1) := by decide +kernel
theorem dX1_findCopy_22 : decode cX1_findCopy 22 = .ok (.iconst 1, 1) := by decide +kernel
theorem dX1_findCopy_23 : decode cX1_findCopy 23 = .ok (.istore_n 3, 1) := by decide +kernel
theorem dX1_findCopy_24 : decode cX1_findCopy 24 = .ok (.iload_n 3, 1) := by decide +kernel
theorem dX1_findCopy_25 : decode cX1_findCopy 25 = .ok (.iload_n 1, 1) := by decide +kernel
theorem dX1_findCopy_26 : decode cX1_findCopy 26 = .ok (.if_icmp .gt 84, 3) := by decide +kernel
theorem dX1_findCopy_29 : decode cX1_findCopy 29 = .ok (.aload_n 0, 1) := by decide +kernel
theorem dX1_findCopy_30 : decode cX1_findCopy 30 = .ok (.getfield 31, 3) := by decide +kernel
theorem dX1_findCopy_33 : decode cX1_findCopy 33 = .ok (.iload_n 3, 1) := by decide +kernel
theorem dX1_findCopy_34 : decode cX1_findCopy 34 = .ok (.aload_n 2, 1) := by decide +kernel
theorem dX1_findCopy_35 : decode cX1_findCopy 35 = .ok (.iload_n 1, 1) := by decide +kernel
theorem dX1_findCopy_36 : decode cX1_findCopy 36 = .ok (.iaload, 1) := by decide +kernel
theorem dX1_findCopy_37 : decode cX1_findCopy 37 = .ok (.aload_n 2, 1) := by decide +kernel
theorem dX1_findCopy_38 : decode cX1_findCopy 38 = .ok (.iload_n 1, 1) := by decide +kernel
theorem dX1_findCopy_39 : decode cX1_findCopy 39 = .ok (.iload_n 3, 1) := by decide +kernel
theorem dX1_findCopy_40 : decode cX1_findCopy 40 = .ok (.isub, 1) := by decide +kernel
theorem dX1_findCopy_41 : decode cX1_findCopy 41 = .ok (.iaload, 1) := by decide +kernel
theorem dX1_findCopy_42 : decode cX1_findCopy 42 = .ok (.if_icmp .ne 14, 3) := by decide +kernel
theorem dX1_findCopy_45 : decode cX1_findCopy 45 = .ok (.aload_n 0, 1) := by decide +kernel
theorem dX1_findCopy_46 : decode cX1_findCopy 46 = .ok (.getfield 31, 3) := by decide +kernel
theorem dX1_findCopy_49 : decode cX1_findCopy 49 = .ok (.iload_n 3, 1) := by decide +kernel
theorem dX1_findCopy_50 : decode cX1_findCopy 50 = .ok (.iaload, 1) := by decide +kernel
theorem dX1_findCopy_51 : decode cX1_findCopy 51 = .ok (.iconst 1, 1) := by decide +kernel
theorem dX1_findCopy_52 : decode cX1_findCopy 52 = .ok (.iadd, 1) := by decide +kernel
theorem dX1_findCopy_53 : decode cX1_findCopy 53 = .ok (.goto 4, 3) := by decide +kernel
theorem dX1_findCopy_56 : decode cX1_findCopy 56 = .ok (.iconst 0, 1) := by decide +kernel
theorem dX1_findCopy_57 : decode cX1_findCopy 57 = .ok (.iastore, 1) := by decide +kernel
theorem dX1_findCopy_58 : decode cX1_findCopy 58 = .ok (.aload_n 0, 1) := by decide +kernel
theorem dX1_findCopy_59 : decode cX1_findCopy 59 = .ok (.getfield 31, 3) := by decide +kernel
theorem dX1_findCopy_62 : decode cX1_findCopy 62 = .ok (.iload_n 3, 1) := by decide +kernel
theorem dX1_findCopy_63 : decode cX1_findCopy 63 = .ok (.iaload, 1) := by decide +kernel
theorem dX1_findCopy_64 : decode cX1_findCopy 64 = .ok (.sipush 129, 3) := by decide +kernel
theorem dX1_findCopy_67 : decode cX1_findCopy 67 = .ok (.invokestatic 73, 3) := by decide +kernel
theorem dX1_findCopy_70 : decode cX1_findCopy 70 = .ok (.istore 4, 2) := by decide +kernel
theorem dX1_findCopy_72 : decode cX1_findCopy 72 = .ok (.iload 4, 2) := by decide +kernel
theorem dX1_findCopy_74 : decode cX1_findCopy 74 = .ok (.iconst 1, 1) := by decide +kernel
theorem dX1_findCopy_75 : decode cX1_findCopy 75 = .ok (.if_icmp .le 29, 3) := by decide +kernel
theorem dX1_findCopy_78 : decode cX1_findCopy 78 = .ok (.iload 4, 2) := by decide +kernel
theorem dX1_findCopy_80 : decode cX1_findCopy 80 = .ok (.aload_n 0, 1) := by decide +kernel
theorem dX1_findCopy_81 : decode cX1_findCopy 81 = .ok (.getfield 25, 3) := by decide +kernel
theorem dX1_findCopy_84 : decode cX1_findCopy 84 = .ok (.iload_n 1, 1) := by decide +kernel
theorem dX1_findCopy_85 : decode cX1_findCopy 85 = .ok (.iaload, 1) := by decide +kernel
theorem dX1_findCopy_86 : decode cX1_findCopy 86 = .ok (.if_icmp .le 18, 3) := by decide +kernel
theorem dX1_findCopy_89 : decode cX1_findCopy 89 = .ok (.aload_n 0, 1) := by decide +kernel
theorem dX1_findCopy_90 : decode cX1_findCopy 90 = .ok (.getfield 25, 3) := by decide +kernel
theorem dX1_findCopy_93 : decode cX1_findCopy 93 = .ok (.iload_n 1, 1) := by decide +kernel
theorem dX1_findCopy_94 : decode cX1_findCopy 94 = .ok (.iload 4, 2) := by decide +kernel
theorem dX1_findCopy_96 : decode cX1_findCopy 96 = .ok (.iastore, 1) := by decide +kernel
theorem dX1_findCopy_97 : decode cX1_findCopy 97 = .ok (.aload_n 0, 1) := by decide +kernel
theorem dX1_findCopy_98 : decode cX1_findCopy 98 = .ok (.getfield 28, 3) := by decide +kernel
theorem dX1_findCopy_101 : decode cX1_findCopy 101 = .ok (.iload_n 1, 1) := by decide +kernel
theorem dX1_findCopy_102 : decode cX1_findCopy 102 = .ok (.iload_n 3, 1) := by decide +kernel
theorem dX1_findCopy_103 : decode cX1_findCopy 103 = .ok (.iastore, 1) := by decide +kernel
theorem dX1_findCopy_104 : decode cX1_findCopy 104 = .ok (.iinc 3 1, 3) := by decide +kernel
theorem dX1_findCopy_107 : decode cX1_findCopy 107 = .ok (.goto (-83), 3) := by decide +kernel
theorem dX1_findCopy_110 : decode cX1_findCopy 110 = .ok (.return_, 1) := by decide +kernel
theorem dX1_chooseToken_0 : decode cX1_chooseToken 0 = .ok (.aload_n 0, 1) := by decide +kernel
theorem dX1_chooseToken_1 : decode cX1_chooseToken 1 = .ok (.getfield 28, 3) := by decide +kernel
theorem dX1_chooseToken_4 : decode cX1_chooseToken 4 = .ok (.iload_n 1, 1) := by decide +kernel
theorem dX1_chooseToken_5 : decode cX1_chooseToken 5 = .ok (.iaload, 1) := by decide +kernel
theorem dX1_chooseToken_6 : decode cX1_chooseToken 6 = .ok (.ifCond .le 21, 3) := by decide +kernel
theorem dX1_chooseToken_9 : decode cX1_chooseToken 9 = .ok (.iconst 2, 1) := by decide +kernel
theorem dX1_chooseToken_10 : decode cX1_chooseToken 10 = .ok (.aload_n 0, 1) := by decide +kernel
theorem dX1_chooseToken_11 : decode cX1_chooseToken 11 = .ok (.getfield 22, 3) := by decide +kernel
theorem dX1_chooseToken_14 : decode cX1_chooseToken 14 = .ok (.iload_n 1, 1) := by decide +kernel
theorem dX1_chooseToken_15 : decode cX1_chooseToken 15 = .ok (.aload_n 0, 1) := by decide +kernel
theorem dX1_chooseToken_16 : decode cX1_chooseToken 16 = .ok (.getfield 25, 3) := by decide +kernel
theorem dX1_chooseToken_19 : decode cX1_chooseToken 19 = .ok (.iload_n 1, 1) := by decide +kernel
theorem dX1_chooseToken_20 : decode cX1_chooseToken 20 = .ok (.iaload, 1) := by decide +kernel
theorem dX1_chooseToken_21 : decode cX1_chooseToken 21 = .ok (.iadd, 1) := by decide +kernel
theorem dX1_chooseToken_22 : decode cX1_chooseToken 22 = .ok (.iaload, 1) := by decide +kernel
theorem dX1_chooseToken_23 : decode cX1_chooseToken 23 = .ok (.iadd, 1) := by decide +kernel
theorem dX1_chooseToken_24 : decode cX1_chooseToken 24 = .ok (.goto 6, 3) := by decide +kernel
theorem dX1_chooseToken_27 : decode cX1_chooseToken 27 = .ok (.sipush 1000, 3) := by decide +kernel
theorem dX1_chooseToken_30 : decode cX1_chooseToken 30 = .ok (.istore_n 2, 1) := by decide +kernel
theorem dX1_chooseToken_31 : decode cX1_chooseToken 31 = .ok (.bipush 127, 2) := by decide +kernel
theorem dX1_chooseToken_33 : decode cX1_chooseToken 33 = .ok (.aload_n 0, 1) := by decide +kernel
theorem dX1_chooseToken_34 : decode cX1_chooseToken 34 = .ok (.getfield 12, 3) := by decide +kernel
theorem dX1_chooseToken_37 : decode cX1_chooseToken 37 = .ok (.getfield 41, 3) := by decide +kernel
theorem dX1_chooseToken_40 : decode cX1_chooseToken 40 = .ok (.iload_n 1, 1) := by decide +kernel
theorem dX1_chooseToken_41 : decode cX1_chooseToken 41 = .ok (.isub, 1) := by decide +kernel
theorem dX1_chooseToken_42 : decode cX1_chooseToken 42 = .ok (.invokestatic 73, 3) := by decide +kernel
theorem dX1_chooseToken_45 : decode cX1_chooseToken 45 = .ok (.istore_n 3, 1) := by decide +kernel
theorem dX1_chooseToken_46 : decode cX1_chooseToken 46 = .ok (.iconst 1, 1) := by decide +kernel
theorem dX1_chooseToken_47 : decode cX1_chooseToken 47 = .ok (.istore 4, 2) := by decide +kernel
theorem dX1_chooseToken_49 : decode cX1_chooseToken 49 = .ok (.iload 4, 2) := by decide +kernel
theorem dX1_chooseToken_51 : decode cX1_chooseToken 51 = .ok (.iload_n 3, 1) := by decide +kernel
theorem dX1_chooseToken_52 : decode cX1_chooseToken 52 = .ok (.if_icmp .gt 49, 3) := by decide +kernel
theorem dX1_chooseToken_55 : decode cX1_chooseToken 55 = .ok (.iconst 1, 1) := by decide +kernel
theorem dX1_chooseToken_56 : decode cX1_chooseToken 56 = .ok (.iload 4, 2) := by decide +kernel
theorem dX1_chooseToken_58 : decode cX1_chooseToken 58 = .ok (.iadd, 1) := by decide +kernel
theorem dX1_chooseToken_59 : decode cX1_chooseToken 59 = .ok (.aload_n 0, 1) := by decide +kernel
theorem dX1_chooseToken_60 : decode cX1_chooseToken 60 = .ok (.getfield 22, 3) := by decide +kernel
theorem dX1_chooseToken_63 : decode cX1_chooseToken 63 = .ok (.iload_n 1, 1) := by decide +kernel
theorem dX1_chooseToken_64 : decode cX1_chooseToken 64 = .ok (.iload 4, 2) := by decide +kernel
theorem dX1_chooseToken_66 : decode cX1_chooseToken 66 = .ok (.iadd, 1) := by decide +kernel
theorem dX1_chooseToken_67 : decode cX1_chooseToken 67 = .ok (.iaload, 1) := by decide +kernel
theorem dX1_chooseToken_68 : decode cX1_chooseToken 68 = .ok (.iadd, 1) := by decide +kernel
theorem dX1_chooseToken_69 : decode cX1_chooseToken 69 = .ok (.istore 5, 2) := by decide +kernel
theorem dX1_chooseToken_71 : decode cX1_chooseToken 71 = .ok (.iload 5, 2) := by decide +kernel
theorem dX1_chooseToken_73 : decode cX1_chooseToken 73 = .ok (.iload_n 2, 1) := by decide +kernel
theorem dX1_chooseToken_74 : decode cX1_chooseToken 74 = .ok (.if_icmp .ge 21, 3) := by decide +kernel
theorem dX1_chooseToken_77 : decode cX1_chooseToken 77 = .ok (.iload 5, 2) := by decide +kernel
theorem dX1_chooseToken_79 : decode cX1_chooseToken 79 = .ok (.istore_n 2, 1) := by decide +kernel
theorem dX1_chooseToken_80 : decode cX1_chooseToken 80 = .ok (.aload_n 0, 1) := by decide +kernel
theorem dX1_chooseToken_81 : decode cX1_chooseToken 81 = .ok (.getfield 25, 3) := by decide +kernel
theorem dX1_chooseToken_84 : decode cX1_chooseToken 84 = .ok (.iload_n 1, 1) := by decide +kernel
theorem dX1_chooseToken_85 : decode cX1_chooseToken 85 = .ok (.iload 4, 2) := by decide +kernel
theorem dX1_chooseToken_87 : decode cX1_chooseToken 87 = .ok (.iastore, 1) := by decide +kernel
theorem dX1_chooseToken_88 : decode cX1_chooseToken 88 = .ok (.aload_n 0, 1) := by decide +kernel
theorem dX1_chooseToken_89 : decode cX1_chooseToken 89 = .ok (.getfield 28, 3) := by decide +kernel
theorem dX1_chooseToken_92 : decode cX1_chooseToken 92 = .ok (.iload_n 1, 1) := by decide +kernel
theorem dX1_chooseToken_93 : decode cX1_chooseToken 93 = .ok (.iconst 0, 1) := by decide +kernel
theorem dX1_chooseToken_94 : decode cX1_chooseToken 94 = .ok (.iastore, 1) := by decide +kernel
theorem dX1_chooseToken_95 : decode cX1_chooseToken 95 = .ok (.iinc 4 1, 3) := by decide +kernel
theorem dX1_chooseToken_98 : decode cX1_chooseToken 98 = .ok (.goto (-49), 3) := by decide +kernel
theorem dX1_chooseToken_101 : decode cX1_chooseToken 101 = .ok (.aload_n 0, 1) := by decide +kernel
theorem dX1_chooseToken_102 : decode cX1_chooseToken 102 = .ok (.getfield 22, 3) := by decide +kernel
theorem dX1_chooseToken_105 : decode cX1_chooseToken 105 = .ok (.iload_n 1, 1) := by decide +kernel
theorem dX1_chooseToken_106 : decode cX1_chooseToken 106 = .ok (.iload_n 2, 1) := by decide +kernel
theorem dX1_chooseToken_107 : decode cX1_chooseToken 107 = .ok (.iastore, 1) := by decide +kernel
theorem dX1_chooseToken_108 : decode cX1_chooseToken 108 = .ok (.return_, 1) := by decide +kernel
theorem dX1_writeStream_0 : decode cX1_writeStream 0 = .ok (.aload_n 0, 1) := by decide +kernel
theorem dX1_writeStream_1 : decode cX1_writeStream 1 = .ok (.getfield 12, 3) := by decide +kernel
theorem dX1_writeStream_4 : decode cX1_writeStream 4 = .ok (.getfield 41, 3) := by decide +kernel
theorem dX1_writeStream_7 : decode cX1_writeStream 7 = .ok (.istore_n 1, 1) := by decide +kernel
theorem dX1_writeStream_8 : decode cX1_writeStream 8 = .ok (.iconst 0, 1) := by decide +kernel
theorem dX1_writeStream_9 : decode cX1_writeStream 9 = .ok (.istore_n 2, 1) := by decide +kernel
theorem dX1_writeStream_10 : decode cX1_writeStream 10 = .ok (.iconst 0, 1) := by decide +kernel
theorem dX1_writeStream_11 : decode cX1_writeStream 11 = .ok (.istore_n 3, 1) := by decide +kernel
theorem dX1_writeStream_12 : decode cX1_writeStream 12 = .ok (.aload_n 0, 1) := by decide +kernel
theorem dX1_writeStream_13 : decode cX1_writeStream 13 = .ok (.iconst 0, 1) := by decide +kernel
theorem dX1_writeStream_14 : decode cX1_writeStream 14 = .ok (.aload_n 0, 1) := by decide +kernel
theorem dX1_writeStream_15 : decode cX1_writeStream 15 = .ok (.getfield 64, 3) := by decide +kernel
theorem dX1_writeStream_18 : decode cX1_writeStream 18 = .ok (.iload_n 1, 1) := by decide +kernel
theorem dX1_writeStream_19 : decode cX1_writeStream 19 = .ok (.isub, 1) := by decide +kernel
theorem dX1_writeStream_20 : decode cX1_writeStream 20 = .ok (.invokestatic 79, 3) := by decide +kernel
theorem dX1_writeStream_23 : decode cX1_writeStream 23 = .ok (.putfield 44, 3) := by decide +kernel
theorem dX1_writeStream_26 : decode cX1_writeStream 26 = .ok (.iconst 0, 1) := by decide +kernel
theorem dX1_writeStream_27 : decode cX1_writeStream 27 = .ok (.istore 4, 2) := by decide +kernel
theorem dX1_writeStream_29 : decode cX1_writeStream 29 = .ok (.iload 4, 2) := by decide +kernel
theorem dX1_writeStream_31 : decode cX1_writeStream 31 = .ok (.iload_n 1, 1) := by decide +kernel
theorem dX1_writeStream_32 : decode cX1_writeStream 32 = .ok (.if_icmp .ge 123, 3) := by decide +kernel
theorem dX1_writeStream_35 : decode cX1_writeStream 35 = .ok (.iload_n 3, 1) := by decide +kernel
theorem dX1_writeStream_36 : decode cX1_writeStream 36 = .ok (.iload_n 1, 1) := by decide +kernel
theorem dX1_writeStream_37 : decode cX1_writeStream 37 = .ok (.if_icmp .ge 118, 3) := by decide +kernel
theorem dX1_writeStream_40 : decode cX1_writeStream 40 = .ok (.aload_n 0, 1) := by decide +kernel
theorem dX1_writeStream_41 : decode cX1_writeStream 41 = .ok (.getfield 25, 3) := by decide +kernel
theorem dX1_writeStream_44 : decode cX1_writeStream 44 = .ok (.iload_n 3, 1) := by decide +kernel
theorem dX1_writeStream_45 : decode cX1_writeStream 45 = .ok (.iaload, 1) := by decide +kernel
theorem dX1_writeStream_46 : decode cX1_writeStream 46 = .ok (.istore 5, 2) := by decide +kernel
theorem dX1_writeStream_48 : decode cX1_writeStream 48 = .ok (.aload_n 0, 1) := by decide +kernel
theorem dX1_writeStream_49 : decode cX1_writeStream 49 = .ok (.getfield 28, 3) := by decide +kernel
theorem dX1_writeStream_52 : decode cX1_writeStream 52 = .ok (.iload_n 3, 1) := by decide +kernel
theorem dX1_writeStream_53 : decode cX1_writeStream 53 = .ok (.iaload, 1) := by decide +kernel
theorem dX1_writeStream_54 : decode cX1_writeStream 54 = .ok (.ifCond .le 34, 3) := by decide +kernel
theorem dX1_writeStream_57 : decode cX1_writeStream 57 = .ok (.aload_n 0, 1) := by decide +kernel
theorem dX1_writeStream_58 : decode cX1_writeStream 58 = .ok (.getfield 18, 3) := by decide +kernel
theorem dX1_writeStream_61 : decode cX1_writeStream 61 = .ok (.iload_n 2, 1) := by decide +kernel
theorem dX1_writeStream_62 : decode cX1_writeStream 62 = .ok (.iload 5, 2) := by decide +kernel
theorem dX1_writeStream_64 : decode cX1_writeStream 64 = .ok (.bipush 126, 2) := by decide +kernel
theorem dX1_writeStream_66 : decode cX1_writeStream 66 = .ok (.iadd, 1) := by decide +kernel
theorem dX1_writeStream_67 : decode cX1_writeStream 67 = .ok (.iastore, 1) := by decide +kernel
theorem dX1_writeStream_68 : decode cX1_writeStream 68 = .ok (.aload_n 0, 1) := by decide +kernel
theorem dX1_writeStream_69 : decode cX1_writeStream 69 = .ok (.getfield 18, 3) := by decide +kernel
theorem dX1_writeStream_72 : decode cX1_writeStream 72 = .ok (.iload_n 2, 1) := by decide +kernel
theorem dX1_writeStream_73 : decode cX1_writeStream 73 = .ok (.iconst 1, 1) := by decide +kernel
theorem dX1_writeStream_74 : decode cX1_writeStream 74 = .ok (.iadd, 1) := by decide +kernel
theorem dX1_writeStream_75 : decode cX1_writeStream 75 = .ok (.aload_n 0, 1) := by decide +kernel
theorem dX1_writeStream_76 : decode cX1_writeStream 76 = .ok (.getfield 28, 3) := by decide +kernel
theorem dX1_writeStream_79 : decode cX1_writeStream 79 = .ok (.iload_n 3, 1) := by decide +kernel
theorem dX1_writeStream_80 : decode cX1_writeStream 80 = .ok (.iaload, 1) := by decide +kernel
theorem dX1_writeStream_81 : decode cX1_writeStream 81 = .ok (.iastore, 1) := by decide +kernel
theorem dX1_writeStream_82 : decode cX1_writeStream 82 = .ok (.iinc 2 2, 3) := by decide +kernel
theorem dX1_writeStream_85 : decode cX1_writeStream 85 = .ok (.goto 38, 3) := by decide +kernel
theorem dX1_writeStream_88 : decode cX1_writeStream 88 = .ok (.aload_n 0, 1) := by decide +kernel
theorem dX1_writeStream_89 : decode cX1_writeStream 89 = .ok (.getfield 18, 3) := by decide +kernel
theorem dX1_writeStream_92 : decode cX1_writeStream 92 = .ok (.iload_n 2, 1) := by decide +kernel
theorem dX1_writeStream_93 : decode cX1_writeStream 93 = .ok (.iload 5, 2) := by decide +kernel
theorem dX1_writeStream_95 : decode cX1_writeStream 95 = .ok (.iastore, 1) := by decide +kernel
theorem dX1_writeStream_96 : decode cX1_writeStream 96 = .ok (.aload_n 0, 1) := by decide +kernel
theorem dX1_writeStream_97 : decode cX1_writeStream 97 = .ok (.getfield 12, 3) := by decide +kernel
theorem dX1_writeStream_100 : decode cX1_writeStream 100 = .ok (.getfield 70, 3) := by decide +kernel
theorem dX1_writeStream_103 : decode cX1_writeStream 103 = .ok (.iload_n 3, 1) := by decide +kernel
theorem dX1_writeStream_104 : decode cX1_writeStream 104 = .ok (.aload_n 0, 1) := by decide +kernel
theorem dX1_writeStream_105 : decode cX1_writeStream 105 = .ok (.getfield 18, 3) := by decide +kernel
theorem dX1_writeStream_108 : decode cX1_writeStream 108 = .ok (.iload_n 2, 1) := by decide +kernel
theorem dX1_writeStream_109 : decode cX1_writeStream 109 = .ok (.iconst 1, 1) := by decide +kernel
theorem dX1_writeStream_110 : decode cX1_writeStream 110 = .ok (.iadd, 1) := by decide +kernel
theorem dX1_writeStream_111 : decode cX1_writeStream 111 = .ok (.iload 5, 2) := by decide +kernel
theorem dX1_writeStream_113 : decode cX1_writeStream 113 = .ok (.invokestatic 82, 3) := by decide +kernel
theorem dX1_writeStream_116 : decode cX1_writeStream 116 = .ok (.iload_n 2, 1) := by decide +kernel
theorem dX1_writeStream_117 : decode cX1_writeStream 117 = .ok (.iconst 1, 1) := by decide +kernel
theorem dX1_writeStream_118 : decode cX1_writeStream 118 = .ok (.iload 5, 2) := by decide +kernel
theorem dX1_writeStream_120 : decode cX1_writeStream 120 = .ok (.iadd, 1) := by decide +kernel
theorem dX1_writeStream_121 : decode cX1_writeStream 121 = .ok (.iadd, 1) := by decide +kernel
theorem dX1_writeStream_122 : decode cX1_writeStream 122 = .ok (.istore_n 2, 1) := by decide +kernel
theorem dX1_writeStream_123 : decode cX1_writeStream 123 = .ok (.iload_n 3, 1) := by decide +kernel
theorem dX1_writeStream_124 : decode cX1_writeStream 124 = .ok (.iload 5, 2) := by decide +kernel
theorem dX1_writeStream_126 : decode cX1_writeStream 126 = .ok (.iadd, 1) := by decide +kernel
theorem dX1_writeStream_127 : decode cX1_writeStream 127 = .ok (.istore_n 3, 1) := by decide +kernel
theorem dX1_writeStream_128 : decode cX1_writeStream 128 = .ok (.aload_n 0, 1) := by decide +kernel
theorem dX1_writeStream_129 : decode cX1_writeStream 129 = .ok (.aload_n 0, 1) := by decide +kernel
theorem dX1_writeStream_130 : decode cX1_writeStream 130 = .ok (.getfield 44, 3) := by decide +kernel
theorem dX1_writeStream_133 : decode cX1_writeStream 133 = .ok (.iload_n 3, 1) := by decide +kernel
theorem dX1_writeStream_134 : decode cX1_writeStream 134 = .ok (.iload_n 1, 1) := by decide +kernel
theorem dX1_writeStream_135 : decode cX1_writeStream 135 = .ok (.isub, 1) := by decide +kernel
theorem dX1_writeStream_136 : decode cX1_writeStream 136 = .ok (.aload_n 0, 1) := by decide +kernel
theorem dX1_writeStream_137 : decode cX1_writeStream 137 = .ok (.getfield 64, 3) := by decide +kernel
theorem dX1_writeStream_140 : decode cX1_writeStream 140 = .ok (.iadd, 1) := by decide +kernel
theorem dX1_writeStream_141 : decode cX1_writeStream 141 = .ok (.iload_n 2, 1) := by decide +kernel
theorem dX1_writeStream_142 : decode cX1_writeStream 142 = .ok (.isub, 1) := by decide +kernel
theorem dX1_writeStream_143 : decode cX1_writeStream 143 = .ok (.invokestatic 79, 3) := by decide +kernel
theorem dX1_writeStream_146 : decode cX1_writeStream 146 = .ok (.putfield 44, 3) := by decide +kernel
theorem dX1_writeStream_149 : decode cX1_writeStream 149 = .ok (.iinc 4 1, 3) := by decide +kernel
theorem dX1_writeStream_152 : decode cX1_writeStream 152 = .ok (.goto (-123), 3) := by decide +kernel
theorem dX1_writeStream_155 : decode cX1_writeStream 155 = .ok (.aload_n 0, 1) := by decide +kernel
theorem dX1_writeStream_156 : decode cX1_writeStream 156 = .ok (.getfield 18, 3) := by decide +kernel
theorem dX1_writeStream_159 : decode cX1_writeStream 159 = .ok (.iload_n 2, 1) := by decide +kernel
theorem dX1_writeStream_160 : decode cX1_writeStream 160 = .ok (.iconst 0, 1) := by decide +kernel
theorem dX1_writeStream_161 : decode cX1_writeStream 161 = .ok (.iastore, 1) := by decide +kernel
theorem dX1_writeStream_162 : decode cX1_writeStream 162 = .ok (.return_, 1) := by decide +kernel
end
section
theorem dX2_init_0 : decode cX2_init 0 = .ok (.aload_n 0, 1) := by decide +kernel
theorem dX2_init_1 : decode cX2_init 1 = .ok (.invokespecial 3, 3) := by decide +kernel
theorem dX2_init_4 : decode cX2_init 4 = .ok (.aload_n 0, 1) := by decide +kernel
theorem dX2_init_5 : decode cX2_init 5 = .ok (.sipush 160, 3) := by decide +kernel
theorem dX2_init_8 : decode cX2_init 8 = .ok (.newarray .int, 2) := by decide +kernel
theorem dX2_init_10 : decode cX2_init 10 = .ok (.putfield 9, 3) := by decide +kernel
theorem dX2_init_13 : decode cX2_init 13 = .ok (.aload_n 0, 1) := by decide +kernel
theorem dX2_init_14 : decode cX2_init 14 = .ok (.sipush 160, 3) := by decide +kernel
theorem dX2_init_17 : decode cX2_init 17 = .ok (.newarray .int, 2) := by decide +kernel
theorem dX2_init_19 : decode cX2_init 19 = .ok (.putfield 15, 3) := by decide +kernel
theorem dX2_init_22 : decode cX2_init 22 = .ok (.return_, 1) := by decide +kernel
theorem dX2_hasRoom_0 : decode cX2_hasRoom 0 = .ok (.iload_n 1, 1) := by decide +kernel
theorem dX2_hasRoom_1 : decode cX2_hasRoom 1 = .ok (.sipush 160, 3) := by decide +kernel
theorem dX2_hasRoom_4 : decode cX2_hasRoom 4 = .ok (.aload_n 0, 1) := by decide +kernel
theorem dX2_hasRoom_5 : decode cX2_hasRoom 5 = .ok (.getfield 18, 3) := by decide +kernel
theorem dX2_hasRoom_8 : decode cX2_hasRoom 8 = .ok (.isub, 1) := by decide +kernel
theorem dX2_hasRoom_9 : decode cX2_hasRoom 9 = .ok (.if_icmp .gt 7, 3) := by decide +kernel
theorem dX2_hasRoom_12 : decode cX2_hasRoom 12 = .ok (.iconst 1, 1) := by decide +kernel
theorem dX2_hasRoom_13 : decode cX2_hasRoom 13 = .ok (.goto 4, 3) := by decide +kernel
theorem dX2_hasRoom_16 : decode cX2_hasRoom 16 = .ok (.iconst 0, 1) := by decide +kernel
theorem dX2_hasRoom_17 : decode cX2_hasRoom 17 = .ok (.ireturn, 1) := by decide +kernel
theorem dX2_fits_0 : decode cX2_fits 0 = .ok (.aload_n 0, 1) := by decide +kernel
theorem dX2_fits_1 : decode cX2_fits 1 = .ok (.getfield 22, 3) := by decide +kernel
theorem dX2_fits_4 : decode cX2_fits 4 = .ok (.aload_n 0, 1) := by decide +kernel
theorem dX2_fits_5 : decode cX2_fits 5 = .ok (.getfield 18, 3) := by decide +kernel
theorem dX2_fits_8 : decode cX2_fits 8 = .ok (.iadd, 1) := by decide +kernel
theorem dX2_fits_9 : decode cX2_fits 9 = .ok (.sipush 256, 3) := by decide +kernel
theorem dX2_fits_12 : decode cX2_fits 12 = .ok (.if_icmp .gt 7, 3) := by decide +kernel
theorem dX2_fits_15 : decode cX2_fits 15 = .ok (.iconst 1, 1) := by decide +kernel
theorem dX2_fits_16 : decode cX2_fits 16 = .ok (.goto 4, 3) := by decide +kernel
theorem dX2_fits_19 : decode cX2_fits 19 = .ok (.iconst 0, 1) := by decide +kernel
theorem dX2_fits_20 : decode cX2_fits 20 = .ok (.ireturn, 1) := by decide +kernel
theorem dX2_append_0 : decode cX2_append 0 = .ok (.aload_n 0, 1) := by decide +kernel
theorem dX2_append_1 : decode cX2_append 1 = .ok (.getfield 9, 3) := by decide +kernel
theorem dX2_append_4 : decode cX2_append 4 = .ok (.aload_n 0, 1) := by decide +kernel
theorem dX2_append_5 : decode cX2_append 5 = .ok (.getfield 18, 3) := by decide +kernel
theorem dX2_append_8 : decode cX2_append 8 = .ok (.iload_n 1, 1) := by decide +kernel
theorem dX2_append_9 : decode cX2_append 9 = .ok (.iastore, 1) := by decide +kernel
theorem dX2_append_10 : decode cX2_append 10 = .ok (.aload_n 0, 1) := by decide +kernel
theorem dX2_append_11 : decode cX2_append 11 = .ok (.dup, 1) := by decide +kernel
theorem dX2_append_12 : decode cX2_append 12 = .ok (.getfield 18, 3) := by decide +kernel
theorem dX2_append_15 : decode cX2_append 15 = .ok (.iconst 1, 1) := by decide +kernel
theorem dX2_append_16 : decode cX2_append 16 = .ok (.iadd, 1) := by decide +kernel
theorem dX2_append_17 : decode cX2_append 17 = .ok (.putfield 18, 3) := by decide +kernel
theorem dX2_append_20 : decode cX2_append 20 = .ok (.aload_n 0, 1) := by decide +kernel
theorem dX2_append_21 : decode cX2_append 21 = .ok (.dup, 1) := by decide +kernel
theorem dX2_append_22 : decode cX2_append 22 = .ok (.getfield 25, 3) := by decide +kernel
theorem dX2_append_25 : decode cX2_append 25 = .ok (.iconst 1, 1) := by decide +kernel
theorem dX2_append_26 : decode cX2_append 26 = .ok (.iadd, 1) := by decide +kernel
theorem dX2_append_27 : decode cX2_append 27 = .ok (.putfield 25, 3) := by decide +kernel
theorem dX2_append_30 : decode cX2_append 30 = .ok (.return_, 1) := by decide +kernel
theorem dX2_set_0 : decode cX2_set 0 = .ok (.aload_n 0, 1) := by decide +kernel
theorem dX2_set_1 : decode cX2_set 1 = .ok (.getfield 9, 3) := by decide +kernel
theorem dX2_set_4 : decode cX2_set 4 = .ok (.iload_n 1, 1) := by decide +kernel
theorem dX2_set_5 : decode cX2_set 5 = .ok (.iload_n 2, 1) := by decide +kernel
theorem dX2_set_6 : decode cX2_set 6 = .ok (.iastore, 1) := by decide +kernel
theorem dX2_set_7 : decode cX2_set 7 = .ok (.aload_n 0, 1) := by decide +kernel
theorem dX2_set_8 : decode cX2_set 8 = .ok (.dup, 1) := by decide +kernel
theorem dX2_set_9 : decode cX2_set 9 = .ok (.getfield 25, 3) := by decide +kernel
theorem dX2_set_12 : decode cX2_set 12 = .ok (.iconst 1, 1) := by decide +kernel
theorem dX2_set_13 : decode cX2_set 13 = .ok (.iadd, 1) := by decide +kernel
theorem dX2_set_14 : decode cX2_set 14 = .ok (.putfield 25, 3) := by decide +kernel
theorem dX2_set_17 : decode cX2_set 17 = .ok (.return_, 1) := by decide +kernel
theorem dX2_shorten_0 : decode cX2_shorten 0 = .ok (.aload_n 0, 1) := by decide +kernel
theorem dX2_shorten_1 : decode cX2_shorten 1 = .ok (.iload_n 1, 1) := by decide +kernel
theorem dX2_shorten_2 : decode cX2_shorten 2 = .ok (.putfield 18, 3) := by decide +kernel
theorem dX2_shorten_5 : decode cX2_shorten 5 = .ok (.aload_n 0, 1) := by decide +kernel
theorem dX2_shorten_6 : decode cX2_shorten 6 = .ok (.dup, 1) := by decide +kernel
theorem dX2_shorten_7 : decode cX2_shorten 7 = .ok (.getfield 25, 3) := by decide +kernel
theorem dX2_shorten_10 : decode cX2_shorten 10 = .ok (.iconst 1, 1) := by decide +kernel
theorem dX2_shorten_11 : decode cX2_shorten 11 = .ok (.iadd, 1) := by decide +kernel
theorem dX2_shorten_12 : decode cX2_shorten 12 = .ok (.putfield 25, 3) := by decide +kernel
theorem dX2_shorten_15 : decode cX2_shorten 15 = .ok (.return_, 1) := by decide +kernel
theorem dX2_loadedAt_0 : decode cX2_loadedAt 0 = .ok (.iload_n 1, 1) := by decide +kernel
theorem dX2_loadedAt_1 : decode cX2_loadedAt 1 = .ok (.aload_n 0, 1) := by decide +kernel
theorem dX2_loadedAt_2 : decode cX2_loadedAt 2 = .ok (.getfield 22, 3) := by decide +kernel
theorem dX2_loadedAt_5 : decode cX2_loadedAt 5 = .ok (.isub, 1) := by decide +kernel
theorem dX2_loadedAt_6 : decode cX2_loadedAt 6 = .ok (.istore_n 2, 1) := by decide +kernel
theorem dX2_loadedAt_7 : decode cX2_loadedAt 7 = .ok (.iload_n 2, 1) := by decide +kernel
theorem dX2_loadedAt_8 : decode cX2_loadedAt 8 = .ok (.ifCond .lt 20, 3) := by decide +kernel
theorem dX2_loadedAt_11 : decode cX2_loadedAt 11 = .ok (.iload_n 2, 1) := by decide +kernel
theorem dX2_loadedAt_12 : decode cX2_loadedAt 12 = .ok (.aload_n 0, 1) := by decide +kernel
theorem dX2_loadedAt_13 : decode cX2_loadedAt 13 = .ok (.getfield 18, 3) := by decide +kernel
theorem dX2_loadedAt_16 : decode cX2_loadedAt 16 = .ok (.if_icmp .ge 12, 3) := by decide +kernel
theorem dX2_loadedAt_19 : decode cX2_loadedAt 19 = .ok (.aload_n 0, 1) := by decide +kernel
theorem dX2_loadedAt_20 : decode cX2_loadedAt 20 = .ok (.getfield 9, 3) := by decide +kernel
theorem dX2_loadedAt_23 : decode cX2_loadedAt 23 = .ok (.iload_n 2, 1) := by decide +kernel
theorem dX2_loadedAt_24 : decode cX2_loadedAt 24 = .ok (.iaload, 1) := by decide +kernel
theorem dX2_loadedAt_25 : decode cX2_loadedAt 25 = .ok (.goto 4, 3) := by decide +kernel
theorem dX2_loadedAt_28 : decode cX2_loadedAt 28 = .ok (.iconst 0, 1) := by decide +kernel
theorem dX2_loadedAt_29 : decode cX2_loadedAt 29 = .ok (.ireturn, 1) := by decide +kernel
set_option maxRecDepth 20000 in
theorem ggX2_openAsStream_X2_openRun : GoodIn wsX2_openAsStream wsX2_openRun := goodIn_ca (goodIn_ca (goodIn_r _ [16, 1, 2, 17, 18, 5, 6, 7, 8, 9, 10, 11, 30, 31, 32, 33, 34, 35] (by decide +kernel) (by decide +kernel)) (goodIn_sub (fun _ h => List.mem_cons_of_mem _ (List.mem_append_left _ (List.mem_append_left _ (List.mem_append_left _ (List.mem_append_right _ h))))) (by decide +kernel))) (goodIn_sub (fun _ h => List.mem_cons_of_mem _ (List.mem_append_left _ (List.mem_append_right _ h))) (by decide +kernel))
set_option maxRecDepth 20000 in
theorem gX2_openAsStream_X2_openRun : GoodIn wsX2_openAsStream (wsV RX2 30 RX2 yX2_openRun wsX2_openRun) := goodIn_app (goodIn_of _ (by decide +kernel)) ggX2_openAsStream_X2_openRun
set_option maxRecDepth 20000 in
theorem ggX2_openAsStream_X2_openCopy : GoodIn wsX2_openAsStream wsX2_openCopy := goodIn_ca (goodIn_ca (goodIn_ca (goodIn_r _ [22, 1, 2, 23, 24, 17, 18, 5, 6, 7, 30, 31, 32, 33, 34, 35] (by decide +kernel) (by decide +kernel)) (goodIn_sub (fun _ h => List.mem_cons_of_mem _ (List.mem_append_left _ (List.mem_append_left _ (List.mem_append_left _ (List.mem_append_right _ h))))) (by decide +kernel))) (goodIn_sub (fun _ h => List.mem_cons_of_mem _ (List.mem_append_right _ h)) (by decide +kernel))) (goodIn_sub (fun _ h => List.mem_cons_of_mem _ (List.mem_append_left _ (List.mem_append_right _ h))) (by decide +kernel))
set_option maxRecDepth 20000 in
theorem gX2_openAsStream_X2_openCopy : GoodIn wsX2_openAsStream (wsV RX2 34 RX2 yX2_openCopy wsX2_openCopy) := goodIn_app (goodIn_of _ (by decide +kernel)) ggX2_openAsStream_X2_openCopy
set_option maxRecDepth 20000 in
theorem ggX2_openAsStream_X2_shorten : GoodIn wsX2_openAsStream wsX2_shorten := goodIn_r _ [28, 5, 29, 30, 31, 32, 33, 34, 35] (by decide +kernel) (by decide +kernel)
set_option maxRecDepth 20000 in
theorem gX2_openAsStream_X2_shorten : GoodIn wsX2_openAsStream (wsV RX2 49 RX2 yX2_shorten wsX2_shorten) := goodIn_app (goodIn_of _ (by decide +kernel)) ggX2_openAsStream_X2_shorten
theorem dX2_openAsStream_0 : decode cX2_openAsStream 0 = .ok (.iconst 0, 1) := by decide +kernel
theorem dX2_openAsStream_1 : decode cX2_openAsStream 1 = .ok (.istore_n 1, 1) := by decide +kernel
theorem dX2_openAsStream_2 : decode cX2_openAsStream 2 = .ok (.iconst 0, 1) := by decide +kernel
theorem dX2_openAsStream_3 : decode cX2_openAsStream 3 = .ok (.istore_n 2, 1) := by decide +kernel
theorem dX2_openAsStream_4 : decode cX2_openAsStream 4 = .ok (.iload_n 1, 1) := by decide +kernel
theorem dX2_openAsStream_5 : decode cX2_openAsStream 5 = .ok (.aload_n 0, 1) := by decide +kernel
theorem dX2_openAsStream_6 : decode cX2_openAsStream 6 = .ok (.getfield 18, 3) := by decide +kernel
theorem dX2_openAsStream_9 : decode cX2_openAsStream 9 = .ok (.if_icmp .ge 60, 3) := by decide +kernel
theorem dX2_openAsStream_12 : decode cX2_openAsStream 12 = .ok (.aload_n 0, 1) := by decide +kernel
theorem dX2_openAsStream_13 : decode cX2_openAsStream 13 = .ok (.getfield 9, 3) := by decide +kernel
theorem dX2_openAsStream_16 : decode cX2_openAsStream 16 = .ok (.iload_n 1, 1) := by decide +kernel
theorem dX2_openAsStream_17 : decode cX2_openAsStream 17 = .ok (.iaload, 1) := by decide +kernel
theorem dX2_openAsStream_18 : decode cX2_openAsStream 18 = .ok (.ifCond .eq 51, 3) := by decide +kernel
theorem dX2_openAsStream_21 : decode cX2_openAsStream 21 = .ok (.aload_n 0, 1) := by decide +kernel
theorem dX2_openAsStream_22 : decode cX2_openAsStream 22 = .ok (.getfield 9, 3) := by decide +kernel
theorem dX2_openAsStream_25 : decode cX2_openAsStream 25 = .ok (.iload_n 1, 1) := by decide +kernel
theorem dX2_openAsStream_26 : decode cX2_openAsStream 26 = .ok (.iaload, 1) := by decide +kernel
theorem dX2_openAsStream_27 : decode cX2_openAsStream 27 = .ok (.istore_n 3, 1) := by decide +kernel
theorem dX2_openAsStream_28 : decode cX2_openAsStream 28 = .ok (.iload_n 3, 1) := by decide +kernel
theorem dX2_openAsStream_29 : decode cX2_openAsStream 29 = .ok (.sipush 128, 3) := by decide +kernel
theorem dX2_openAsStream_32 : decode cX2_openAsStream 32 = .ok (.if_icmp .ge 20, 3) := by decide +kernel
theorem dX2_openAsStream_35 : decode cX2_openAsStream 35 = .ok (.aload_n 0, 1) := by decide +kernel
theorem dX2_openAsStream_36 : decode cX2_openAsStream 36 = .ok (.iload_n 1, 1) := by decide +kernel
theorem dX2_openAsStream_37 : decode cX2_openAsStream 37 = .ok (.iload_n 3, 1) := by decide +kernel
theorem dX2_openAsStream_38 : decode cX2_openAsStream 38 = .ok (.iload_n 2, 1) := by decide +kernel
theorem dX2_openAsStream_39 : decode cX2_openAsStream 39 = .ok (.invokevirtual 30, 3) := by decide +kernel
theorem dX2_openAsStream_42 : decode cX2_openAsStream 42 = .ok (.istore_n 2, 1) := by decide +kernel
theorem dX2_openAsStream_43 : decode cX2_openAsStream 43 = .ok (.iload_n 1, 1) := by decide +kernel
theorem dX2_openAsStream_44 : decode cX2_openAsStream 44 = .ok (.iconst 1, 1) := by decide +kernel
theorem dX2_openAsStream_45 : decode cX2_openAsStream 45 = .ok (.iload_n 3, 1) := by decide +kernel
theorem dX2_openAsStream_46 : decode cX2_openAsStream 46 = .ok (.iadd, 1) := by decide +kernel
theorem dX2_openAsStream_47 : decode cX2_openAsStream 47 = .ok (.iadd, 1) := by decide +kernel
theorem dX2_openAsStream_48 : decode cX2_openAsStream 48 = .ok (.istore_n 1, 1) := by decide +kernel
theorem dX2_openAsStream_49 : decode cX2_openAsStream 49 = .ok (.goto 17, 3) := by decide +kernel
theorem dX2_openAsStream_52 : decode cX2_openAsStream 52 = .ok (.aload_n 0, 1) := by decide +kernel
theorem dX2_openAsStream_53 : decode cX2_openAsStream 53 = .ok (.iload_n 1, 1) := by decide +kernel
theorem dX2_openAsStream_54 : decode cX2_openAsStream 54 = .ok (.iload_n 3, 1) := by decide +kernel
theorem dX2_openAsStream_55 : decode cX2_openAsStream 55 = .ok (.bipush 126, 2) := by decide +kernel
theorem dX2_openAsStream_57 : decode cX2_openAsStream 57 = .ok (.isub, 1) := by decide +kernel
theorem dX2_openAsStream_58 : decode cX2_openAsStream 58 = .ok (.iload_n 2, 1) := by decide +kernel
theorem dX2_openAsStream_59 : decode cX2_openAsStream 59 = .ok (.invokevirtual 34, 3) := by decide +kernel
theorem dX2_openAsStream_62 : decode cX2_openAsStream 62 = .ok (.istore_n 2, 1) := by decide +kernel
theorem dX2_openAsStream_63 : decode cX2_openAsStream 63 = .ok (.iinc 1 2, 3) := by decide +kernel
theorem dX2_openAsStream_66 : decode cX2_openAsStream 66 = .ok (.goto (-62), 3) := by decide +kernel
theorem dX2_openAsStream_69 : decode cX2_openAsStream 69 = .ok (.iload_n 1, 1) := by decide +kernel
theorem dX2_openAsStream_70 : decode cX2_openAsStream 70 = .ok (.aload_n 0, 1) := by decide +kernel
theorem dX2_openAsStream_71 : decode cX2_openAsStream 71 = .ok (.getfield 18, 3) := by decide +kernel
theorem dX2_openAsStream_74 : decode cX2_openAsStream 74 = .ok (.if_icmp .lt 11, 3) := by decide +kernel
theorem dX2_openAsStream_77 : decode cX2_openAsStream 77 = .ok (.new 37, 3) := by decide +kernel
theorem dX2_openAsStream_80 : decode cX2_openAsStream 80 = .ok (.dup, 1) := by decide +kernel
theorem dX2_openAsStream_81 : decode cX2_openAsStream 81 = .ok (.invokespecial 39, 3) := by decide +kernel
theorem dX2_openAsStream_84 : decode cX2_openAsStream 84 = .ok (.athrow, 1) := by decide +kernel
theorem dX2_openAsStream_85 : decode cX2_openAsStream 85 = .ok (.iload_n 1, 1) := by decide +kernel
theorem dX2_openAsStream_86 : decode cX2_openAsStream 86 = .ok (.aload_n 0, 1) := by decide +kernel
theorem dX2_openAsStream_87 : decode cX2_openAsStream 87 = .ok (.getfield 18, 3) := by decide +kernel
theorem dX2_openAsStream_90 : decode cX2_openAsStream 90 = .ok (.iconst 1, 1) := by decide +kernel
theorem dX2_openAsStream_91 : decode cX2_openAsStream 91 = .ok (.isub, 1) := by decide +kernel
theorem dX2_openAsStream_92 : decode cX2_openAsStream 92 = .ok (.if_icmp .ge 11, 3) := by decide +kernel
theorem dX2_openAsStream_95 : decode cX2_openAsStream 95 = .ok (.new 40, 3) := by decide +kernel
theorem dX2_openAsStream_98 : decode cX2_openAsStream 98 = .ok (.dup, 1) := by decide +kernel
theorem dX2_openAsStream_99 : decode cX2_openAsStream 99 = .ok (.invokespecial 42, 3) := by decide +kernel
theorem dX2_openAsStream_102 : decode cX2_openAsStream 102 = .ok (.athrow, 1) := by decide +kernel
theorem dX2_openAsStream_103 : decode cX2_openAsStream 103 = .ok (.aload_n 0, 1) := by decide +kernel
theorem dX2_openAsStream_104 : decode cX2_openAsStream 104 = .ok (.getfield 15, 3) := by decide +kernel
theorem dX2_openAsStream_107 : decode cX2_openAsStream 107 = .ok (.iconst 0, 1) := by decide +kernel
theorem dX2_openAsStream_108 : decode cX2_openAsStream 108 = .ok (.aload_n 0, 1) := by decide +kernel
theorem dX2_openAsStream_109 : decode cX2_openAsStream 109 = .ok (.getfield 9, 3) := by decide +kernel
theorem dX2_openAsStream_112 : decode cX2_openAsStream 112 = .ok (.iconst 0, 1) := by decide +kernel
theorem dX2_openAsStream_113 : decode cX2_openAsStream 113 = .ok (.iload_n 2, 1) := by decide +kernel
theorem dX2_openAsStream_114 : decode cX2_openAsStream 114 = .ok (.invokestatic 43, 3) := by decide +kernel
theorem dX2_openAsStream_117 : decode cX2_openAsStream 117 = .ok (.aload_n 0, 1) := by decide +kernel
theorem dX2_openAsStream_118 : decode cX2_openAsStream 118 = .ok (.iload_n 2, 1) := by decide +kernel
theorem dX2_openAsStream_119 : decode cX2_openAsStream 119 = .ok (.invokevirtual 49, 3) := by decide +kernel
theorem dX2_openAsStream_122 : decode cX2_openAsStream 122 = .ok (.return_, 1) := by decide +kernel
theorem dX2_openRun_0 : decode cX2_openRun 0 = .ok (.iload_n 2, 1) := by decide +kernel
theorem dX2_openRun_1 : decode cX2_openRun 1 = .ok (.aload_n 0, 1) := by decide +kernel
theorem dX2_openRun_2 : decode cX2_openRun 2 = .ok (.getfield 18, 3) := by decide +kernel
theorem dX2_openRun_5 : decode cX2_openRun 5 = .ok (.iload_n 1, 1) := by decide +kernel
theorem dX2_openRun_6 : decode cX2_openRun 6 = .ok (.isub, 1) := by decide +kernel
theorem dX2_openRun_7 : decode cX2_openRun 7 = .ok (.iconst 1, 1) := by decide +kernel
theorem dX2_openRun_8 : decode cX2_openRun 8 = .ok (.isub, 1) := by decide +kernel
theorem dX2_openRun_9 : decode cX2_openRun 9 = .ok (.if_icmp .le 11, 3) := by decide +kernel
theorem dX2_openRun_12 : decode cX2_openRun 12 = .ok (.new 37, 3) := by decide +kernel
theorem dX2_openRun_15 : decode cX2_openRun 15 = .ok (.dup, 1) := by decide +kernel
theorem dX2_openRun_16 : decode cX2_openRun 16 = .ok (.invokespecial 39, 3) := by decide +kernel
theorem dX2_openRun_19 : decode cX2_openRun 19 = .ok (.athrow, 1) := by decide +kernel
theorem dX2_openRun_20 : decode cX2_openRun 20 = .ok (.iload_n 2, 1) := by decide +kernel
theorem dX2_openRun_21 : decode cX2_openRun 21 = .ok (.sipush 160, 3) := by decide +kernel
theorem dX2_openRun_24 : decode cX2_openRun 24 = .ok (.iload_n 3, 1) := by decide +kernel
theorem dX2_openRun_25 : decode cX2_openRun 25 = .ok (.isub, 1) := by decide +kernel
theorem dX2_openRun_26 : decode cX2_openRun 26 = .ok (.if_icmp .le 11, 3) := by decide +kernel
theorem dX2_openRun_29 : decode cX2_openRun 29 = .ok (.new 53, 3) := by decide +kernel
theorem dX2_openRun_32 : decode cX2_openRun 32 = .ok (.dup, 1) := by decide +kernel
theorem dX2_openRun_33 : decode cX2_openRun 33 = .ok (.invokespecial 55, 3) := by decide +kernel
theorem dX2_openRun_36 : decode cX2_openRun 36 = .ok (.athrow, 1) := by decide +kernel
theorem dX2_openRun_37 : decode cX2_openRun 37 = .ok (.aload_n 0, 1) := by decide +kernel
theorem dX2_openRun_38 : decode cX2_openRun 38 = .ok (.getfield 9, 3) := by decide +kernel
theorem dX2_openRun_41 : decode cX2_openRun 41 = .ok (.iload_n 1, 1) := by decide +kernel
theorem dX2_openRun_42 : decode cX2_openRun 42 = .ok (.iconst 1, 1) := by decide +kernel
theorem dX2_openRun_43 : decode cX2_openRun 43 = .ok (.iadd, 1) := by decide +kernel
theorem dX2_openRun_44 : decode cX2_openRun 44 = .ok (.aload_n 0, 1) := by decide +kernel
theorem dX2_openRun_45 : decode cX2_openRun 45 = .ok (.getfield 15, 3) := by decide +kernel
theorem dX2_openRun_48 : decode cX2_openRun 48 = .ok (.iload_n 3, 1) := by decide +kernel
theorem dX2_openRun_49 : decode cX2_openRun 49 = .ok (.iload_n 2, 1) := by decide +kernel
theorem dX2_openRun_50 : decode cX2_openRun 50 = .ok (.invokestatic 43, 3) := by decide +kernel
theorem dX2_openRun_53 : decode cX2_openRun 53 = .ok (.iload_n 3, 1) := by decide +kernel
theorem dX2_openRun_54 : decode cX2_openRun 54 = .ok (.iload_n 2, 1) := by decide +kernel
theorem dX2_openRun_55 : decode cX2_openRun 55 = .ok (.iadd, 1) := by decide +kernel
theorem dX2_openRun_56 : decode cX2_openRun 56 = .ok (.ireturn, 1) := by decide +kernel
theorem dX2_openCopy_0 : decode cX2_openCopy 0 = .ok (.iload_n 1, 1) := by decide +kernel
theorem dX2_openCopy_1 : decode cX2_openCopy 1 = .ok (.iconst 1, 1) := by decide +kernel
theorem dX2_openCopy_2 : decode cX2_openCopy 2 = .ok (.iadd, 1) := by decide +kernel
theorem dX2_openCopy_3 : decode cX2_openCopy 3 = .ok (.aload_n 0, 1) := by decide +kernel
theorem dX2_openCopy_4 : decode cX2_openCopy 4 = .ok (.getfield 18, 3) := by decide +kernel
theorem dX2_openCopy_7 : decode cX2_openCopy 7 = .ok (.if_icmp .lt 11, 3) := by decide +kernel
theorem dX2_openCopy_10 : decode cX2_openCopy 10 = .ok (.new 37, 3) := by decide +kernel
theorem dX2_openCopy_13 : decode cX2_openCopy 13 = .ok (.dup, 1) := by decide +kernel
theorem dX2_openCopy_14 : decode cX2_openCopy 14 = .ok (.invokespecial 39, 3) := by decide +kernel
theorem dX2_openCopy_17 : decode cX2_openCopy 17 = .ok (.athrow, 1) := by decide +kernel
theorem dX2_openCopy_18 : decode cX2_openCopy 18 = .ok (.aload_n 0, 1) := by decide +kernel
theorem dX2_openCopy_19 : decode cX2_openCopy 19 = .ok (.getfield 9, 3) := by decide +kernel
theorem dX2_openCopy_22 : decode cX2_openCopy 22 = .ok (.iload_n 1, 1) := by decide +kernel
theorem dX2_openCopy_23 : decode cX2_openCopy 23 = .ok (.iconst 1, 1) := by decide +kernel
theorem dX2_openCopy_24 : decode cX2_openCopy 24 = .ok (.iadd, 1) := by decide +kernel
theorem dX2_openCopy_25 : decode cX2_openCopy 25 = .ok (.iaload, 1) := by decide +kernel
theorem dX2_openCopy_26 : decode cX2_openCopy 26 = .ok (.istore 4, 2) := by decide +kernel
theorem dX2_openCopy_28 : decode cX2_openCopy 28 = .ok (.iload 4, 2) := by decide +kernel
theorem dX2_openCopy_30 : decode cX2_openCopy 30 = .ok (.ifCond .eq 9, 3) := by decide +kernel
theorem dX2_openCopy_33 : decode cX2_openCopy 33 = .ok (.iload 4, 2) := by decide +kernel
theorem dX2_openCopy_35 : decode cX2_openCopy 35 = .ok (.iload_n 3, 1) := by decide +kernel
theorem dX2_openCopy_36 : decode cX2_openCopy 36 = .ok (.if_icmp .le 11, 3) := by decide +kernel
theorem dX2_openCopy_39 : decode cX2_openCopy 39 = .ok (.new 56, 3) := by decide +kernel
theorem dX2_openCopy_42 : decode cX2_openCopy 42 = .ok (.dup, 1) := by decide +kernel
theorem dX2_openCopy_43 : decode cX2_openCopy 43 = .ok (.invokespecial 58, 3) := by decide +kernel
theorem dX2_openCopy_46 : decode cX2_openCopy 46 = .ok (.athrow, 1) := by decide +kernel
theorem dX2_openCopy_47 : decode cX2_openCopy 47 = .ok (.iload_n 2, 1) := by decide +kernel
theorem dX2_openCopy_48 : decode cX2_openCopy 48 = .ok (.sipush 160, 3) := by decide +kernel
theorem dX2_openCopy_51 : decode cX2_openCopy 51 = .ok (.iload_n 3, 1) := by decide +kernel
theorem dX2_openCopy_52 : decode cX2_openCopy 52 = .ok (.isub, 1) := by decide +kernel
theorem dX2_openCopy_53 : decode cX2_openCopy 53 = .ok (.if_icmp .le 11, 3) := by decide +kernel
theorem dX2_openCopy_56 : decode cX2_openCopy 56 = .ok (.new 53, 3) := by decide +kernel
theorem dX2_openCopy_59 : decode cX2_openCopy 59 = .ok (.dup, 1) := by decide +kernel
theorem dX2_openCopy_60 : decode cX2_openCopy 60 = .ok (.invokespecial 55, 3) := by decide +kernel
theorem dX2_openCopy_63 : decode cX2_openCopy 63 = .ok (.athrow, 1) := by decide +kernel
theorem dX2_openCopy_64 : decode cX2_openCopy 64 = .ok (.iload_n 3, 1) := by decide +kernel
theorem dX2_openCopy_65 : decode cX2_openCopy 65 = .ok (.istore 5, 2) := by decide +kernel
theorem dX2_openCopy_67 : decode cX2_openCopy 67 = .ok (.iload 5, 2) := by decide +kernel
theorem dX2_openCopy_69 : decode cX2_openCopy 69 = .ok (.iload_n 3, 1) := by decide +kernel
theorem dX2_openCopy_70 : decode cX2_openCopy 70 = .ok (.iload_n 2, 1) := by decide +kernel
theorem dX2_openCopy_71 : decode cX2_openCopy 71 = .ok (.iadd, 1) := by decide +kernel
theorem dX2_openCopy_72 : decode cX2_openCopy 72 = .ok (.if_icmp .ge 26, 3) := by decide +kernel
theorem dX2_openCopy_75 : decode cX2_openCopy 75 = .ok (.aload_n 0, 1) := by decide +kernel
theorem dX2_openCopy_76 : decode cX2_openCopy 76 = .ok (.getfield 15, 3) := by decide +kernel
theorem dX2_openCopy_79 : decode cX2_openCopy 79 = .ok (.iload 5, 2) := by decide +kernel
theorem dX2_openCopy_81 : decode cX2_openCopy 81 = .ok (.aload_n 0, 1) := by decide +kernel
theorem dX2_openCopy_82 : decode cX2_openCopy 82 = .ok (.getfield 15, 3) := by decide +kernel
theorem dX2_openCopy_85 : decode cX2_openCopy 85 = .ok (.iload 5, 2) := by decide +kernel
theorem dX2_openCopy_87 : decode cX2_openCopy 87 = .ok (.iload 4, 2) := by decide +kernel
theorem dX2_openCopy_89 : decode cX2_openCopy 89 = .ok (.isub, 1) := by decide +kernel
theorem dX2_openCopy_90 : decode cX2_openCopy 90 = .ok (.iaload, 1) := by decide +kernel
theorem dX2_openCopy_91 : decode cX2_openCopy 91 = .ok (.iastore, 1) := by decide +kernel
theorem dX2_openCopy_92 : decode cX2_openCopy 92 = .ok (.iinc 5 1, 3) := by decide +kernel
theorem dX2_openCopy_95 : decode cX2_openCopy 95 = .ok (.goto (-28), 3) := by decide +kernel
theorem dX2_openCopy_98 : decode cX2_openCopy 98 = .ok (.iload_n 3, 1) := by decide +kernel
theorem dX2_openCopy_99 : decode cX2_openCopy 99 = .ok (.iload_n 2, 1) := by decide +kernel
theorem dX2_openCopy_100 : decode cX2_openCopy 100 = .ok (.iadd, 1) := by decide +kernel
theorem dX2_openCopy_101 : decode cX2_openCopy 101 = .ok (.ireturn, 1) := by decide +kernel
end
section
set_option maxRecDepth 20000 in
theorem ggX3_init_X1_init : GoodIn wsX3_init wsX1_init := goodIn_r _ [16, 17, 2, 3, 18, 19, 20, 21, 22, 23, 24, 25, 26, 27, 28, 29, 30, 31, 32, 33, 34, 62, 63, 64, 65, 66, 67, 43, 44, 45, 46, 47, 48, 49, 50, 51] (by decide +kernel) (by decide +kernel)
set_option maxRecDepth 20000 in
theorem gX3_init_X1_init : GoodIn wsX3_init (wsX1_init) := ggX3_init_X1_init
set_option maxRecDepth 20000 in
theorem ggX3_init_X0_init : GoodIn wsX3_init wsX0_init := goodIn_r _ [37, 38, 2, 3, 22, 39, 40, 41, 42, 55, 56, 57, 58, 59, 60, 61] (by decide +kernel) (by decide +kernel)
set_option maxRecDepth 20000 in
theorem gX3_init_X0_init : GoodIn wsX3_init (wsX0_init) := ggX3_init_X0_init
theorem dX3_init_0 : decode cX3_init 0 = .ok (.aload_n 0, 1) := by decide +kernel
theorem dX3_init_1 : decode cX3_init 1 = .ok (.invokespecial 1, 3) := by decide +kernel
theorem dX3_init_4 : decode cX3_init 4 = .ok (.aload_n 0, 1) := by decide +kernel
theorem dX3_init_5 : decode cX3_init 5 = .ok (.new 7, 3) := by decide +kernel
theorem dX3_init_8 : decode cX3_init 8 = .ok (.dup, 1) := by decide +kernel
theorem dX3_init_9 : decode cX3_init 9 = .ok (.invokespecial 9, 3) := by decide +kernel
theorem dX3_init_12 : decode cX3_init 12 = .ok (.putfield 10, 3) := by decide +kernel
theorem dX3_init_15 : decode cX3_init 15 = .ok (.aload_n 0, 1) := by decide +kernel
theorem dX3_init_16 : decode cX3_init 16 = .ok (.aload_n 0, 1) := by decide +kernel
theorem dX3_init_17 : decode cX3_init 17 = .ok (.getfield 10, 3) := by decide +kernel
theorem dX3_init_20 : decode cX3_init 20 = .ok (.getfield 16, 3) := by decide +kernel
theorem dX3_init_23 : decode cX3_init 23 = .ok (.putfield 20, 3) := by decide +kernel
theorem dX3_init_26 : decode cX3_init 26 = .ok (.aload_n 0, 1) := by decide +kernel
theorem dX3_init_27 : decode cX3_init 27 = .ok (.new 21, 3) := by decide +kernel
theorem dX3_init_30 : decode cX3_init 30 = .ok (.dup, 1) := by decide +kernel
theorem dX3_init_31 : decode cX3_init 31 = .ok (.invokespecial 23, 3) := by decide +kernel
theorem dX3_init_34 : decode cX3_init 34 = .ok (.putfield 24, 3) := by decide +kernel
theorem dX3_init_37 : decode cX3_init 37 = .ok (.return_, 1) := by decide +kernel
set_option maxRecDepth 20000 in
theorem ggX3_put_X2_hasRoom : GoodIn wsX3_put wsX2_hasRoom := goodIn_r _ [7, 8, 18, 19, 20, 21, 22, 23] (by decide +kernel) (by decide +kernel)
set_option maxRecDepth 20000 in
theorem gX3_put_X2_hasRoom : GoodIn wsX3_put (wsV RX3 28 RX2 yX2_hasRoom wsX2_hasRoom) := goodIn_app (goodIn_of _ (by decide +kernel)) ggX3_put_X2_hasRoom
set_option maxRecDepth 20000 in
theorem ggX3_put_X2_append : GoodIn wsX3_put wsX2_append := goodIn_r _ [12, 13, 8, 14, 18, 19, 20, 21, 22, 23] (by decide +kernel) (by decide +kernel)
set_option maxRecDepth 20000 in
theorem gX3_put_X2_append : GoodIn wsX3_put (wsV RX3 36 RX2 yX2_append wsX2_append) := goodIn_app (goodIn_of _ (by decide +kernel)) ggX3_put_X2_append
theorem dX3_put_0 : decode cX3_put 0 = .ok (.iload_n 3, 1) := by decide +kernel
theorem dX3_put_1 : decode cX3_put 1 = .ok (.iconst 1, 1) := by decide +kernel
theorem dX3_put_2 : decode cX3_put 2 = .ok (.if_icmp .lt 20, 3) := by decide +kernel
theorem dX3_put_5 : decode cX3_put 5 = .ok (.iload_n 3, 1) := by decide +kernel
theorem dX3_put_6 : decode cX3_put 6 = .ok (.bipush 8, 2) := by decide +kernel
theorem dX3_put_8 : decode cX3_put 8 = .ok (.if_icmp .gt 14, 3) := by decide +kernel
theorem dX3_put_11 : decode cX3_put 11 = .ok (.aload_n 0, 1) := by decide +kernel
theorem dX3_put_12 : decode cX3_put 12 = .ok (.getfield 20, 3) := by decide +kernel
theorem dX3_put_15 : decode cX3_put 15 = .ok (.iload_n 3, 1) := by decide +kernel
theorem dX3_put_16 : decode cX3_put 16 = .ok (.invokevirtual 28, 3) := by decide +kernel
theorem dX3_put_19 : decode cX3_put 19 = .ok (.ifCond .ne 5, 3) := by decide +kernel
theorem dX3_put_22 : decode cX3_put 22 = .ok (.iconst 0, 1) := by decide +kernel
theorem dX3_put_23 : decode cX3_put 23 = .ok (.ireturn, 1) := by decide +kernel
theorem dX3_put_24 : decode cX3_put 24 = .ok (.lload_n 1, 1) := by decide +kernel
theorem dX3_put_25 : decode cX3_put 25 = .ok (.lstore 4, 2) := by decide +kernel
theorem dX3_put_27 : decode cX3_put 27 = .ok (.iconst 0, 1) := by decide +kernel
theorem dX3_put_28 : decode cX3_put 28 = .ok (.istore 6, 2) := by decide +kernel
theorem dX3_put_30 : decode cX3_put 30 = .ok (.iload 6, 2) := by decide +kernel
theorem dX3_put_32 : decode cX3_put 32 = .ok (.iload_n 3, 1) := by decide +kernel
theorem dX3_put_33 : decode cX3_put 33 = .ok (.if_icmp .ge 30, 3) := by decide +kernel
theorem dX3_put_36 : decode cX3_put 36 = .ok (.aload_n 0, 1) := by decide +kernel
theorem dX3_put_37 : decode cX3_put 37 = .ok (.getfield 20, 3) := by decide +kernel
theorem dX3_put_40 : decode cX3_put 40 = .ok (.lload 4, 2) := by decide +kernel
theorem dX3_put_42 : decode cX3_put 42 = .ok (.ldc2_w 34, 3) := by decide +kernel
theorem dX3_put_45 : decode cX3_put 45 = .ok (.land, 1) := by decide +kernel
theorem dX3_put_46 : decode cX3_put 46 = .ok (.l2i, 1) := by decide +kernel
theorem dX3_put_47 : decode cX3_put 47 = .ok (.invokevirtual 36, 3) := by decide +kernel
theorem dX3_put_50 : decode cX3_put 50 = .ok (.lload 4, 2) := by decide +kernel
theorem dX3_put_52 : decode cX3_put 52 = .ok (.bipush 8, 2) := by decide +kernel
theorem dX3_put_54 : decode cX3_put 54 = .ok (.lushr, 1) := by decide +kernel
theorem dX3_put_55 : decode cX3_put 55 = .ok (.lstore 4, 2) := by decide +kernel
theorem dX3_put_57 : decode cX3_put 57 = .ok (.iinc 6 1, 3) := by decide +kernel
theorem dX3_put_60 : decode cX3_put 60 = .ok (.goto (-30), 3) := by decide +kernel
theorem dX3_put_63 : decode cX3_put 63 = .ok (.iconst 1, 1) := by decide +kernel
theorem dX3_put_64 : decode cX3_put 64 = .ok (.ireturn, 1) := by decide +kernel
set_option maxRecDepth 20000 in
theorem ggX3_again_X2_hasRoom : GoodIn wsX3_again wsX2_hasRoom := goodIn_r _ [8, 9, 19, 20, 21, 22, 23, 24] (by decide +kernel) (by decide +kernel)
set_option maxRecDepth 20000 in
theorem gX3_again_X2_hasRoom : GoodIn wsX3_again (wsV RX3 28 RX2 yX2_hasRoom wsX2_hasRoom) := goodIn_app (goodIn_of _ (by decide +kernel)) ggX3_again_X2_hasRoom
set_option maxRecDepth 20000 in
theorem ggX3_again_X2_append : GoodIn wsX3_again wsX2_append := goodIn_r _ [13, 14, 9, 15, 19, 20, 21, 22, 23, 24] (by decide +kernel) (by decide +kernel)
set_option maxRecDepth 20000 in
theorem gX3_again_X2_append : GoodIn wsX3_again (wsV RX3 36 RX2 yX2_append wsX2_append) := goodIn_app (goodIn_of _ (by decide +kernel)) ggX3_again_X2_append
theorem dX3_again_0 : decode cX3_again 0 = .ok (.iload_n 1, 1) := by decide +kernel
theorem dX3_again_1 : decode cX3_again 1 = .ok (.iconst 1, 1) := by decide +kernel
theorem dX3_again_2 : decode cX3_again 2 = .ok (.if_icmp .lt 29, 3) := by decide +kernel
theorem dX3_again_5 : decode cX3_again 5 = .ok (.iload_n 1, 1) := by decide +kernel
theorem dX3_again_6 : decode cX3_again 6 = .ok (.aload_n 0, 1) := by decide +kernel
theorem dX3_again_7 : decode cX3_again 7 = .ok (.getfield 20, 3) := by decide +kernel
theorem dX3_again_10 : decode cX3_again 10 = .ok (.getfield 40, 3) := by decide +kernel
theorem dX3_again_13 : decode cX3_again 13 = .ok (.if_icmp .gt 18, 3) := by decide +kernel
theorem dX3_again_16 : decode cX3_again 16 = .ok (.iload_n 2, 1) := by decide +kernel
theorem dX3_again_17 : decode cX3_again 17 = .ok (.ifCond .lt 14, 3) := by decide +kernel
theorem dX3_again_20 : decode cX3_again 20 = .ok (.aload_n 0, 1) := by decide +kernel
theorem dX3_again_21 : decode cX3_again 21 = .ok (.getfield 20, 3) := by decide +kernel
theorem dX3_again_24 : decode cX3_again 24 = .ok (.iload_n 2, 1) := by decide +kernel
theorem dX3_again_25 : decode cX3_again 25 = .ok (.invokevirtual 28, 3) := by decide +kernel
theorem dX3_again_28 : decode cX3_again 28 = .ok (.ifCond .ne 5, 3) := by decide +kernel
theorem dX3_again_31 : decode cX3_again 31 = .ok (.iconst 0, 1) := by decide +kernel
theorem dX3_again_32 : decode cX3_again 32 = .ok (.ireturn, 1) := by decide +kernel
theorem dX3_again_33 : decode cX3_again 33 = .ok (.iconst 0, 1) := by decide +kernel
theorem dX3_again_34 : decode cX3_again 34 = .ok (.istore_n 3, 1) := by decide +kernel
theorem dX3_again_35 : decode cX3_again 35 = .ok (.iload_n 3, 1) := by decide +kernel
theorem dX3_again_36 : decode cX3_again 36 = .ok (.iload_n 2, 1) := by decide +kernel
theorem dX3_again_37 : decode cX3_again 37 = .ok (.if_icmp .ge 33, 3) := by decide +kernel
theorem dX3_again_40 : decode cX3_again 40 = .ok (.aload_n 0, 1) := by decide +kernel
theorem dX3_again_41 : decode cX3_again 41 = .ok (.getfield 20, 3) := by decide +kernel
theorem dX3_again_44 : decode cX3_again 44 = .ok (.aload_n 0, 1) := by decide +kernel
theorem dX3_again_45 : decode cX3_again 45 = .ok (.getfield 20, 3) := by decide +kernel
theorem dX3_again_48 : decode cX3_again 48 = .ok (.getfield 44, 3) := by decide +kernel
theorem dX3_again_51 : decode cX3_again 51 = .ok (.aload_n 0, 1) := by decide +kernel
theorem dX3_again_52 : decode cX3_again 52 = .ok (.getfield 20, 3) := by decide +kernel
theorem dX3_again_55 : decode cX3_again 55 = .ok (.getfield 40, 3) := by decide +kernel
theorem dX3_again_58 : decode cX3_again 58 = .ok (.iload_n 1, 1) := by decide +kernel
theorem dX3_again_59 : decode cX3_again 59 = .ok (.isub, 1) := by decide +kernel
theorem dX3_again_60 : decode cX3_again 60 = .ok (.iaload, 1) := by decide +kernel
theorem dX3_again_61 : decode cX3_again 61 = .ok (.invokevirtual 36, 3) := by decide +kernel
theorem dX3_again_64 : decode cX3_again 64 = .ok (.iinc 3 1, 3) := by decide +kernel
theorem dX3_again_67 : decode cX3_again 67 = .ok (.goto (-32), 3) := by decide +kernel
theorem dX3_again_70 : decode cX3_again 70 = .ok (.iconst 1, 1) := by decide +kernel
theorem dX3_again_71 : decode cX3_again 71 = .ok (.ireturn, 1) := by decide +kernel
set_option maxRecDepth 20000 in
theorem ggX3_change_X3_isByte : GoodIn wsX3_change wsX3_isByte := goodIn_r _ [10] (by decide +kernel) (by decide +kernel)
set_option maxRecDepth 20000 in
theorem gX3_change_X3_isByte : GoodIn wsX3_change (va_wsS RX3 51 yX3_isByte wsX3_isByte) := goodIn_app (goodIn_of _ (by decide +kernel)) ggX3_change_X3_isByte
set_option maxRecDepth 20000 in
theorem ggX3_change_X2_set : GoodIn wsX3_change wsX2_set := goodIn_r _ [15, 16, 17, 21, 22, 23, 24, 25, 26] (by decide +kernel) (by decide +kernel)
set_option maxRecDepth 20000 in
theorem gX3_change_X2_set : GoodIn wsX3_change (wsV RX3 57 RX2 yX2_set wsX2_set) := goodIn_app (goodIn_of _ (by decide +kernel)) ggX3_change_X2_set
theorem dX3_change_0 : decode cX3_change 0 = .ok (.iload_n 1, 1) := by decide +kernel
theorem dX3_change_1 : decode cX3_change 1 = .ok (.ifCond .lt 14, 3) := by decide +kernel
theorem dX3_change_4 : decode cX3_change 4 = .ok (.iload_n 1, 1) := by decide +kernel
theorem dX3_change_5 : decode cX3_change 5 = .ok (.aload_n 0, 1) := by decide +kernel
theorem dX3_change_6 : decode cX3_change 6 = .ok (.getfield 20, 3) := by decide +kernel
theorem dX3_change_9 : decode cX3_change 9 = .ok (.getfield 40, 3) := by decide +kernel
theorem dX3_change_12 : decode cX3_change 12 = .ok (.if_icmp .lt 11, 3) := by decide +kernel
theorem dX3_change_15 : decode cX3_change 15 = .ok (.new 48, 3) := by decide +kernel
theorem dX3_change_18 : decode cX3_change 18 = .ok (.dup, 1) := by decide +kernel
theorem dX3_change_19 : decode cX3_change 19 = .ok (.invokespecial 50, 3) := by decide +kernel
theorem dX3_change_22 : decode cX3_change 22 = .ok (.athrow, 1) := by decide +kernel
theorem dX3_change_23 : decode cX3_change 23 = .ok (.iload_n 2, 1) := by decide +kernel
theorem dX3_change_24 : decode cX3_change 24 = .ok (.invokestatic 51, 3) := by decide +kernel
theorem dX3_change_27 : decode cX3_change 27 = .ok (.ifCond .ne 11, 3) := by decide +kernel
theorem dX3_change_30 : decode cX3_change 30 = .ok (.new 54, 3) := by decide +kernel
theorem dX3_change_33 : decode cX3_change 33 = .ok (.dup, 1) := by decide +kernel
theorem dX3_change_34 : decode cX3_change 34 = .ok (.invokespecial 56, 3) := by decide +kernel
theorem dX3_change_37 : decode cX3_change 37 = .ok (.athrow, 1) := by decide +kernel
theorem dX3_change_38 : decode cX3_change 38 = .ok (.aload_n 0, 1) := by decide +kernel
theorem dX3_change_39 : decode cX3_change 39 = .ok (.getfield 20, 3) := by decide +kernel
theorem dX3_change_42 : decode cX3_change 42 = .ok (.iload_n 1, 1) := by decide +kernel
theorem dX3_change_43 : decode cX3_change 43 = .ok (.iload_n 2, 1) := by decide +kernel
theorem dX3_change_44 : decode cX3_change 44 = .ok (.invokevirtual 57, 3) := by decide +kernel
theorem dX3_change_47 : decode cX3_change 47 = .ok (.return_, 1) := by decide +kernel
set_option maxRecDepth 20000 in
theorem ggX3_cut_X2_shorten : GoodIn wsX3_cut wsX2_shorten := goodIn_r _ [9, 10, 11, 15, 16, 17, 18, 19, 20] (by decide +kernel) (by decide +kernel)
set_option maxRecDepth 20000 in
theorem gX3_cut_X2_shorten : GoodIn wsX3_cut (wsV RX3 61 RX2 yX2_shorten wsX2_shorten) := goodIn_app (goodIn_of _ (by decide +kernel)) ggX3_cut_X2_shorten
theorem dX3_cut_0 : decode cX3_cut 0 = .ok (.iload_n 1, 1) := by decide +kernel
theorem dX3_cut_1 : decode cX3_cut 1 = .ok (.ifCond .lt 14, 3) := by decide +kernel
theorem dX3_cut_4 : decode cX3_cut 4 = .ok (.iload_n 1, 1) := by decide +kernel
theorem dX3_cut_5 : decode cX3_cut 5 = .ok (.aload_n 0, 1) := by decide +kernel
theorem dX3_cut_6 : decode cX3_cut 6 = .ok (.getfield 20, 3) := by decide +kernel
theorem dX3_cut_9 : decode cX3_cut 9 = .ok (.getfield 40, 3) := by decide +kernel
theorem dX3_cut_12 : decode cX3_cut 12 = .ok (.if_icmp .le 11, 3) := by decide +kernel
theorem dX3_cut_15 : decode cX3_cut 15 = .ok (.new 54, 3) := by decide +kernel
theorem dX3_cut_18 : decode cX3_cut 18 = .ok (.dup, 1) := by decide +kernel
theorem dX3_cut_19 : decode cX3_cut 19 = .ok (.invokespecial 56, 3) := by decide +kernel
theorem dX3_cut_22 : decode cX3_cut 22 = .ok (.athrow, 1) := by decide +kernel
theorem dX3_cut_23 : decode cX3_cut 23 = .ok (.aload_n 0, 1) := by decide +kernel
theorem dX3_cut_24 : decode cX3_cut 24 = .ok (.getfield 20, 3) := by decide +kernel
theorem dX3_cut_27 : decode cX3_cut 27 = .ok (.iload_n 1, 1) := by decide +kernel
theorem dX3_cut_28 : decode cX3_cut 28 = .ok (.invokevirtual 61, 3) := by decide +kernel
theorem dX3_cut_31 : decode cX3_cut 31 = .ok (.return_, 1) := by decide +kernel
set_option maxRecDepth 20000 in
theorem ggX3_place_X3_isByte : GoodIn wsX3_place wsX3_isByte := goodIn_r _ [9] (by decide +kernel) (by decide +kernel)
set_option maxRecDepth 20000 in
theorem gX3_place_X3_isByte : GoodIn wsX3_place (va_wsS RX3 51 yX3_isByte wsX3_isByte) := goodIn_app (goodIn_of _ (by decide +kernel)) ggX3_place_X3_isByte
theorem dX3_place_0 : decode cX3_place 0 = .ok (.iload_n 1, 1) := by decide +kernel
theorem dX3_place_1 : decode cX3_place 1 = .ok (.invokestatic 51, 3) := by decide +kernel
theorem dX3_place_4 : decode cX3_place 4 = .ok (.ifCond .eq 10, 3) := by decide +kernel
theorem dX3_place_7 : decode cX3_place 7 = .ok (.iload_n 2, 1) := by decide +kernel
theorem dX3_place_8 : decode cX3_place 8 = .ok (.invokestatic 51, 3) := by decide +kernel
theorem dX3_place_11 : decode cX3_place 11 = .ok (.ifCond .ne 11, 3) := by decide +kernel
theorem dX3_place_14 : decode cX3_place 14 = .ok (.new 54, 3) := by decide +kernel
theorem dX3_place_17 : decode cX3_place 17 = .ok (.dup, 1) := by decide +kernel
theorem dX3_place_18 : decode cX3_place 18 = .ok (.invokespecial 56, 3) := by decide +kernel
theorem dX3_place_21 : decode cX3_place 21 = .ok (.athrow, 1) := by decide +kernel
theorem dX3_place_22 : decode cX3_place 22 = .ok (.aload_n 0, 1) := by decide +kernel
theorem dX3_place_23 : decode cX3_place 23 = .ok (.getfield 20, 3) := by decide +kernel
theorem dX3_place_26 : decode cX3_place 26 = .ok (.iload_n 1, 1) := by decide +kernel
theorem dX3_place_27 : decode cX3_place 27 = .ok (.putfield 64, 3) := by decide +kernel
theorem dX3_place_30 : decode cX3_place 30 = .ok (.aload_n 0, 1) := by decide +kernel
theorem dX3_place_31 : decode cX3_place 31 = .ok (.getfield 20, 3) := by decide +kernel
theorem dX3_place_34 : decode cX3_place 34 = .ok (.iload_n 2, 1) := by decide +kernel
theorem dX3_place_35 : decode cX3_place 35 = .ok (.putfield 67, 3) := by decide +kernel
theorem dX3_place_38 : decode cX3_place 38 = .ok (.return_, 1) := by decide +kernel
theorem dX3_size_0 : decode cX3_size 0 = .ok (.aload_n 0, 1) := by decide +kernel
theorem dX3_size_1 : decode cX3_size 1 = .ok (.getfield 20, 3) := by decide +kernel
theorem dX3_size_4 : decode cX3_size 4 = .ok (.getfield 40, 3) := by decide +kernel
theorem dX3_size_7 : decode cX3_size 7 = .ok (.ireturn, 1) := by decide +kernel
set_option maxRecDepth 20000 in
theorem ggX3_packed_X1_refresh : GoodIn wsX3_packed wsX1_refresh := goodIn_r _ [7, 8, 9, 10, 11, 12, 13, 14, 15, 16, 17, 6, 18, 19, 20, 21, 22, 23, 24, 25, 26, 27, 28, 29, 30, 31, 32, 33, 34, 35, 36, 37, 38, 39, 40, 41, 42, 46, 47, 48, 49, 50, 51, 52, 53, 54, 55, 56, 57, 58, 59, 60] (by decide +kernel) (by decide +kernel)
set_option maxRecDepth 20000 in
theorem gX3_packed_X1_refresh : GoodIn wsX3_packed (wsV RX3 70 RX1 yX1_refresh wsX1_refresh) := goodIn_app (goodIn_of _ (by decide +kernel)) ggX3_packed_X1_refresh
theorem dX3_packed_0 : decode cX3_packed 0 = .ok (.aload_n 0, 1) := by decide +kernel
theorem dX3_packed_1 : decode cX3_packed 1 = .ok (.getfield 10, 3) := by decide +kernel
theorem dX3_packed_4 : decode cX3_packed 4 = .ok (.invokevirtual 70, 3) := by decide +kernel
theorem dX3_packed_7 : decode cX3_packed 7 = .ok (.aload_n 0, 1) := by decide +kernel
theorem dX3_packed_8 : decode cX3_packed 8 = .ok (.getfield 10, 3) := by decide +kernel
theorem dX3_packed_11 : decode cX3_packed 11 = .ok (.getfield 73, 3) := by decide +kernel
theorem dX3_packed_14 : decode cX3_packed 14 = .ok (.ireturn, 1) := by decide +kernel
set_option maxRecDepth 20000 in
theorem ggX3_stream_X1_refresh : GoodIn wsX3_stream wsX1_refresh := goodIn_r _ [10, 11, 12, 13, 14, 15, 16, 17, 18, 19, 20, 9, 21, 22, 23, 24, 25, 26, 27, 28, 29, 30, 31, 32, 33, 34, 35, 36, 37, 38, 39, 40, 41, 42, 43, 44, 45, 49, 50, 51, 52, 53, 54, 55, 56, 57, 58, 59, 60, 61, 62, 63] (by decide +kernel) (by decide +kernel)
set_option maxRecDepth 20000 in
theorem gX3_stream_X1_refresh : GoodIn wsX3_stream (wsV RX3 70 RX1 yX1_refresh wsX1_refresh) := goodIn_app (goodIn_of _ (by decide +kernel)) ggX3_stream_X1_refresh
theorem dX3_stream_0 : decode cX3_stream 0 = .ok (.aload_n 0, 1) := by decide +kernel
theorem dX3_stream_1 : decode cX3_stream 1 = .ok (.getfield 10, 3) := by decide +kernel
theorem dX3_stream_4 : decode cX3_stream 4 = .ok (.invokevirtual 70, 3) := by decide +kernel
theorem dX3_stream_7 : decode cX3_stream 7 = .ok (.iload_n 1, 1) := by decide +kernel
theorem dX3_stream_8 : decode cX3_stream 8 = .ok (.ifCond .lt 14, 3) := by decide +kernel
theorem dX3_stream_11 : decode cX3_stream 11 = .ok (.iload_n 1, 1) := by decide +kernel
theorem dX3_stream_12 : decode cX3_stream 12 = .ok (.aload_n 0, 1) := by decide +kernel
theorem dX3_stream_13 : decode cX3_stream 13 = .ok (.getfield 10, 3) := by decide +kernel
theorem dX3_stream_16 : decode cX3_stream 16 = .ok (.getfield 73, 3) := by decide +kernel
theorem dX3_stream_19 : decode cX3_stream 19 = .ok (.if_icmp .lt 11, 3) := by decide +kernel
theorem dX3_stream_22 : decode cX3_stream 22 = .ok (.new 48, 3) := by decide +kernel
theorem dX3_stream_25 : decode cX3_stream 25 = .ok (.dup, 1) := by decide +kernel
theorem dX3_stream_26 : decode cX3_stream 26 = .ok (.invokespecial 50, 3) := by decide +kernel
theorem dX3_stream_29 : decode cX3_stream 29 = .ok (.athrow, 1) := by decide +kernel
theorem dX3_stream_30 : decode cX3_stream 30 = .ok (.aload_n 0, 1) := by decide +kernel
theorem dX3_stream_31 : decode cX3_stream 31 = .ok (.getfield 10, 3) := by decide +kernel
theorem dX3_stream_34 : decode cX3_stream 34 = .ok (.getfield 76, 3) := by decide +kernel
theorem dX3_stream_37 : decode cX3_stream 37 = .ok (.iload_n 1, 1) := by decide +kernel
theorem dX3_stream_38 : decode cX3_stream 38 = .ok (.iaload, 1) := by decide +kernel
theorem dX3_stream_39 : decode cX3_stream 39 = .ok (.ireturn, 1) := by decide +kernel
set_option maxRecDepth 20000 in
theorem ggX3_gap_X1_refresh : GoodIn wsX3_gap wsX1_refresh := goodIn_r _ [7, 8, 9, 10, 11, 12, 13, 14, 15, 16, 17, 6, 18, 19, 20, 21, 22, 23, 24, 25, 26, 27, 28, 29, 30, 31, 32, 33, 34, 35, 36, 37, 38, 39, 40, 41, 42, 46, 47, 48, 49, 50, 51, 52, 53, 54, 55, 56, 57, 58, 59, 60] (by decide +kernel) (by decide +kernel)
set_option maxRecDepth 20000 in
theorem gX3_gap_X1_refresh : GoodIn wsX3_gap (wsV RX3 70 RX1 yX1_refresh wsX1_refresh) := goodIn_app (goodIn_of _ (by decide +kernel)) ggX3_gap_X1_refresh
theorem dX3_gap_0 : decode cX3_gap 0 = .ok (.aload_n 0, 1) := by decide +kernel
theorem dX3_gap_1 : decode cX3_gap 1 = .ok (.getfield 10, 3) := by decide +kernel
theorem dX3_gap_4 : decode cX3_gap 4 = .ok (.invokevirtual 70, 3) := by decide +kernel
theorem dX3_gap_7 : decode cX3_gap 7 = .ok (.aload_n 0, 1) := by decide +kernel
theorem dX3_gap_8 : decode cX3_gap 8 = .ok (.getfield 10, 3) := by decide +kernel
theorem dX3_gap_11 : decode cX3_gap 11 = .ok (.getfield 79, 3) := by decide +kernel
theorem dX3_gap_14 : decode cX3_gap 14 = .ok (.ireturn, 1) := by decide +kernel
set_option maxRecDepth 20000 in
theorem ggX3_unpack_X2_openAsStream : GoodIn wsX3_unpack wsX2_openAsStream := goodIn_ca (goodIn_ca (goodIn_ca (goodIn_ca (goodIn_r _ [7, 8, 9, 10, 11, 12, 13, 14, 15, 16, 17, 18, 19, 20, 21, 6, 22, 23, 24, 25, 26, 27, 28, 29, 30, 31, 32, 33, 34, 35, 39, 40, 41, 42, 43, 44] (by decide +kernel) (by decide +kernel)) (goodIn_sub (fun _ h => List.mem_cons_of_mem _ (List.mem_append_left _ (List.mem_append_left _ (List.mem_append_left _ (List.mem_append_right _ h))))) (by decide +kernel))) (goodIn_sub (fun _ h => List.mem_cons_of_mem _ (List.mem_append_left _ (List.mem_append_left _ (List.mem_append_right _ h)))) (by decide +kernel))) (goodIn_sub (fun _ h => List.mem_cons_of_mem _ (List.mem_append_left _ (List.mem_append_right _ h))) (by decide +kernel))) (goodIn_sub (fun _ h => List.mem_cons_of_mem _ (List.mem_append_right _ h)) (by decide +kernel))
set_option maxRecDepth 20000 in
theorem gX3_unpack_X2_openAsStream : GoodIn wsX3_unpack (wsV RX3 82 RX2 yX2_openAsStream wsX2_openAsStream) := goodIn_app (goodIn_of _ (by decide +kernel)) ggX3_unpack_X2_openAsStream
theorem dX3_unpack_0 : decode cX3_unpack 0 = .ok (.aload_n 0, 1) := by decide +kernel
theorem dX3_unpack_1 : decode cX3_unpack 1 = .ok (.getfield 20, 3) := by decide +kernel
theorem dX3_unpack_4 : decode cX3_unpack 4 = .ok (.invokevirtual 82, 3) := by decide +kernel
theorem dX3_unpack_7 : decode cX3_unpack 7 = .ok (.aload_n 0, 1) := by decide +kernel
theorem dX3_unpack_8 : decode cX3_unpack 8 = .ok (.getfield 20, 3) := by decide +kernel
theorem dX3_unpack_11 : decode cX3_unpack 11 = .ok (.getfield 40, 3) := by decide +kernel
theorem dX3_unpack_14 : decode cX3_unpack 14 = .ok (.ireturn, 1) := by decide +kernel
set_option maxRecDepth 20000 in
theorem ggX3_load_X2_fits : GoodIn wsX3_load wsX2_fits := goodIn_r _ [13, 14, 15, 38, 39, 40, 41, 42, 43] (by decide +kernel) (by decide +kernel)
set_option maxRecDepth 20000 in
theorem gX3_load_X2_fits : GoodIn wsX3_load (wsV RX3 85 RX2 yX2_fits wsX2_fits) := goodIn_app (goodIn_of _ (by decide +kernel)) ggX3_load_X2_fits
set_option maxRecDepth 20000 in
theorem ggX3_load_X0_clear : GoodIn wsX3_load wsX0_clear := goodIn_r _ [20, 21, 22, 23, 24, 25, 26, 44, 45, 46, 47, 48, 49, 50] (by decide +kernel) (by decide +kernel)
set_option maxRecDepth 20000 in
theorem gX3_load_X0_clear : GoodIn wsX3_load (wsV RX3 92 RX0 yX0_clear wsX0_clear) := goodIn_app (goodIn_of _ (by decide +kernel)) ggX3_load_X0_clear
set_option maxRecDepth 20000 in
theorem ggX3_load_X0_write : GoodIn wsX3_load wsX0_write := goodIn_r _ [30, 21, 31, 32, 33, 34, 44, 45, 46, 47, 48, 49, 50] (by decide +kernel) (by decide +kernel)
set_option maxRecDepth 20000 in
theorem gX3_load_X0_write : GoodIn wsX3_load (wsV RX3 95 RX0 yX0_write wsX0_write) := goodIn_app (goodIn_of _ (by decide +kernel)) ggX3_load_X0_write
theorem dX3_load_0 : decode cX3_load 0 = .ok (.aload_n 0, 1) := by decide +kernel
theorem dX3_load_1 : decode cX3_load 1 = .ok (.getfield 20, 3) := by decide +kernel
theorem dX3_load_4 : decode cX3_load 4 = .ok (.invokevirtual 85, 3) := by decide +kernel
theorem dX3_load_7 : decode cX3_load 7 = .ok (.ifCond .ne 11, 3) := by decide +kernel
theorem dX3_load_10 : decode cX3_load 10 = .ok (.new 89, 3) := by decide +kernel
theorem dX3_load_13 : decode cX3_load 13 = .ok (.dup, 1) := by decide +kernel
theorem dX3_load_14 : decode cX3_load 14 = .ok (.invokespecial 91, 3) := by decide +kernel
theorem dX3_load_17 : decode cX3_load 17 = .ok (.athrow, 1) := by decide +kernel
theorem dX3_load_18 : decode cX3_load 18 = .ok (.aload_n 0, 1) := by decide +kernel
theorem dX3_load_19 : decode cX3_load 19 = .ok (.getfield 24, 3) := by decide +kernel
theorem dX3_load_22 : decode cX3_load 22 = .ok (.aload_n 0, 1) := by decide +kernel
theorem dX3_load_23 : decode cX3_load 23 = .ok (.getfield 20, 3) := by decide +kernel
theorem dX3_load_26 : decode cX3_load 26 = .ok (.getfield 67, 3) := by decide +kernel
theorem dX3_load_29 : decode cX3_load 29 = .ok (.invokevirtual 92, 3) := by decide +kernel
theorem dX3_load_32 : decode cX3_load 32 = .ok (.aload_n 0, 1) := by decide +kernel
theorem dX3_load_33 : decode cX3_load 33 = .ok (.getfield 24, 3) := by decide +kernel
theorem dX3_load_36 : decode cX3_load 36 = .ok (.aload_n 0, 1) := by decide +kernel
theorem dX3_load_37 : decode cX3_load 37 = .ok (.getfield 20, 3) := by decide +kernel
theorem dX3_load_40 : decode cX3_load 40 = .ok (.getfield 64, 3) := by decide +kernel
theorem dX3_load_43 : decode cX3_load 43 = .ok (.aload_n 0, 1) := by decide +kernel
theorem dX3_load_44 : decode cX3_load 44 = .ok (.getfield 20, 3) := by decide +kernel
theorem dX3_load_47 : decode cX3_load 47 = .ok (.getfield 44, 3) := by decide +kernel
theorem dX3_load_50 : decode cX3_load 50 = .ok (.aload_n 0, 1) := by decide +kernel
theorem dX3_load_51 : decode cX3_load 51 = .ok (.getfield 20, 3) := by decide +kernel
theorem dX3_load_54 : decode cX3_load 54 = .ok (.getfield 40, 3) := by decide +kernel
theorem dX3_load_57 : decode cX3_load 57 = .ok (.invokevirtual 95, 3) := by decide +kernel
theorem dX3_load_60 : decode cX3_load 60 = .ok (.return_, 1) := by decide +kernel
set_option maxRecDepth 20000 in
theorem ggX3_loadPacked_X1_refresh : GoodIn wsX3_loadPacked wsX1_refresh := goodIn_r _ [14, 15, 16, 17, 18, 19, 20, 21, 22, 23, 24, 13, 25, 26, 27, 28, 29, 30, 31, 32, 33, 34, 35, 36, 37, 38, 39, 40, 41, 42, 43, 44, 45, 46, 47, 48, 49, 89, 90, 91, 92, 93, 94, 95, 96, 97, 98, 99, 100, 101, 102, 103] (by decide +kernel) (by decide +kernel)
set_option maxRecDepth 20000 in
theorem gX3_loadPacked_X1_refresh : GoodIn wsX3_loadPacked (wsV RX3 70 RX1 yX1_refresh wsX1_refresh) := goodIn_app (goodIn_of _ (by decide +kernel)) ggX3_loadPacked_X1_refresh
set_option maxRecDepth 20000 in
theorem ggX3_loadPacked_X1_fits : GoodIn wsX3_loadPacked wsX1_fits := goodIn_r _ [53, 54, 55, 56, 13, 57, 58, 59, 60, 61, 16, 62, 18, 44, 89, 90, 91, 92, 93, 94, 95, 96, 97, 98, 99, 100, 101, 102, 103] (by decide +kernel) (by decide +kernel)
set_option maxRecDepth 20000 in
theorem gX3_loadPacked_X1_fits : GoodIn wsX3_loadPacked (wsV RX3 99 RX1 yX1_fits wsX1_fits) := goodIn_app (goodIn_of _ (by decide +kernel)) ggX3_loadPacked_X1_fits
set_option maxRecDepth 20000 in
theorem ggX3_loadPacked_X1_stubAddress : GoodIn wsX3_loadPacked wsX1_stubAddress := goodIn_r _ [61, 16, 62, 18, 44, 89, 90, 91, 92, 93, 94, 95, 96, 97, 98, 99, 100, 101, 102, 103] (by decide +kernel) (by decide +kernel)
set_option maxRecDepth 20000 in
theorem gX3_loadPacked_X1_stubAddress : GoodIn wsX3_loadPacked (wsV RX3 103 RX1 yX1_stubAddress wsX1_stubAddress) := goodIn_app (goodIn_of _ (by decide +kernel)) ggX3_loadPacked_X1_stubAddress
set_option maxRecDepth 20000 in
theorem ggX3_loadPacked_X0_clear : GoodIn wsX3_loadPacked wsX0_clear := goodIn_r _ [68, 69, 70, 71, 72, 73, 74, 104, 105, 106, 107, 108, 109, 110] (by decide +kernel) (by decide +kernel)
set_option maxRecDepth 20000 in
theorem gX3_loadPacked_X0_clear : GoodIn wsX3_loadPacked (wsV RX3 92 RX0 yX0_clear wsX0_clear) := goodIn_app (goodIn_of _ (by decide +kernel)) ggX3_loadPacked_X0_clear
set_option maxRecDepth 20000 in
theorem ggX3_loadPacked_X0_write : GoodIn wsX3_loadPacked wsX0_write := goodIn_r _ [78, 69, 79, 47, 48, 49, 104, 105, 106, 107, 108, 109, 110] (by decide +kernel) (by decide +kernel)
set_option maxRecDepth 20000 in
theorem gX3_loadPacked_X0_write : GoodIn wsX3_loadPacked (wsV RX3 95 RX0 yX0_write wsX0_write) := goodIn_app (goodIn_of _ (by decide +kernel)) ggX3_loadPacked_X0_write
set_option maxRecDepth 20000 in
theorem ggX3_loadPacked_X0_writeStub : GoodIn wsX3_loadPacked wsX0_writeStub := goodIn_r _ [83, 84, 69, 104, 105, 106, 107, 108, 109, 110] (by decide +kernel) (by decide +kernel)
set_option maxRecDepth 20000 in
theorem gX3_loadPacked_X0_writeStub : GoodIn wsX3_loadPacked (wsV RX3 107 RX0 yX0_writeStub wsX0_writeStub) := goodIn_app (goodIn_of _ (by decide +kernel)) ggX3_loadPacked_X0_writeStub
set_option maxRecDepth 20000 in
theorem ggX3_loadPacked_X1_layoutEnd : GoodIn wsX3_loadPacked wsX1_layoutEnd := goodIn_r _ [57, 58, 59, 60, 13, 61, 16, 62, 18, 44, 89, 90, 91, 92, 93, 94, 95, 96, 97, 98, 99, 100, 101, 102, 103] (by decide +kernel) (by decide +kernel)
set_option maxRecDepth 20000 in
theorem gX3_loadPacked_X1_layoutEnd : GoodIn wsX3_loadPacked (wsV RX3 111 RX1 yX1_layoutEnd wsX1_layoutEnd) := goodIn_app (goodIn_of _ (by decide +kernel)) ggX3_loadPacked_X1_layoutEnd
theorem dX3_loadPacked_0 : decode cX3_loadPacked 0 = .ok (.aload_n 0, 1) := by decide +kernel
theorem dX3_loadPacked_1 : decode cX3_loadPacked 1 = .ok (.getfield 10, 3) := by decide +kernel
theorem dX3_loadPacked_4 : decode cX3_loadPacked 4 = .ok (.invokevirtual 70, 3) := by decide +kernel
theorem dX3_loadPacked_7 : decode cX3_loadPacked 7 = .ok (.aload_n 0, 1) := by decide +kernel
theorem dX3_loadPacked_8 : decode cX3_loadPacked 8 = .ok (.getfield 10, 3) := by decide +kernel
theorem dX3_loadPacked_11 : decode cX3_loadPacked 11 = .ok (.invokevirtual 99, 3) := by decide +kernel
theorem dX3_loadPacked_14 : decode cX3_loadPacked 14 = .ok (.ifCond .ne 11, 3) := by decide +kernel
theorem dX3_loadPacked_17 : decode cX3_loadPacked 17 = .ok (.new 100, 3) := by decide +kernel
theorem dX3_loadPacked_20 : decode cX3_loadPacked 20 = .ok (.dup, 1) := by decide +kernel
theorem dX3_loadPacked_21 : decode cX3_loadPacked 21 = .ok (.invokespecial 102, 3) := by decide +kernel
theorem dX3_loadPacked_24 : decode cX3_loadPacked 24 = .ok (.athrow, 1) := by decide +kernel
theorem dX3_loadPacked_25 : decode cX3_loadPacked 25 = .ok (.aload_n 0, 1) := by decide +kernel
theorem dX3_loadPacked_26 : decode cX3_loadPacked 26 = .ok (.getfield 10, 3) := by decide +kernel
theorem dX3_loadPacked_29 : decode cX3_loadPacked 29 = .ok (.invokevirtual 103, 3) := by decide +kernel
theorem dX3_loadPacked_32 : decode cX3_loadPacked 32 = .ok (.istore_n 1, 1) := by decide +kernel
theorem dX3_loadPacked_33 : decode cX3_loadPacked 33 = .ok (.iload_n 1, 1) := by decide +kernel
theorem dX3_loadPacked_34 : decode cX3_loadPacked 34 = .ok (.aload_n 0, 1) := by decide +kernel
theorem dX3_loadPacked_35 : decode cX3_loadPacked 35 = .ok (.getfield 10, 3) := by decide +kernel
theorem dX3_loadPacked_38 : decode cX3_loadPacked 38 = .ok (.getfield 73, 3) := by decide +kernel
theorem dX3_loadPacked_41 : decode cX3_loadPacked 41 = .ok (.isub, 1) := by decide +kernel
theorem dX3_loadPacked_42 : decode cX3_loadPacked 42 = .ok (.istore_n 2, 1) := by decide +kernel
theorem dX3_loadPacked_43 : decode cX3_loadPacked 43 = .ok (.aload_n 0, 1) := by decide +kernel
theorem dX3_loadPacked_44 : decode cX3_loadPacked 44 = .ok (.getfield 24, 3) := by decide +kernel
theorem dX3_loadPacked_47 : decode cX3_loadPacked 47 = .ok (.iload_n 1, 1) := by decide +kernel
theorem dX3_loadPacked_48 : decode cX3_loadPacked 48 = .ok (.invokevirtual 92, 3) := by decide +kernel
theorem dX3_loadPacked_51 : decode cX3_loadPacked 51 = .ok (.aload_n 0, 1) := by decide +kernel
theorem dX3_loadPacked_52 : decode cX3_loadPacked 52 = .ok (.getfield 24, 3) := by decide +kernel
theorem dX3_loadPacked_55 : decode cX3_loadPacked 55 = .ok (.iload_n 2, 1) := by decide +kernel
theorem dX3_loadPacked_56 : decode cX3_loadPacked 56 = .ok (.aload_n 0, 1) := by decide +kernel
theorem dX3_loadPacked_57 : decode cX3_loadPacked 57 = .ok (.getfield 10, 3) := by decide +kernel
theorem dX3_loadPacked_60 : decode cX3_loadPacked 60 = .ok (.getfield 76, 3) := by decide +kernel
theorem dX3_loadPacked_63 : decode cX3_loadPacked 63 = .ok (.aload_n 0, 1) := by decide +kernel
theorem dX3_loadPacked_64 : decode cX3_loadPacked 64 = .ok (.getfield 10, 3) := by decide +kernel
theorem dX3_loadPacked_67 : decode cX3_loadPacked 67 = .ok (.getfield 73, 3) := by decide +kernel
theorem dX3_loadPacked_70 : decode cX3_loadPacked 70 = .ok (.invokevirtual 95, 3) := by decide +kernel
theorem dX3_loadPacked_73 : decode cX3_loadPacked 73 = .ok (.aload_n 0, 1) := by decide +kernel
theorem dX3_loadPacked_74 : decode cX3_loadPacked 74 = .ok (.getfield 24, 3) := by decide +kernel
theorem dX3_loadPacked_77 : decode cX3_loadPacked 77 = .ok (.iload_n 1, 1) := by decide +kernel
theorem dX3_loadPacked_78 : decode cX3_loadPacked 78 = .ok (.iload_n 2, 1) := by decide +kernel
theorem dX3_loadPacked_79 : decode cX3_loadPacked 79 = .ok (.aload_n 0, 1) := by decide +kernel
theorem dX3_loadPacked_80 : decode cX3_loadPacked 80 = .ok (.getfield 20, 3) := by decide +kernel
theorem dX3_loadPacked_83 : decode cX3_loadPacked 83 = .ok (.getfield 64, 3) := by decide +kernel
theorem dX3_loadPacked_86 : decode cX3_loadPacked 86 = .ok (.aload_n 0, 1) := by decide +kernel
theorem dX3_loadPacked_87 : decode cX3_loadPacked 87 = .ok (.getfield 20, 3) := by decide +kernel
theorem dX3_loadPacked_90 : decode cX3_loadPacked 90 = .ok (.getfield 67, 3) := by decide +kernel
theorem dX3_loadPacked_93 : decode cX3_loadPacked 93 = .ok (.invokevirtual 107, 3) := by decide +kernel
theorem dX3_loadPacked_96 : decode cX3_loadPacked 96 = .ok (.aload_n 0, 1) := by decide +kernel
theorem dX3_loadPacked_97 : decode cX3_loadPacked 97 = .ok (.getfield 10, 3) := by decide +kernel
theorem dX3_loadPacked_100 : decode cX3_loadPacked 100 = .ok (.invokevirtual 111, 3) := by decide +kernel
theorem dX3_loadPacked_103 : decode cX3_loadPacked 103 = .ok (.aload_n 0, 1) := by decide +kernel
theorem dX3_loadPacked_104 : decode cX3_loadPacked 104 = .ok (.getfield 20, 3) := by decide +kernel
theorem dX3_loadPacked_107 : decode cX3_loadPacked 107 = .ok (.getfield 64, 3) := by decide +kernel
theorem dX3_loadPacked_110 : decode cX3_loadPacked 110 = .ok (.isub, 1) := by decide +kernel
theorem dX3_loadPacked_111 : decode cX3_loadPacked 111 = .ok (.ireturn, 1) := by decide +kernel
set_option maxRecDepth 20000 in
theorem ggX3_run_X0_runs : GoodIn wsX3_run wsX0_runs := goodIn_r _ [9, 10, 36, 37, 38, 39, 40, 41, 42] (by decide +kernel) (by decide +kernel)
set_option maxRecDepth 20000 in
theorem gX3_run_X0_runs : GoodIn wsX3_run (wsV RX3 114 RX0 yX0_runs wsX0_runs) := goodIn_app (goodIn_of _ (by decide +kernel)) ggX3_run_X0_runs
set_option maxRecDepth 20000 in
theorem ggX3_run_X0_step : GoodIn wsX3_run wsX0_step := goodIn_r _ [14, 15, 16, 17, 18, 19, 20, 8, 21, 22, 10, 23, 24, 25, 26, 27, 28, 29, 30, 31, 32, 36, 37, 38, 39, 40, 41, 42] (by decide +kernel) (by decide +kernel)
set_option maxRecDepth 20000 in
theorem gX3_run_X0_step : GoodIn wsX3_run (wsV RX3 120 RX0 yX0_step wsX0_step) := goodIn_app (goodIn_of _ (by decide +kernel)) ggX3_run_X0_step
theorem dX3_run_0 : decode cX3_run 0 = .ok (.iload_n 1, 1) := by decide +kernel
theorem dX3_run_1 : decode cX3_run 1 = .ok (.ifCond .lt 22, 3) := by decide +kernel
theorem dX3_run_4 : decode cX3_run 4 = .ok (.iload_n 1, 1) := by decide +kernel
theorem dX3_run_5 : decode cX3_run 5 = .ok (.sipush 4000, 3) := by decide +kernel
theorem dX3_run_8 : decode cX3_run 8 = .ok (.if_icmp .gt 15, 3) := by decide +kernel
theorem dX3_run_11 : decode cX3_run 11 = .ok (.iload_n 2, 1) := by decide +kernel
theorem dX3_run_12 : decode cX3_run 12 = .ok (.iconst (-1), 1) := by decide +kernel
theorem dX3_run_13 : decode cX3_run 13 = .ok (.if_icmp .lt 10, 3) := by decide +kernel
theorem dX3_run_16 : decode cX3_run 16 = .ok (.iload_n 2, 1) := by decide +kernel
theorem dX3_run_17 : decode cX3_run 17 = .ok (.sipush 255, 3) := by decide +kernel
theorem dX3_run_20 : decode cX3_run 20 = .ok (.if_icmp .le 11, 3) := by decide +kernel
theorem dX3_run_23 : decode cX3_run 23 = .ok (.new 54, 3) := by decide +kernel
theorem dX3_run_26 : decode cX3_run 26 = .ok (.dup, 1) := by decide +kernel
theorem dX3_run_27 : decode cX3_run 27 = .ok (.invokespecial 56, 3) := by decide +kernel
theorem dX3_run_30 : decode cX3_run 30 = .ok (.athrow, 1) := by decide +kernel
theorem dX3_run_31 : decode cX3_run 31 = .ok (.iconst 0, 1) := by decide +kernel
theorem dX3_run_32 : decode cX3_run 32 = .ok (.istore_n 3, 1) := by decide +kernel
theorem dX3_run_33 : decode cX3_run 33 = .ok (.iload_n 3, 1) := by decide +kernel
theorem dX3_run_34 : decode cX3_run 34 = .ok (.iload_n 1, 1) := by decide +kernel
theorem dX3_run_35 : decode cX3_run 35 = .ok (.if_icmp .ge 37, 3) := by decide +kernel
theorem dX3_run_38 : decode cX3_run 38 = .ok (.aload_n 0, 1) := by decide +kernel
theorem dX3_run_39 : decode cX3_run 39 = .ok (.getfield 24, 3) := by decide +kernel
theorem dX3_run_42 : decode cX3_run 42 = .ok (.invokevirtual 114, 3) := by decide +kernel
theorem dX3_run_45 : decode cX3_run 45 = .ok (.ifCond .eq 27, 3) := by decide +kernel
theorem dX3_run_48 : decode cX3_run 48 = .ok (.aload_n 0, 1) := by decide +kernel
theorem dX3_run_49 : decode cX3_run 49 = .ok (.getfield 24, 3) := by decide +kernel
theorem dX3_run_52 : decode cX3_run 52 = .ok (.getfield 117, 3) := by decide +kernel
theorem dX3_run_55 : decode cX3_run 55 = .ok (.iload_n 2, 1) := by decide +kernel
theorem dX3_run_56 : decode cX3_run 56 = .ok (.if_icmp .eq 16, 3) := by decide +kernel
theorem dX3_run_59 : decode cX3_run 59 = .ok (.aload_n 0, 1) := by decide +kernel
theorem dX3_run_60 : decode cX3_run 60 = .ok (.getfield 24, 3) := by decide +kernel
theorem dX3_run_63 : decode cX3_run 63 = .ok (.invokevirtual 120, 3) := by decide +kernel
theorem dX3_run_66 : decode cX3_run 66 = .ok (.iinc 3 1, 3) := by decide +kernel
theorem dX3_run_69 : decode cX3_run 69 = .ok (.goto (-36), 3) := by decide +kernel
theorem dX3_run_72 : decode cX3_run 72 = .ok (.iload_n 3, 1) := by decide +kernel
theorem dX3_run_73 : decode cX3_run 73 = .ok (.ireturn, 1) := by decide +kernel
theorem dX3_look_0 : decode cX3_look 0 = .ok (.iload_n 1, 1) := by decide +kernel
theorem dX3_look_1 : decode cX3_look 1 = .ok (.ifCond .lt 19, 3) := by decide +kernel
theorem dX3_look_4 : decode cX3_look 4 = .ok (.iload_n 1, 1) := by decide +kernel
theorem dX3_look_5 : decode cX3_look 5 = .ok (.bipush 8, 2) := by decide +kernel
theorem dX3_look_7 : decode cX3_look 7 = .ok (.if_icmp .ge 13, 3) := by decide +kernel
theorem dX3_look_10 : decode cX3_look 10 = .ok (.aload_n 0, 1) := by decide +kernel
theorem dX3_look_11 : decode cX3_look 11 = .ok (.getfield 24, 3) := by decide +kernel
theorem dX3_look_14 : decode cX3_look 14 = .ok (.getfield 123, 3) := by decide +kernel
theorem dX3_look_17 : decode cX3_look 17 = .ok (.iload_n 1, 1) := by decide +kernel
theorem dX3_look_18 : decode cX3_look 18 = .ok (.iaload, 1) := by decide +kernel
theorem dX3_look_19 : decode cX3_look 19 = .ok (.ireturn, 1) := by decide +kernel
theorem dX3_look_20 : decode cX3_look 20 = .ok (.iload_n 1, 1) := by decide +kernel
theorem dX3_look_21 : decode cX3_look 21 = .ok (.tableswitch 63 8 11 #[31, 39, 47, 55], 31) := by decide +kernel
theorem dX3_look_52 : decode cX3_look 52 = .ok (.aload_n 0, 1) := by decide +kernel
theorem dX3_look_53 : decode cX3_look 53 = .ok (.getfield 24, 3) := by decide +kernel
theorem dX3_look_56 : decode cX3_look 56 = .ok (.getfield 117, 3) := by decide +kernel
theorem dX3_look_59 : decode cX3_look 59 = .ok (.ireturn, 1) := by decide +kernel
theorem dX3_look_60 : decode cX3_look 60 = .ok (.aload_n 0, 1) := by decide +kernel
theorem dX3_look_61 : decode cX3_look 61 = .ok (.getfield 24, 3) := by decide +kernel
theorem dX3_look_64 : decode cX3_look 64 = .ok (.getfield 126, 3) := by decide +kernel
theorem dX3_look_67 : decode cX3_look 67 = .ok (.ireturn, 1) := by decide +kernel
theorem dX3_look_68 : decode cX3_look 68 = .ok (.aload_n 0, 1) := by decide +kernel
theorem dX3_look_69 : decode cX3_look 69 = .ok (.getfield 24, 3) := by decide +kernel
theorem dX3_look_72 : decode cX3_look 72 = .ok (.getfield 129, 3) := by decide +kernel
theorem dX3_look_75 : decode cX3_look 75 = .ok (.ireturn, 1) := by decide +kernel
theorem dX3_look_76 : decode cX3_look 76 = .ok (.aload_n 0, 1) := by decide +kernel
theorem dX3_look_77 : decode cX3_look 77 = .ok (.getfield 24, 3) := by decide +kernel
theorem dX3_look_80 : decode cX3_look 80 = .ok (.getfield 132, 3) := by decide +kernel
theorem dX3_look_83 : decode cX3_look 83 = .ok (.ireturn, 1) := by decide +kernel
theorem dX3_look_84 : decode cX3_look 84 = .ok (.new 48, 3) := by decide +kernel
theorem dX3_look_87 : decode cX3_look 87 = .ok (.dup, 1) := by decide +kernel
theorem dX3_look_88 : decode cX3_look 88 = .ok (.invokespecial 50, 3) := by decide +kernel
theorem dX3_look_91 : decode cX3_look 91 = .ok (.athrow, 1) := by decide +kernel
end
section
set_option maxRecDepth 20000 in
theorem ggX3_memory_X3_isByte : GoodIn wsX3_memory wsX3_isByte := goodIn_r _ [8] (by decide +kernel) (by decide +kernel)
set_option maxRecDepth 20000 in
theorem gX3_memory_X3_isByte : GoodIn wsX3_memory (va_wsS RX3 51 yX3_isByte wsX3_isByte) := goodIn_app (goodIn_of _ (by decide +kernel)) ggX3_memory_X3_isByte
theorem dX3_memory_0 : decode cX3_memory 0 = .ok (.iload_n 1, 1) := by decide +kernel
theorem dX3_memory_1 : decode cX3_memory 1 = .ok (.invokestatic 51, 3) := by decide +kernel
theorem dX3_memory_4 : decode cX3_memory 4 = .ok (.ifCond .ne 11, 3) := by decide +kernel
theorem dX3_memory_7 : decode cX3_memory 7 = .ok (.new 48, 3) := by decide +kernel
theorem dX3_memory_10 : decode cX3_memory 10 = .ok (.dup, 1) := by decide +kernel
theorem dX3_memory_11 : decode cX3_memory 11 = .ok (.invokespecial 50, 3) := by decide +kernel
theorem dX3_memory_14 : decode cX3_memory 14 = .ok (.athrow, 1) := by decide +kernel
theorem dX3_memory_15 : decode cX3_memory 15 = .ok (.aload_n 0, 1) := by decide +kernel
theorem dX3_memory_16 : decode cX3_memory 16 = .ok (.getfield 24, 3) := by decide +kernel
theorem dX3_memory_19 : decode cX3_memory 19 = .ok (.getfield 135, 3) := by decide +kernel
theorem dX3_memory_22 : decode cX3_memory 22 = .ok (.iload_n 1, 1) := by decide +kernel
theorem dX3_memory_23 : decode cX3_memory 23 = .ok (.iaload, 1) := by decide +kernel
theorem dX3_memory_24 : decode cX3_memory 24 = .ok (.ireturn, 1) := by decide +kernel
set_option maxRecDepth 20000 in
theorem ggX3_out_X0_keeps : GoodIn wsX3_out wsX0_keeps := goodIn_r _ [9, 10, 14, 15, 16, 17, 18, 19, 20] (by decide +kernel) (by decide +kernel)
set_option maxRecDepth 20000 in
theorem gX3_out_X0_keeps : GoodIn wsX3_out (wsV RX3 138 RX0 yX0_keeps wsX0_keeps) := goodIn_app (goodIn_of _ (by decide +kernel)) ggX3_out_X0_keeps
theorem dX3_out_0 : decode cX3_out 0 = .ok (.aload_n 0, 1) := by decide +kernel
theorem dX3_out_1 : decode cX3_out 1 = .ok (.getfield 24, 3) := by decide +kernel
theorem dX3_out_4 : decode cX3_out 4 = .ok (.iload_n 1, 1) := by decide +kernel
theorem dX3_out_5 : decode cX3_out 5 = .ok (.invokevirtual 138, 3) := by decide +kernel
theorem dX3_out_8 : decode cX3_out 8 = .ok (.ifCond .ne 11, 3) := by decide +kernel
theorem dX3_out_11 : decode cX3_out 11 = .ok (.new 48, 3) := by decide +kernel
theorem dX3_out_14 : decode cX3_out 14 = .ok (.dup, 1) := by decide +kernel
theorem dX3_out_15 : decode cX3_out 15 = .ok (.invokespecial 50, 3) := by decide +kernel
theorem dX3_out_18 : decode cX3_out 18 = .ok (.athrow, 1) := by decide +kernel
theorem dX3_out_19 : decode cX3_out 19 = .ok (.aload_n 0, 1) := by decide +kernel
theorem dX3_out_20 : decode cX3_out 20 = .ok (.getfield 24, 3) := by decide +kernel
theorem dX3_out_23 : decode cX3_out 23 = .ok (.getfield 141, 3) := by decide +kernel
theorem dX3_out_26 : decode cX3_out 26 = .ok (.iload_n 1, 1) := by decide +kernel
theorem dX3_out_27 : decode cX3_out 27 = .ok (.bipush 32, 2) := by decide +kernel
theorem dX3_out_29 : decode cX3_out 29 = .ok (.irem, 1) := by decide +kernel
theorem dX3_out_30 : decode cX3_out 30 = .ok (.iaload, 1) := by decide +kernel
theorem dX3_out_31 : decode cX3_out 31 = .ok (.ireturn, 1) := by decide +kernel
set_option maxRecDepth 20000 in
theorem ggX3_apart_X2_fits : GoodIn wsX3_apart wsX2_fits := goodIn_r _ [15, 16, 17, 80, 81, 82, 83, 84, 85] (by decide +kernel) (by decide +kernel)
set_option maxRecDepth 20000 in
theorem gX3_apart_X2_fits : GoodIn wsX3_apart (wsV RX3 85 RX2 yX2_fits wsX2_fits) := goodIn_app (goodIn_of _ (by decide +kernel)) ggX3_apart_X2_fits
set_option maxRecDepth 20000 in
theorem ggX3_apart_X1_refresh : GoodIn wsX3_apart wsX1_refresh := goodIn_r _ [22, 23, 24, 25, 26, 27, 28, 29, 30, 31, 32, 21, 33, 34, 35, 36, 37, 38, 39, 40, 41, 42, 43, 44, 45, 46, 47, 48, 49, 50, 51, 52, 53, 54, 55, 56, 57, 93, 94, 95, 96, 97, 98, 99, 100, 101, 80, 81, 82, 83, 84, 85] (by decide +kernel) (by decide +kernel)
set_option maxRecDepth 20000 in
theorem gX3_apart_X1_refresh : GoodIn wsX3_apart (wsV RX3 70 RX1 yX1_refresh wsX1_refresh) := goodIn_app (goodIn_of _ (by decide +kernel)) ggX3_apart_X1_refresh
set_option maxRecDepth 20000 in
theorem ggX3_apart_X1_fits : GoodIn wsX3_apart wsX1_fits := goodIn_r _ [61, 62, 63, 64, 21, 65, 66, 67, 68, 69, 24, 70, 26, 52, 93, 94, 95, 96, 97, 98, 99, 100, 101, 80, 81, 82, 83, 84, 85] (by decide +kernel) (by decide +kernel)
set_option maxRecDepth 20000 in
theorem gX3_apart_X1_fits : GoodIn wsX3_apart (wsV RX3 99 RX1 yX1_fits wsX1_fits) := goodIn_app (goodIn_of _ (by decide +kernel)) ggX3_apart_X1_fits
set_option maxRecDepth 20000 in
theorem ggX3_apart_X1_layoutEnd : GoodIn wsX3_apart wsX1_layoutEnd := goodIn_r _ [65, 66, 67, 68, 21, 69, 24, 70, 26, 52, 93, 94, 95, 96, 97, 98, 99, 100, 101, 80, 81, 82, 83, 84, 85] (by decide +kernel) (by decide +kernel)
set_option maxRecDepth 20000 in
theorem gX3_apart_X1_layoutEnd : GoodIn wsX3_apart (wsV RX3 111 RX1 yX1_layoutEnd wsX1_layoutEnd) := goodIn_app (goodIn_of _ (by decide +kernel)) ggX3_apart_X1_layoutEnd
set_option maxRecDepth 20000 in
theorem ggX3_apart_X2_loadedAt : GoodIn wsX3_apart wsX2_loadedAt := goodIn_r _ [75, 16, 17, 76, 80, 81, 82, 83, 84, 85] (by decide +kernel) (by decide +kernel)
set_option maxRecDepth 20000 in
theorem gX3_apart_X2_loadedAt : GoodIn wsX3_apart (wsV RX3 144 RX2 yX2_loadedAt wsX2_loadedAt) := goodIn_app (goodIn_of _ (by decide +kernel)) ggX3_apart_X2_loadedAt
theorem dX3_apart_0 : decode cX3_apart 0 = .ok (.aload_n 0, 1) := by decide +kernel
theorem dX3_apart_1 : decode cX3_apart 1 = .ok (.getfield 20, 3) := by decide +kernel
theorem dX3_apart_4 : decode cX3_apart 4 = .ok (.invokevirtual 85, 3) := by decide +kernel
theorem dX3_apart_7 : decode cX3_apart 7 = .ok (.ifCond .ne 11, 3) := by decide +kernel
theorem dX3_apart_10 : decode cX3_apart 10 = .ok (.new 89, 3) := by decide +kernel
theorem dX3_apart_13 : decode cX3_apart 13 = .ok (.dup, 1) := by decide +kernel
theorem dX3_apart_14 : decode cX3_apart 14 = .ok (.invokespecial 91, 3) := by decide +kernel
theorem dX3_apart_17 : decode cX3_apart 17 = .ok (.athrow, 1) := by decide +kernel
theorem dX3_apart_18 : decode cX3_apart 18 = .ok (.aload_n 0, 1) := by decide +kernel
theorem dX3_apart_19 : decode cX3_apart 19 = .ok (.getfield 10, 3) := by decide +kernel
theorem dX3_apart_22 : decode cX3_apart 22 = .ok (.invokevirtual 70, 3) := by decide +kernel
theorem dX3_apart_25 : decode cX3_apart 25 = .ok (.aload_n 0, 1) := by decide +kernel
theorem dX3_apart_26 : decode cX3_apart 26 = .ok (.getfield 10, 3) := by decide +kernel
theorem dX3_apart_29 : decode cX3_apart 29 = .ok (.invokevirtual 99, 3) := by decide +kernel
theorem dX3_apart_32 : decode cX3_apart 32 = .ok (.ifCond .ne 11, 3) := by decide +kernel
theorem dX3_apart_35 : decode cX3_apart 35 = .ok (.new 100, 3) := by decide +kernel
theorem dX3_apart_38 : decode cX3_apart 38 = .ok (.dup, 1) := by decide +kernel
theorem dX3_apart_39 : decode cX3_apart 39 = .ok (.invokespecial 102, 3) := by decide +kernel
theorem dX3_apart_42 : decode cX3_apart 42 = .ok (.athrow, 1) := by decide +kernel
theorem dX3_apart_43 : decode cX3_apart 43 = .ok (.aload_n 0, 1) := by decide +kernel
theorem dX3_apart_44 : decode cX3_apart 44 = .ok (.getfield 20, 3) := by decide +kernel
theorem dX3_apart_47 : decode cX3_apart 47 = .ok (.getfield 64, 3) := by decide +kernel
theorem dX3_apart_50 : decode cX3_apart 50 = .ok (.aload_n 0, 1) := by decide +kernel
theorem dX3_apart_51 : decode cX3_apart 51 = .ok (.getfield 20, 3) := by decide +kernel
theorem dX3_apart_54 : decode cX3_apart 54 = .ok (.getfield 40, 3) := by decide +kernel
theorem dX3_apart_57 : decode cX3_apart 57 = .ok (.iadd, 1) := by decide +kernel
theorem dX3_apart_58 : decode cX3_apart 58 = .ok (.istore_n 1, 1) := by decide +kernel
theorem dX3_apart_59 : decode cX3_apart 59 = .ok (.aload_n 0, 1) := by decide +kernel
theorem dX3_apart_60 : decode cX3_apart 60 = .ok (.getfield 10, 3) := by decide +kernel
theorem dX3_apart_63 : decode cX3_apart 63 = .ok (.invokevirtual 111, 3) := by decide +kernel
theorem dX3_apart_66 : decode cX3_apart 66 = .ok (.istore_n 2, 1) := by decide +kernel
theorem dX3_apart_67 : decode cX3_apart 67 = .ok (.iconst 0, 1) := by decide +kernel
theorem dX3_apart_68 : decode cX3_apart 68 = .ok (.istore_n 3, 1) := by decide +kernel
theorem dX3_apart_69 : decode cX3_apart 69 = .ok (.iconst 0, 1) := by decide +kernel
theorem dX3_apart_70 : decode cX3_apart 70 = .ok (.istore 4, 2) := by decide +kernel
theorem dX3_apart_72 : decode cX3_apart 72 = .ok (.iload 4, 2) := by decide +kernel
theorem dX3_apart_74 : decode cX3_apart 74 = .ok (.sipush 256, 3) := by decide +kernel
theorem dX3_apart_77 : decode cX3_apart 77 = .ok (.if_icmp .ge 58, 3) := by decide +kernel
theorem dX3_apart_80 : decode cX3_apart 80 = .ok (.iload 4, 2) := by decide +kernel
theorem dX3_apart_82 : decode cX3_apart 82 = .ok (.iload_n 1, 1) := by decide +kernel
theorem dX3_apart_83 : decode cX3_apart 83 = .ok (.if_icmp .lt 9, 3) := by decide +kernel
theorem dX3_apart_86 : decode cX3_apart 86 = .ok (.iload 4, 2) := by decide +kernel
theorem dX3_apart_88 : decode cX3_apart 88 = .ok (.iload_n 2, 1) := by decide +kernel
theorem dX3_apart_89 : decode cX3_apart 89 = .ok (.if_icmp .lt 7, 3) := by decide +kernel
theorem dX3_apart_92 : decode cX3_apart 92 = .ok (.iconst 1, 1) := by decide +kernel
theorem dX3_apart_93 : decode cX3_apart 93 = .ok (.goto 4, 3) := by decide +kernel
theorem dX3_apart_96 : decode cX3_apart 96 = .ok (.iconst 0, 1) := by decide +kernel
theorem dX3_apart_97 : decode cX3_apart 97 = .ok (.istore 5, 2) := by decide +kernel
theorem dX3_apart_99 : decode cX3_apart 99 = .ok (.iload 5, 2) := by decide +kernel
theorem dX3_apart_101 : decode cX3_apart 101 = .ok (.ifCond .eq 28, 3) := by decide +kernel
theorem dX3_apart_104 : decode cX3_apart 104 = .ok (.aload_n 0, 1) := by decide +kernel
theorem dX3_apart_105 : decode cX3_apart 105 = .ok (.getfield 24, 3) := by decide +kernel
theorem dX3_apart_108 : decode cX3_apart 108 = .ok (.getfield 135, 3) := by decide +kernel
theorem dX3_apart_111 : decode cX3_apart 111 = .ok (.iload 4, 2) := by decide +kernel
theorem dX3_apart_113 : decode cX3_apart 113 = .ok (.iaload, 1) := by decide +kernel
theorem dX3_apart_114 : decode cX3_apart 114 = .ok (.aload_n 0, 1) := by decide +kernel
theorem dX3_apart_115 : decode cX3_apart 115 = .ok (.getfield 20, 3) := by decide +kernel
theorem dX3_apart_118 : decode cX3_apart 118 = .ok (.iload 4, 2) := by decide +kernel
theorem dX3_apart_120 : decode cX3_apart 120 = .ok (.invokevirtual 144, 3) := by decide +kernel
theorem dX3_apart_123 : decode cX3_apart 123 = .ok (.if_icmp .eq 6, 3) := by decide +kernel
theorem dX3_apart_126 : decode cX3_apart 126 = .ok (.iinc 3 1, 3) := by decide +kernel
theorem dX3_apart_129 : decode cX3_apart 129 = .ok (.iinc 4 1, 3) := by decide +kernel
theorem dX3_apart_132 : decode cX3_apart 132 = .ok (.goto (-60), 3) := by decide +kernel
theorem dX3_apart_135 : decode cX3_apart 135 = .ok (.iload_n 3, 1) := by decide +kernel
theorem dX3_apart_136 : decode cX3_apart 136 = .ok (.ireturn, 1) := by decide +kernel
theorem dX3_isByte_0 : decode cX3_isByte 0 = .ok (.iload_n 0, 1) := by decide +kernel
theorem dX3_isByte_1 : decode cX3_isByte 1 = .ok (.ifCond .lt 14, 3) := by decide +kernel
theorem dX3_isByte_4 : decode cX3_isByte 4 = .ok (.iload_n 0, 1) := by decide +kernel
theorem dX3_isByte_5 : decode cX3_isByte 5 = .ok (.sipush 255, 3) := by decide +kernel
theorem dX3_isByte_8 : decode cX3_isByte 8 = .ok (.if_icmp .gt 7, 3) := by decide +kernel
theorem dX3_isByte_11 : decode cX3_isByte 11 = .ok (.iconst 1, 1) := by decide +kernel
theorem dX3_isByte_12 : decode cX3_isByte 12 = .ok (.goto 4, 3) := by decide +kernel
theorem dX3_isByte_15 : decode cX3_isByte 15 = .ok (.iconst 0, 1) := by decide +kernel
theorem dX3_isByte_16 : decode cX3_isByte 16 = .ok (.ireturn, 1) := by decide +kernel
end
section
theorem dX4_init_0 : decode cX4_init 0 = .ok (.aload_n 0, 1) := by decide +kernel
theorem dX4_init_1 : decode cX4_init 1 = .ok (.invokespecial 1, 3) := by decide +kernel
theorem dX4_init_4 : decode cX4_init 4 = .ok (.aload_n 0, 1) := by decide +kernel
theorem dX4_init_5 : decode cX4_init 5 = .ok (.sipush 160, 3) := by decide +kernel
theorem dX4_init_8 : decode cX4_init 8 = .ok (.newarray .int, 2) := by decide +kernel
theorem dX4_init_10 : decode cX4_init 10 = .ok (.putfield 7, 3) := by decide +kernel
theorem dX4_init_13 : decode cX4_init 13 = .ok (.aload_n 0, 1) := by decide +kernel
theorem dX4_init_14 : decode cX4_init 14 = .ok (.sipush 400, 3) := by decide +kernel
theorem dX4_init_17 : decode cX4_init 17 = .ok (.newarray .int, 2) := by decide +kernel
theorem dX4_init_19 : decode cX4_init 19 = .ok (.putfield 13, 3) := by decide +kernel
theorem dX4_init_22 : decode cX4_init 22 = .ok (.aload_n 0, 1) := by decide +kernel
theorem dX4_init_23 : decode cX4_init 23 = .ok (.sipush 161, 3) := by decide +kernel
theorem dX4_init_26 : decode cX4_init 26 = .ok (.newarray .int, 2) := by decide +kernel
theorem dX4_init_28 : decode cX4_init 28 = .ok (.putfield 16, 3) := by decide +kernel
theorem dX4_init_31 : decode cX4_init 31 = .ok (.aload_n 0, 1) := by decide +kernel
theorem dX4_init_32 : decode cX4_init 32 = .ok (.sipush 161, 3) := by decide +kernel
theorem dX4_init_35 : decode cX4_init 35 = .ok (.newarray .int, 2) := by decide +kernel
theorem dX4_init_37 : decode cX4_init 37 = .ok (.putfield 19, 3) := by decide +kernel
theorem dX4_init_40 : decode cX4_init 40 = .ok (.aload_n 0, 1) := by decide +kernel
theorem dX4_init_41 : decode cX4_init 41 = .ok (.sipush 161, 3) := by decide +kernel
theorem dX4_init_44 : decode cX4_init 44 = .ok (.newarray .int, 2) := by decide +kernel
theorem dX4_init_46 : decode cX4_init 46 = .ok (.putfield 22, 3) := by decide +kernel
theorem dX4_init_49 : decode cX4_init 49 = .ok (.aload_n 0, 1) := by decide +kernel
theorem dX4_init_50 : decode cX4_init 50 = .ok (.sipush 161, 3) := by decide +kernel
theorem dX4_init_53 : decode cX4_init 53 = .ok (.newarray .int, 2) := by decide +kernel
theorem dX4_init_55 : decode cX4_init 55 = .ok (.putfield 25, 3) := by decide +kernel
theorem dX4_init_58 : decode cX4_init 58 = .ok (.aload_n 0, 1) := by decide +kernel
theorem dX4_init_59 : decode cX4_init 59 = .ok (.sipush 160, 3) := by decide +kernel
theorem dX4_init_62 : decode cX4_init 62 = .ok (.newarray .int, 2) := by decide +kernel
theorem dX4_init_64 : decode cX4_init 64 = .ok (.putfield 28, 3) := by decide +kernel
theorem dX4_init_67 : decode cX4_init 67 = .ok (.aload_n 0, 1) := by decide +kernel
theorem dX4_init_68 : decode cX4_init 68 = .ok (.sipush 256, 3) := by decide +kernel
theorem dX4_init_71 : decode cX4_init 71 = .ok (.newarray .int, 2) := by decide +kernel
theorem dX4_init_73 : decode cX4_init 73 = .ok (.putfield 31, 3) := by decide +kernel
theorem dX4_init_76 : decode cX4_init 76 = .ok (.aload_n 0, 1) := by decide +kernel
theorem dX4_init_77 : decode cX4_init 77 = .ok (.bipush 8, 2) := by decide +kernel
theorem dX4_init_79 : decode cX4_init 79 = .ok (.newarray .int, 2) := by decide +kernel
theorem dX4_init_81 : decode cX4_init 81 = .ok (.putfield 34, 3) := by decide +kernel
theorem dX4_init_84 : decode cX4_init 84 = .ok (.aload_n 0, 1) := by decide +kernel
theorem dX4_init_85 : decode cX4_init 85 = .ok (.iconst 1, 1) := by decide +kernel
theorem dX4_init_86 : decode cX4_init 86 = .ok (.putfield 37, 3) := by decide +kernel
theorem dX4_init_89 : decode cX4_init 89 = .ok (.aload_n 0, 1) := by decide +kernel
theorem dX4_init_90 : decode cX4_init 90 = .ok (.bipush 32, 2) := by decide +kernel
theorem dX4_init_92 : decode cX4_init 92 = .ok (.newarray .int, 2) := by decide +kernel
theorem dX4_init_94 : decode cX4_init 94 = .ok (.putfield 41, 3) := by decide +kernel
theorem dX4_init_97 : decode cX4_init 97 = .ok (.return_, 1) := by decide +kernel
theorem dX4_thrown_0 : decode cX4_thrown 0 = .ok (.aload_n 0, 1) := by decide +kernel
theorem dX4_thrown_1 : decode cX4_thrown 1 = .ok (.getfield 44, 3) := by decide +kernel
theorem dX4_thrown_4 : decode cX4_thrown 4 = .ok (.ireturn, 1) := by decide +kernel
theorem dX4_fail_0 : decode cX4_fail 0 = .ok (.aload_n 0, 1) := by decide +kernel
theorem dX4_fail_1 : decode cX4_fail 1 = .ok (.iload_n 1, 1) := by decide +kernel
theorem dX4_fail_2 : decode cX4_fail 2 = .ok (.putfield 44, 3) := by decide +kernel
theorem dX4_fail_5 : decode cX4_fail 5 = .ok (.iconst 0, 1) := by decide +kernel
theorem dX4_fail_6 : decode cX4_fail 6 = .ok (.ireturn, 1) := by decide +kernel
theorem dX4_put_0 : decode cX4_put 0 = .ok (.aload_n 0, 1) := by decide +kernel
theorem dX4_put_1 : decode cX4_put 1 = .ok (.iconst 0, 1) := by decide +kernel
theorem dX4_put_2 : decode cX4_put 2 = .ok (.putfield 44, 3) := by decide +kernel
theorem dX4_put_5 : decode cX4_put 5 = .ok (.iload_n 3, 1) := by decide +kernel
theorem dX4_put_6 : decode cX4_put 6 = .ok (.iconst 1, 1) := by decide +kernel
theorem dX4_put_7 : decode cX4_put 7 = .ok (.if_icmp .lt 21, 3) := by decide +kernel
theorem dX4_put_10 : decode cX4_put 10 = .ok (.iload_n 3, 1) := by decide +kernel
theorem dX4_put_11 : decode cX4_put 11 = .ok (.bipush 8, 2) := by decide +kernel
theorem dX4_put_13 : decode cX4_put 13 = .ok (.if_icmp .gt 15, 3) := by decide +kernel
theorem dX4_put_16 : decode cX4_put 16 = .ok (.aload_n 0, 1) := by decide +kernel
theorem dX4_put_17 : decode cX4_put 17 = .ok (.getfield 47, 3) := by decide +kernel
theorem dX4_put_20 : decode cX4_put 20 = .ok (.iload_n 3, 1) := by decide +kernel
theorem dX4_put_21 : decode cX4_put 21 = .ok (.iadd, 1) := by decide +kernel
theorem dX4_put_22 : decode cX4_put 22 = .ok (.sipush 160, 3) := by decide +kernel
theorem dX4_put_25 : decode cX4_put 25 = .ok (.if_icmp .le 5, 3) := by decide +kernel
theorem dX4_put_28 : decode cX4_put 28 = .ok (.iconst 0, 1) := by decide +kernel
theorem dX4_put_29 : decode cX4_put 29 = .ok (.ireturn, 1) := by decide +kernel
theorem dX4_put_30 : decode cX4_put 30 = .ok (.iconst 0, 1) := by decide +kernel
theorem dX4_put_31 : decode cX4_put 31 = .ok (.istore 4, 2) := by decide +kernel
theorem dX4_put_33 : decode cX4_put 33 = .ok (.iload 4, 2) := by decide +kernel
theorem dX4_put_35 : decode cX4_put 35 = .ok (.iload_n 3, 1) := by decide +kernel
theorem dX4_put_36 : decode cX4_put 36 = .ok (.if_icmp .ge 40, 3) := by decide +kernel
theorem dX4_put_39 : decode cX4_put 39 = .ok (.aload_n 0, 1) := by decide +kernel
theorem dX4_put_40 : decode cX4_put 40 = .ok (.getfield 7, 3) := by decide +kernel
theorem dX4_put_43 : decode cX4_put 43 = .ok (.aload_n 0, 1) := by decide +kernel
theorem dX4_put_44 : decode cX4_put 44 = .ok (.getfield 47, 3) := by decide +kernel
theorem dX4_put_47 : decode cX4_put 47 = .ok (.lload_n 1, 1) := by decide +kernel
theorem dX4_put_48 : decode cX4_put 48 = .ok (.bipush 8, 2) := by decide +kernel
theorem dX4_put_50 : decode cX4_put 50 = .ok (.iload 4, 2) := by decide +kernel
theorem dX4_put_52 : decode cX4_put 52 = .ok (.imul, 1) := by decide +kernel
theorem dX4_put_53 : decode cX4_put 53 = .ok (.lshr, 1) := by decide +kernel
theorem dX4_put_54 : decode cX4_put 54 = .ok (.ldc2_w 50, 3) := by decide +kernel
theorem dX4_put_57 : decode cX4_put 57 = .ok (.land, 1) := by decide +kernel
theorem dX4_put_58 : decode cX4_put 58 = .ok (.l2i, 1) := by decide +kernel
theorem dX4_put_59 : decode cX4_put 59 = .ok (.iastore, 1) := by decide +kernel
theorem dX4_put_60 : decode cX4_put 60 = .ok (.aload_n 0, 1) := by decide +kernel
theorem dX4_put_61 : decode cX4_put 61 = .ok (.dup, 1) := by decide +kernel
theorem dX4_put_62 : decode cX4_put 62 = .ok (.getfield 47, 3) := by decide +kernel
theorem dX4_put_65 : decode cX4_put 65 = .ok (.iconst 1, 1) := by decide +kernel
theorem dX4_put_66 : decode cX4_put 66 = .ok (.iadd, 1) := by decide +kernel
theorem dX4_put_67 : decode cX4_put 67 = .ok (.putfield 47, 3) := by decide +kernel
theorem dX4_put_70 : decode cX4_put 70 = .ok (.iinc 4 1, 3) := by decide +kernel
theorem dX4_put_73 : decode cX4_put 73 = .ok (.goto (-40), 3) := by decide +kernel
theorem dX4_put_76 : decode cX4_put 76 = .ok (.aload_n 0, 1) := by decide +kernel
theorem dX4_put_77 : decode cX4_put 77 = .ok (.iconst 0, 1) := by decide +kernel
theorem dX4_put_78 : decode cX4_put 78 = .ok (.putfield 52, 3) := by decide +kernel
theorem dX4_put_81 : decode cX4_put 81 = .ok (.iconst 1, 1) := by decide +kernel
theorem dX4_put_82 : decode cX4_put 82 = .ok (.ireturn, 1) := by decide +kernel
theorem dX4_again_0 : decode cX4_again 0 = .ok (.aload_n 0, 1) := by decide +kernel
theorem dX4_again_1 : decode cX4_again 1 = .ok (.iconst 0, 1) := by decide +kernel
theorem dX4_again_2 : decode cX4_again 2 = .ok (.putfield 44, 3) := by decide +kernel
theorem dX4_again_5 : decode cX4_again 5 = .ok (.iload_n 1, 1) := by decide +kernel
theorem dX4_again_6 : decode cX4_again 6 = .ok (.iconst 1, 1) := by decide +kernel
theorem dX4_again_7 : decode cX4_again 7 = .ok (.if_icmp .lt 27, 3) := by decide +kernel
theorem dX4_again_10 : decode cX4_again 10 = .ok (.iload_n 1, 1) := by decide +kernel
theorem dX4_again_11 : decode cX4_again 11 = .ok (.aload_n 0, 1) := by decide +kernel
theorem dX4_again_12 : decode cX4_again 12 = .ok (.getfield 47, 3) := by decide +kernel
theorem dX4_again_15 : decode cX4_again 15 = .ok (.if_icmp .gt 19, 3) := by decide +kernel
theorem dX4_again_18 : decode cX4_again 18 = .ok (.iload_n 2, 1) := by decide +kernel
theorem dX4_again_19 : decode cX4_again 19 = .ok (.ifCond .lt 15, 3) := by decide +kernel
theorem dX4_again_22 : decode cX4_again 22 = .ok (.iload_n 2, 1) := by decide +kernel
theorem dX4_again_23 : decode cX4_again 23 = .ok (.sipush 160, 3) := by decide +kernel
theorem dX4_again_26 : decode cX4_again 26 = .ok (.aload_n 0, 1) := by decide +kernel
theorem dX4_again_27 : decode cX4_again 27 = .ok (.getfield 47, 3) := by decide +kernel
theorem dX4_again_30 : decode cX4_again 30 = .ok (.isub, 1) := by decide +kernel
theorem dX4_again_31 : decode cX4_again 31 = .ok (.if_icmp .le 5, 3) := by decide +kernel
theorem dX4_again_34 : decode cX4_again 34 = .ok (.iconst 0, 1) := by decide +kernel
theorem dX4_again_35 : decode cX4_again 35 = .ok (.ireturn, 1) := by decide +kernel
theorem dX4_again_36 : decode cX4_again 36 = .ok (.iconst 0, 1) := by decide +kernel
theorem dX4_again_37 : decode cX4_again 37 = .ok (.istore_n 3, 1) := by decide +kernel
theorem dX4_again_38 : decode cX4_again 38 = .ok (.iload_n 3, 1) := by decide +kernel
theorem dX4_again_39 : decode cX4_again 39 = .ok (.iload_n 2, 1) := by decide +kernel
theorem dX4_again_40 : decode cX4_again 40 = .ok (.if_icmp .ge 39, 3) := by decide +kernel
theorem dX4_again_43 : decode cX4_again 43 = .ok (.aload_n 0, 1) := by decide +kernel
theorem dX4_again_44 : decode cX4_again 44 = .ok (.getfield 7, 3) := by decide +kernel
theorem dX4_again_47 : decode cX4_again 47 = .ok (.aload_n 0, 1) := by decide +kernel
theorem dX4_again_48 : decode cX4_again 48 = .ok (.getfield 47, 3) := by decide +kernel
theorem dX4_again_51 : decode cX4_again 51 = .ok (.aload_n 0, 1) := by decide +kernel
theorem dX4_again_52 : decode cX4_again 52 = .ok (.getfield 7, 3) := by decide +kernel
theorem dX4_again_55 : decode cX4_again 55 = .ok (.aload_n 0, 1) := by decide +kernel
theorem dX4_again_56 : decode cX4_again 56 = .ok (.getfield 47, 3) := by decide +kernel
theorem dX4_again_59 : decode cX4_again 59 = .ok (.iload_n 1, 1) := by decide +kernel
theorem dX4_again_60 : decode cX4_again 60 = .ok (.isub, 1) := by decide +kernel
theorem dX4_again_61 : decode cX4_again 61 = .ok (.iaload, 1) := by decide +kernel
theorem dX4_again_62 : decode cX4_again 62 = .ok (.iastore, 1) := by decide +kernel
theorem dX4_again_63 : decode cX4_again 63 = .ok (.aload_n 0, 1) := by decide +kernel
theorem dX4_again_64 : decode cX4_again 64 = .ok (.dup, 1) := by decide +kernel
theorem dX4_again_65 : decode cX4_again 65 = .ok (.getfield 47, 3) := by decide +kernel
theorem dX4_again_68 : decode cX4_again 68 = .ok (.iconst 1, 1) := by decide +kernel
theorem dX4_again_69 : decode cX4_again 69 = .ok (.iadd, 1) := by decide +kernel
theorem dX4_again_70 : decode cX4_again 70 = .ok (.putfield 47, 3) := by decide +kernel
theorem dX4_again_73 : decode cX4_again 73 = .ok (.iinc 3 1, 3) := by decide +kernel
theorem dX4_again_76 : decode cX4_again 76 = .ok (.goto (-38), 3) := by decide +kernel
theorem dX4_again_79 : decode cX4_again 79 = .ok (.aload_n 0, 1) := by decide +kernel
theorem dX4_again_80 : decode cX4_again 80 = .ok (.iconst 0, 1) := by decide +kernel
theorem dX4_again_81 : decode cX4_again 81 = .ok (.putfield 52, 3) := by decide +kernel
theorem dX4_again_84 : decode cX4_again 84 = .ok (.iconst 1, 1) := by decide +kernel
theorem dX4_again_85 : decode cX4_again 85 = .ok (.ireturn, 1) := by decide +kernel
theorem dX4_isByte_0 : decode cX4_isByte 0 = .ok (.iload_n 0, 1) := by decide +kernel
theorem dX4_isByte_1 : decode cX4_isByte 1 = .ok (.ifCond .lt 14, 3) := by decide +kernel
theorem dX4_isByte_4 : decode cX4_isByte 4 = .ok (.iload_n 0, 1) := by decide +kernel
theorem dX4_isByte_5 : decode cX4_isByte 5 = .ok (.sipush 256, 3) := by decide +kernel
theorem dX4_isByte_8 : decode cX4_isByte 8 = .ok (.if_icmp .ge 7, 3) := by decide +kernel
theorem dX4_isByte_11 : decode cX4_isByte 11 = .ok (.iconst 1, 1) := by decide +kernel
theorem dX4_isByte_12 : decode cX4_isByte 12 = .ok (.goto 4, 3) := by decide +kernel
theorem dX4_isByte_15 : decode cX4_isByte 15 = .ok (.iconst 0, 1) := by decide +kernel
theorem dX4_isByte_16 : decode cX4_isByte 16 = .ok (.ireturn, 1) := by decide +kernel
set_option maxRecDepth 20000 in
theorem ggX4_change_X4_isByte : GoodIn wsX4_change wsX4_isByte := goodIn_r _ [8] (by decide +kernel) (by decide +kernel)
set_option maxRecDepth 20000 in
theorem gX4_change_X4_isByte : GoodIn wsX4_change (va_wsS RX4 56 yX4_isByte wsX4_isByte) := goodIn_app (goodIn_of _ (by decide +kernel)) ggX4_change_X4_isByte
theorem dX4_change_0 : decode cX4_change 0 = .ok (.aload_n 0, 1) := by decide +kernel
theorem dX4_change_1 : decode cX4_change 1 = .ok (.iload_n 1, 1) := by decide +kernel
theorem dX4_change_2 : decode cX4_change 2 = .ok (.ifCond .lt 11, 3) := by decide +kernel
theorem dX4_change_5 : decode cX4_change 5 = .ok (.iload_n 1, 1) := by decide +kernel
theorem dX4_change_6 : decode cX4_change 6 = .ok (.aload_n 0, 1) := by decide +kernel
theorem dX4_change_7 : decode cX4_change 7 = .ok (.getfield 47, 3) := by decide +kernel
theorem dX4_change_10 : decode cX4_change 10 = .ok (.if_icmp .lt 7, 3) := by decide +kernel
theorem dX4_change_13 : decode cX4_change 13 = .ok (.iconst 1, 1) := by decide +kernel
theorem dX4_change_14 : decode cX4_change 14 = .ok (.goto 15, 3) := by decide +kernel
theorem dX4_change_17 : decode cX4_change 17 = .ok (.iload_n 2, 1) := by decide +kernel
theorem dX4_change_18 : decode cX4_change 18 = .ok (.invokestatic 56, 3) := by decide +kernel
theorem dX4_change_21 : decode cX4_change 21 = .ok (.ifCond .ne 7, 3) := by decide +kernel
theorem dX4_change_24 : decode cX4_change 24 = .ok (.iconst 2, 1) := by decide +kernel
theorem dX4_change_25 : decode cX4_change 25 = .ok (.goto 4, 3) := by decide +kernel
theorem dX4_change_28 : decode cX4_change 28 = .ok (.iconst 0, 1) := by decide +kernel
theorem dX4_change_29 : decode cX4_change 29 = .ok (.putfield 44, 3) := by decide +kernel
theorem dX4_change_32 : decode cX4_change 32 = .ok (.aload_n 0, 1) := by decide +kernel
theorem dX4_change_33 : decode cX4_change 33 = .ok (.getfield 44, 3) := by decide +kernel
theorem dX4_change_36 : decode cX4_change 36 = .ok (.ifCond .ne 15, 3) := by decide +kernel
theorem dX4_change_39 : decode cX4_change 39 = .ok (.aload_n 0, 1) := by decide +kernel
theorem dX4_change_40 : decode cX4_change 40 = .ok (.getfield 7, 3) := by decide +kernel
theorem dX4_change_43 : decode cX4_change 43 = .ok (.iload_n 1, 1) := by decide +kernel
theorem dX4_change_44 : decode cX4_change 44 = .ok (.iload_n 2, 1) := by decide +kernel
theorem dX4_change_45 : decode cX4_change 45 = .ok (.iastore, 1) := by decide +kernel
theorem dX4_change_46 : decode cX4_change 46 = .ok (.aload_n 0, 1) := by decide +kernel
theorem dX4_change_47 : decode cX4_change 47 = .ok (.iconst 0, 1) := by decide +kernel
theorem dX4_change_48 : decode cX4_change 48 = .ok (.putfield 52, 3) := by decide +kernel
theorem dX4_change_51 : decode cX4_change 51 = .ok (.return_, 1) := by decide +kernel
theorem dX4_cut_0 : decode cX4_cut 0 = .ok (.aload_n 0, 1) := by decide +kernel
theorem dX4_cut_1 : decode cX4_cut 1 = .ok (.iload_n 1, 1) := by decide +kernel
theorem dX4_cut_2 : decode cX4_cut 2 = .ok (.ifCond .lt 11, 3) := by decide +kernel
theorem dX4_cut_5 : decode cX4_cut 5 = .ok (.iload_n 1, 1) := by decide +kernel
theorem dX4_cut_6 : decode cX4_cut 6 = .ok (.aload_n 0, 1) := by decide +kernel
theorem dX4_cut_7 : decode cX4_cut 7 = .ok (.getfield 47, 3) := by decide +kernel
theorem dX4_cut_10 : decode cX4_cut 10 = .ok (.if_icmp .le 7, 3) := by decide +kernel
theorem dX4_cut_13 : decode cX4_cut 13 = .ok (.iconst 1, 1) := by decide +kernel
theorem dX4_cut_14 : decode cX4_cut 14 = .ok (.goto 4, 3) := by decide +kernel
theorem dX4_cut_17 : decode cX4_cut 17 = .ok (.iconst 0, 1) := by decide +kernel
theorem dX4_cut_18 : decode cX4_cut 18 = .ok (.putfield 44, 3) := by decide +kernel
theorem dX4_cut_21 : decode cX4_cut 21 = .ok (.aload_n 0, 1) := by decide +kernel
theorem dX4_cut_22 : decode cX4_cut 22 = .ok (.getfield 44, 3) := by decide +kernel
theorem dX4_cut_25 : decode cX4_cut 25 = .ok (.ifCond .ne 13, 3) := by decide +kernel
theorem dX4_cut_28 : decode cX4_cut 28 = .ok (.aload_n 0, 1) := by decide +kernel
theorem dX4_cut_29 : decode cX4_cut 29 = .ok (.iload_n 1, 1) := by decide +kernel
theorem dX4_cut_30 : decode cX4_cut 30 = .ok (.putfield 47, 3) := by decide +kernel
theorem dX4_cut_33 : decode cX4_cut 33 = .ok (.aload_n 0, 1) := by decide +kernel
theorem dX4_cut_34 : decode cX4_cut 34 = .ok (.iconst 0, 1) := by decide +kernel
theorem dX4_cut_35 : decode cX4_cut 35 = .ok (.putfield 52, 3) := by decide +kernel
theorem dX4_cut_38 : decode cX4_cut 38 = .ok (.return_, 1) := by decide +kernel
set_option maxRecDepth 20000 in
theorem ggX4_place_X4_isByte : GoodIn wsX4_place wsX4_isByte := goodIn_r _ [7] (by decide +kernel) (by decide +kernel)
set_option maxRecDepth 20000 in
theorem gX4_place_X4_isByte : GoodIn wsX4_place (va_wsS RX4 56 yX4_isByte wsX4_isByte) := goodIn_app (goodIn_of _ (by decide +kernel)) ggX4_place_X4_isByte
theorem dX4_place_0 : decode cX4_place 0 = .ok (.aload_n 0, 1) := by decide +kernel
theorem dX4_place_1 : decode cX4_place 1 = .ok (.iload_n 1, 1) := by decide +kernel
theorem dX4_place_2 : decode cX4_place 2 = .ok (.invokestatic 56, 3) := by decide +kernel
theorem dX4_place_5 : decode cX4_place 5 = .ok (.ifCond .eq 14, 3) := by decide +kernel
theorem dX4_place_8 : decode cX4_place 8 = .ok (.iload_n 2, 1) := by decide +kernel
theorem dX4_place_9 : decode cX4_place 9 = .ok (.invokestatic 56, 3) := by decide +kernel
theorem dX4_place_12 : decode cX4_place 12 = .ok (.ifCond .eq 7, 3) := by decide +kernel
theorem dX4_place_15 : decode cX4_place 15 = .ok (.iconst 0, 1) := by decide +kernel
theorem dX4_place_16 : decode cX4_place 16 = .ok (.goto 4, 3) := by decide +kernel
theorem dX4_place_19 : decode cX4_place 19 = .ok (.iconst 1, 1) := by decide +kernel
theorem dX4_place_20 : decode cX4_place 20 = .ok (.putfield 44, 3) := by decide +kernel
theorem dX4_place_23 : decode cX4_place 23 = .ok (.aload_n 0, 1) := by decide +kernel
theorem dX4_place_24 : decode cX4_place 24 = .ok (.getfield 44, 3) := by decide +kernel
theorem dX4_place_27 : decode cX4_place 27 = .ok (.ifCond .ne 13, 3) := by decide +kernel
theorem dX4_place_30 : decode cX4_place 30 = .ok (.aload_n 0, 1) := by decide +kernel
theorem dX4_place_31 : decode cX4_place 31 = .ok (.iload_n 1, 1) := by decide +kernel
theorem dX4_place_32 : decode cX4_place 32 = .ok (.putfield 60, 3) := by decide +kernel
theorem dX4_place_35 : decode cX4_place 35 = .ok (.aload_n 0, 1) := by decide +kernel
theorem dX4_place_36 : decode cX4_place 36 = .ok (.iload_n 2, 1) := by decide +kernel
theorem dX4_place_37 : decode cX4_place 37 = .ok (.putfield 63, 3) := by decide +kernel
theorem dX4_place_40 : decode cX4_place 40 = .ok (.return_, 1) := by decide +kernel
theorem dX4_size_0 : decode cX4_size 0 = .ok (.aload_n 0, 1) := by decide +kernel
theorem dX4_size_1 : decode cX4_size 1 = .ok (.iconst 0, 1) := by decide +kernel
theorem dX4_size_2 : decode cX4_size 2 = .ok (.putfield 44, 3) := by decide +kernel
theorem dX4_size_5 : decode cX4_size 5 = .ok (.aload_n 0, 1) := by decide +kernel
theorem dX4_size_6 : decode cX4_size 6 = .ok (.getfield 47, 3) := by decide +kernel
theorem dX4_size_9 : decode cX4_size 9 = .ok (.ireturn, 1) := by decide +kernel
theorem dX4_choose_0 : decode cX4_choose 0 = .ok (.iconst 0, 1) := by decide +kernel
theorem dX4_choose_1 : decode cX4_choose 1 = .ok (.istore_n 2, 1) := by decide +kernel
theorem dX4_choose_2 : decode cX4_choose 2 = .ok (.iconst 1, 1) := by decide +kernel
theorem dX4_choose_3 : decode cX4_choose 3 = .ok (.istore_n 3, 1) := by decide +kernel
theorem dX4_choose_4 : decode cX4_choose 4 = .ok (.iload_n 3, 1) := by decide +kernel
theorem dX4_choose_5 : decode cX4_choose 5 = .ok (.aload_n 0, 1) := by decide +kernel
theorem dX4_choose_6 : decode cX4_choose 6 = .ok (.getfield 47, 3) := by decide +kernel
theorem dX4_choose_9 : decode cX4_choose 9 = .ok (.if_icmp .gt 70, 3) := by decide +kernel
theorem dX4_choose_12 : decode cX4_choose 12 = .ok (.aload_n 0, 1) := by decide +kernel
theorem dX4_choose_13 : decode cX4_choose 13 = .ok (.getfield 25, 3) := by decide +kernel
theorem dX4_choose_16 : decode cX4_choose 16 = .ok (.iload_n 3, 1) := by decide +kernel
theorem dX4_choose_17 : decode cX4_choose 17 = .ok (.iload_n 3, 1) := by decide +kernel
theorem dX4_choose_18 : decode cX4_choose 18 = .ok (.iload_n 1, 1) := by decide +kernel
theorem dX4_choose_19 : decode cX4_choose 19 = .ok (.if_icmp .gt 31, 3) := by decide +kernel
theorem dX4_choose_22 : decode cX4_choose 22 = .ok (.aload_n 0, 1) := by decide +kernel
theorem dX4_choose_23 : decode cX4_choose 23 = .ok (.getfield 7, 3) := by decide +kernel
theorem dX4_choose_26 : decode cX4_choose 26 = .ok (.iload_n 1, 1) := by decide +kernel
theorem dX4_choose_27 : decode cX4_choose 27 = .ok (.iaload, 1) := by decide +kernel
theorem dX4_choose_28 : decode cX4_choose 28 = .ok (.aload_n 0, 1) := by decide +kernel
theorem dX4_choose_29 : decode cX4_choose 29 = .ok (.getfield 7, 3) := by decide +kernel
theorem dX4_choose_32 : decode cX4_choose 32 = .ok (.iload_n 1, 1) := by decide +kernel
theorem dX4_choose_33 : decode cX4_choose 33 = .ok (.iload_n 3, 1) := by decide +kernel
theorem dX4_choose_34 : decode cX4_choose 34 = .ok (.isub, 1) := by decide +kernel
theorem dX4_choose_35 : decode cX4_choose 35 = .ok (.iaload, 1) := by decide +kernel
theorem dX4_choose_36 : decode cX4_choose 36 = .ok (.if_icmp .ne 14, 3) := by decide +kernel
theorem dX4_choose_39 : decode cX4_choose 39 = .ok (.aload_n 0, 1) := by decide +kernel
theorem dX4_choose_40 : decode cX4_choose 40 = .ok (.getfield 25, 3) := by decide +kernel
theorem dX4_choose_43 : decode cX4_choose 43 = .ok (.iload_n 3, 1) := by decide +kernel
theorem dX4_choose_44 : decode cX4_choose 44 = .ok (.iaload, 1) := by decide +kernel
theorem dX4_choose_45 : decode cX4_choose 45 = .ok (.iconst 1, 1) := by decide +kernel
theorem dX4_choose_46 : decode cX4_choose 46 = .ok (.iadd, 1) := by decide +kernel
theorem dX4_choose_47 : decode cX4_choose 47 = .ok (.goto 4, 3) := by decide +kernel
theorem dX4_choose_50 : decode cX4_choose 50 = .ok (.iconst 0, 1) := by decide +kernel
theorem dX4_choose_51 : decode cX4_choose 51 = .ok (.iastore, 1) := by decide +kernel
theorem dX4_choose_52 : decode cX4_choose 52 = .ok (.aload_n 0, 1) := by decide +kernel
theorem dX4_choose_53 : decode cX4_choose 53 = .ok (.getfield 25, 3) := by decide +kernel
theorem dX4_choose_56 : decode cX4_choose 56 = .ok (.iload_n 3, 1) := by decide +kernel
theorem dX4_choose_57 : decode cX4_choose 57 = .ok (.iaload, 1) := by decide +kernel
theorem dX4_choose_58 : decode cX4_choose 58 = .ok (.iload_n 2, 1) := by decide +kernel
theorem dX4_choose_59 : decode cX4_choose 59 = .ok (.if_icmp .le 12, 3) := by decide +kernel
theorem dX4_choose_62 : decode cX4_choose 62 = .ok (.aload_n 0, 1) := by decide +kernel
theorem dX4_choose_63 : decode cX4_choose 63 = .ok (.getfield 25, 3) := by decide +kernel
theorem dX4_choose_66 : decode cX4_choose 66 = .ok (.iload_n 3, 1) := by decide +kernel
theorem dX4_choose_67 : decode cX4_choose 67 = .ok (.iaload, 1) := by decide +kernel
theorem dX4_choose_68 : decode cX4_choose 68 = .ok (.goto 4, 3) := by decide +kernel
theorem dX4_choose_71 : decode cX4_choose 71 = .ok (.iload_n 2, 1) := by decide +kernel
theorem dX4_choose_72 : decode cX4_choose 72 = .ok (.istore_n 2, 1) := by decide +kernel
theorem dX4_choose_73 : decode cX4_choose 73 = .ok (.iinc 3 1, 3) := by decide +kernel
theorem dX4_choose_76 : decode cX4_choose 76 = .ok (.goto (-72), 3) := by decide +kernel
theorem dX4_choose_79 : decode cX4_choose 79 = .ok (.iload_n 2, 1) := by decide +kernel
theorem dX4_choose_80 : decode cX4_choose 80 = .ok (.sipush 129, 3) := by decide +kernel
theorem dX4_choose_83 : decode cX4_choose 83 = .ok (.if_icmp .le 9, 3) := by decide +kernel
theorem dX4_choose_86 : decode cX4_choose 86 = .ok (.sipush 129, 3) := by decide +kernel
theorem dX4_choose_89 : decode cX4_choose 89 = .ok (.goto 4, 3) := by decide +kernel
theorem dX4_choose_92 : decode cX4_choose 92 = .ok (.iload_n 2, 1) := by decide +kernel
theorem dX4_choose_93 : decode cX4_choose 93 = .ok (.istore_n 2, 1) := by decide +kernel
theorem dX4_choose_94 : decode cX4_choose 94 = .ok (.ldc 66, 2) := by decide +kernel
theorem dX4_choose_96 : decode cX4_choose 96 = .ok (.istore_n 3, 1) := by decide +kernel
theorem dX4_choose_97 : decode cX4_choose 97 = .ok (.iconst 1, 1) := by decide +kernel
theorem dX4_choose_98 : decode cX4_choose 98 = .ok (.istore 4, 2) := by decide +kernel
theorem dX4_choose_100 : decode cX4_choose 100 = .ok (.iload 4, 2) := by decide +kernel
theorem dX4_choose_102 : decode cX4_choose 102 = .ok (.sipush 128, 3) := by decide +kernel
theorem dX4_choose_105 : decode cX4_choose 105 = .ok (.if_icmp .ge 61, 3) := by decide +kernel
theorem dX4_choose_108 : decode cX4_choose 108 = .ok (.iload_n 1, 1) := by decide +kernel
theorem dX4_choose_109 : decode cX4_choose 109 = .ok (.iload 4, 2) := by decide +kernel
theorem dX4_choose_111 : decode cX4_choose 111 = .ok (.iadd, 1) := by decide +kernel
theorem dX4_choose_112 : decode cX4_choose 112 = .ok (.aload_n 0, 1) := by decide +kernel
theorem dX4_choose_113 : decode cX4_choose 113 = .ok (.getfield 47, 3) := by decide +kernel
theorem dX4_choose_116 : decode cX4_choose 116 = .ok (.if_icmp .gt 50, 3) := by decide +kernel
theorem dX4_choose_119 : decode cX4_choose 119 = .ok (.iconst 1, 1) := by decide +kernel
theorem dX4_choose_120 : decode cX4_choose 120 = .ok (.iload 4, 2) := by decide +kernel
theorem dX4_choose_122 : decode cX4_choose 122 = .ok (.iadd, 1) := by decide +kernel
theorem dX4_choose_123 : decode cX4_choose 123 = .ok (.aload_n 0, 1) := by decide +kernel
theorem dX4_choose_124 : decode cX4_choose 124 = .ok (.getfield 16, 3) := by decide +kernel
theorem dX4_choose_127 : decode cX4_choose 127 = .ok (.iload_n 1, 1) := by decide +kernel
theorem dX4_choose_128 : decode cX4_choose 128 = .ok (.iload 4, 2) := by decide +kernel
theorem dX4_choose_130 : decode cX4_choose 130 = .ok (.iadd, 1) := by decide +kernel
theorem dX4_choose_131 : decode cX4_choose 131 = .ok (.iaload, 1) := by decide +kernel
theorem dX4_choose_132 : decode cX4_choose 132 = .ok (.iadd, 1) := by decide +kernel
theorem dX4_choose_133 : decode cX4_choose 133 = .ok (.iload_n 3, 1) := by decide +kernel
theorem dX4_choose_134 : decode cX4_choose 134 = .ok (.if_icmp .ge 26, 3) := by decide +kernel
theorem dX4_choose_137 : decode cX4_choose 137 = .ok (.iconst 1, 1) := by decide +kernel
theorem dX4_choose_138 : decode cX4_choose 138 = .ok (.iload 4, 2) := by decide +kernel
theorem dX4_choose_140 : decode cX4_choose 140 = .ok (.iadd, 1) := by decide +kernel
theorem dX4_choose_141 : decode cX4_choose 141 = .ok (.aload_n 0, 1) := by decide +kernel
theorem dX4_choose_142 : decode cX4_choose 142 = .ok (.getfield 16, 3) := by decide +kernel
theorem dX4_choose_145 : decode cX4_choose 145 = .ok (.iload_n 1, 1) := by decide +kernel
theorem dX4_choose_146 : decode cX4_choose 146 = .ok (.iload 4, 2) := by decide +kernel
theorem dX4_choose_148 : decode cX4_choose 148 = .ok (.iadd, 1) := by decide +kernel
theorem dX4_choose_149 : decode cX4_choose 149 = .ok (.iaload, 1) := by decide +kernel
theorem dX4_choose_150 : decode cX4_choose 150 = .ok (.iadd, 1) := by decide +kernel
theorem dX4_choose_151 : decode cX4_choose 151 = .ok (.istore_n 3, 1) := by decide +kernel
theorem dX4_choose_152 : decode cX4_choose 152 = .ok (.aload_n 0, 1) := by decide +kernel
theorem dX4_choose_153 : decode cX4_choose 153 = .ok (.getfield 19, 3) := by decide +kernel
theorem dX4_choose_156 : decode cX4_choose 156 = .ok (.iload_n 1, 1) := by decide +kernel
theorem dX4_choose_157 : decode cX4_choose 157 = .ok (.iload 4, 2) := by decide +kernel
theorem dX4_choose_159 : decode cX4_choose 159 = .ok (.iastore, 1) := by decide +kernel
theorem dX4_choose_160 : decode cX4_choose 160 = .ok (.iinc 4 1, 3) := by decide +kernel
theorem dX4_choose_163 : decode cX4_choose 163 = .ok (.goto (-63), 3) := by decide +kernel
theorem dX4_choose_166 : decode cX4_choose 166 = .ok (.iconst 0, 1) := by decide +kernel
theorem dX4_choose_167 : decode cX4_choose 167 = .ok (.istore 4, 2) := by decide +kernel
theorem dX4_choose_169 : decode cX4_choose 169 = .ok (.iconst 2, 1) := by decide +kernel
theorem dX4_choose_170 : decode cX4_choose 170 = .ok (.istore 5, 2) := by decide +kernel
theorem dX4_choose_172 : decode cX4_choose 172 = .ok (.iload 5, 2) := by decide +kernel
theorem dX4_choose_174 : decode cX4_choose 174 = .ok (.iload_n 2, 1) := by decide +kernel
theorem dX4_choose_175 : decode cX4_choose 175 = .ok (.if_icmp .gt 40, 3) := by decide +kernel
theorem dX4_choose_178 : decode cX4_choose 178 = .ok (.iconst 2, 1) := by decide +kernel
theorem dX4_choose_179 : decode cX4_choose 179 = .ok (.aload_n 0, 1) := by decide +kernel
theorem dX4_choose_180 : decode cX4_choose 180 = .ok (.getfield 16, 3) := by decide +kernel
theorem dX4_choose_183 : decode cX4_choose 183 = .ok (.iload_n 1, 1) := by decide +kernel
theorem dX4_choose_184 : decode cX4_choose 184 = .ok (.iload 5, 2) := by decide +kernel
theorem dX4_choose_186 : decode cX4_choose 186 = .ok (.iadd, 1) := by decide +kernel
theorem dX4_choose_187 : decode cX4_choose 187 = .ok (.iaload, 1) := by decide +kernel
theorem dX4_choose_188 : decode cX4_choose 188 = .ok (.iadd, 1) := by decide +kernel
theorem dX4_choose_189 : decode cX4_choose 189 = .ok (.iload_n 3, 1) := by decide +kernel
theorem dX4_choose_190 : decode cX4_choose 190 = .ok (.if_icmp .gt 19, 3) := by decide +kernel
theorem dX4_choose_193 : decode cX4_choose 193 = .ok (.iconst 2, 1) := by decide +kernel
theorem dX4_choose_194 : decode cX4_choose 194 = .ok (.aload_n 0, 1) := by decide +kernel
theorem dX4_choose_195 : decode cX4_choose 195 = .ok (.getfield 16, 3) := by decide +kernel
theorem dX4_choose_198 : decode cX4_choose 198 = .ok (.iload_n 1, 1) := by decide +kernel
theorem dX4_choose_199 : decode cX4_choose 199 = .ok (.iload 5, 2) := by decide +kernel
theorem dX4_choose_201 : decode cX4_choose 201 = .ok (.iadd, 1) := by decide +kernel
theorem dX4_choose_202 : decode cX4_choose 202 = .ok (.iaload, 1) := by decide +kernel
theorem dX4_choose_203 : decode cX4_choose 203 = .ok (.iadd, 1) := by decide +kernel
theorem dX4_choose_204 : decode cX4_choose 204 = .ok (.istore_n 3, 1) := by decide +kernel
theorem dX4_choose_205 : decode cX4_choose 205 = .ok (.iload 5, 2) := by decide +kernel
theorem dX4_choose_207 : decode cX4_choose 207 = .ok (.istore 4, 2) := by decide +kernel
theorem dX4_choose_209 : decode cX4_choose 209 = .ok (.iinc 5 1, 3) := by decide +kernel
theorem dX4_choose_212 : decode cX4_choose 212 = .ok (.goto (-40), 3) := by decide +kernel
theorem dX4_choose_215 : decode cX4_choose 215 = .ok (.aload_n 0, 1) := by decide +kernel
theorem dX4_choose_216 : decode cX4_choose 216 = .ok (.getfield 16, 3) := by decide +kernel
theorem dX4_choose_219 : decode cX4_choose 219 = .ok (.iload_n 1, 1) := by decide +kernel
theorem dX4_choose_220 : decode cX4_choose 220 = .ok (.iload_n 3, 1) := by decide +kernel
theorem dX4_choose_221 : decode cX4_choose 221 = .ok (.iastore, 1) := by decide +kernel
theorem dX4_choose_222 : decode cX4_choose 222 = .ok (.iload 4, 2) := by decide +kernel
theorem dX4_choose_224 : decode cX4_choose 224 = .ok (.ifCond .ne 4, 3) := by decide +kernel
theorem dX4_choose_227 : decode cX4_choose 227 = .ok (.return_, 1) := by decide +kernel
theorem dX4_choose_228 : decode cX4_choose 228 = .ok (.aload_n 0, 1) := by decide +kernel
theorem dX4_choose_229 : decode cX4_choose 229 = .ok (.getfield 19, 3) := by decide +kernel
theorem dX4_choose_232 : decode cX4_choose 232 = .ok (.iload_n 1, 1) := by decide +kernel
theorem dX4_choose_233 : decode cX4_choose 233 = .ok (.iload 4, 2) := by decide +kernel
theorem dX4_choose_235 : decode cX4_choose 235 = .ok (.bipush 126, 2) := by decide +kernel
theorem dX4_choose_237 : decode cX4_choose 237 = .ok (.iadd, 1) := by decide +kernel
theorem dX4_choose_238 : decode cX4_choose 238 = .ok (.iastore, 1) := by decide +kernel
theorem dX4_choose_239 : decode cX4_choose 239 = .ok (.iconst 1, 1) := by decide +kernel
theorem dX4_choose_240 : decode cX4_choose 240 = .ok (.istore 5, 2) := by decide +kernel
theorem dX4_choose_242 : decode cX4_choose 242 = .ok (.aload_n 0, 1) := by decide +kernel
theorem dX4_choose_243 : decode cX4_choose 243 = .ok (.getfield 25, 3) := by decide +kernel
theorem dX4_choose_246 : decode cX4_choose 246 = .ok (.iload 5, 2) := by decide +kernel
theorem dX4_choose_248 : decode cX4_choose 248 = .ok (.iaload, 1) := by decide +kernel
theorem dX4_choose_249 : decode cX4_choose 249 = .ok (.iload 4, 2) := by decide +kernel
theorem dX4_choose_251 : decode cX4_choose 251 = .ok (.if_icmp .ge 9, 3) := by decide +kernel
theorem dX4_choose_254 : decode cX4_choose 254 = .ok (.iinc 5 1, 3) := by decide +kernel
theorem dX4_choose_257 : decode cX4_choose 257 = .ok (.goto (-15), 3) := by decide +kernel
theorem dX4_choose_260 : decode cX4_choose 260 = .ok (.aload_n 0, 1) := by decide +kernel
theorem dX4_choose_261 : decode cX4_choose 261 = .ok (.getfield 22, 3) := by decide +kernel
theorem dX4_choose_264 : decode cX4_choose 264 = .ok (.iload_n 1, 1) := by decide +kernel
theorem dX4_choose_265 : decode cX4_choose 265 = .ok (.iload 5, 2) := by decide +kernel
theorem dX4_choose_267 : decode cX4_choose 267 = .ok (.iastore, 1) := by decide +kernel
theorem dX4_choose_268 : decode cX4_choose 268 = .ok (.return_, 1) := by decide +kernel
set_option maxRecDepth 20000 in
theorem ggX4_pack_X4_choose : GoodIn wsX4_pack wsX4_choose := goodIn_r _ [15, 3, 4, 10, 16, 2, 7, 9, 17, 18, 19, 20, 21, 22, 23, 24, 25, 26, 27, 28, 29, 30, 31, 32, 33, 34, 35, 36, 37] (by decide +kernel) (by decide +kernel)
set_option maxRecDepth 20000 in
theorem gX4_pack_X4_choose : GoodIn wsX4_pack (wsV RX4 67 RX4 yX4_choose wsX4_choose) := goodIn_app (goodIn_of _ (by decide +kernel)) ggX4_pack_X4_choose
theorem dX4_pack_0 : decode cX4_pack 0 = .ok (.aload_n 0, 1) := by decide +kernel
theorem dX4_pack_1 : decode cX4_pack 1 = .ok (.getfield 52, 3) := by decide +kernel
theorem dX4_pack_4 : decode cX4_pack 4 = .ok (.ifCond .eq 4, 3) := by decide +kernel
theorem dX4_pack_7 : decode cX4_pack 7 = .ok (.return_, 1) := by decide +kernel
theorem dX4_pack_8 : decode cX4_pack 8 = .ok (.aload_n 0, 1) := by decide +kernel
theorem dX4_pack_9 : decode cX4_pack 9 = .ok (.iconst 1, 1) := by decide +kernel
theorem dX4_pack_10 : decode cX4_pack 10 = .ok (.putfield 52, 3) := by decide +kernel
theorem dX4_pack_13 : decode cX4_pack 13 = .ok (.aload_n 0, 1) := by decide +kernel
theorem dX4_pack_14 : decode cX4_pack 14 = .ok (.getfield 16, 3) := by decide +kernel
theorem dX4_pack_17 : decode cX4_pack 17 = .ok (.aload_n 0, 1) := by decide +kernel
theorem dX4_pack_18 : decode cX4_pack 18 = .ok (.getfield 47, 3) := by decide +kernel
theorem dX4_pack_21 : decode cX4_pack 21 = .ok (.iconst 1, 1) := by decide +kernel
theorem dX4_pack_22 : decode cX4_pack 22 = .ok (.iastore, 1) := by decide +kernel
theorem dX4_pack_23 : decode cX4_pack 23 = .ok (.iconst 0, 1) := by decide +kernel
theorem dX4_pack_24 : decode cX4_pack 24 = .ok (.istore_n 1, 1) := by decide +kernel
theorem dX4_pack_25 : decode cX4_pack 25 = .ok (.iload_n 1, 1) := by decide +kernel
theorem dX4_pack_26 : decode cX4_pack 26 = .ok (.aload_n 0, 1) := by decide +kernel
theorem dX4_pack_27 : decode cX4_pack 27 = .ok (.getfield 47, 3) := by decide +kernel
theorem dX4_pack_30 : decode cX4_pack 30 = .ok (.if_icmp .gt 16, 3) := by decide +kernel
theorem dX4_pack_33 : decode cX4_pack 33 = .ok (.aload_n 0, 1) := by decide +kernel
theorem dX4_pack_34 : decode cX4_pack 34 = .ok (.getfield 25, 3) := by decide +kernel
theorem dX4_pack_37 : decode cX4_pack 37 = .ok (.iload_n 1, 1) := by decide +kernel
theorem dX4_pack_38 : decode cX4_pack 38 = .ok (.iconst 0, 1) := by decide +kernel
theorem dX4_pack_39 : decode cX4_pack 39 = .ok (.iastore, 1) := by decide +kernel
theorem dX4_pack_40 : decode cX4_pack 40 = .ok (.iinc 1 1, 3) := by decide +kernel
theorem dX4_pack_43 : decode cX4_pack 43 = .ok (.goto (-18), 3) := by decide +kernel
theorem dX4_pack_46 : decode cX4_pack 46 = .ok (.aload_n 0, 1) := by decide +kernel
theorem dX4_pack_47 : decode cX4_pack 47 = .ok (.getfield 47, 3) := by decide +kernel
theorem dX4_pack_50 : decode cX4_pack 50 = .ok (.iconst 1, 1) := by decide +kernel
theorem dX4_pack_51 : decode cX4_pack 51 = .ok (.isub, 1) := by decide +kernel
theorem dX4_pack_52 : decode cX4_pack 52 = .ok (.istore_n 1, 1) := by decide +kernel
theorem dX4_pack_53 : decode cX4_pack 53 = .ok (.iload_n 1, 1) := by decide +kernel
theorem dX4_pack_54 : decode cX4_pack 54 = .ok (.ifCond .lt 14, 3) := by decide +kernel
theorem dX4_pack_57 : decode cX4_pack 57 = .ok (.aload_n 0, 1) := by decide +kernel
theorem dX4_pack_58 : decode cX4_pack 58 = .ok (.iload_n 1, 1) := by decide +kernel
theorem dX4_pack_59 : decode cX4_pack 59 = .ok (.invokevirtual 67, 3) := by decide +kernel
theorem dX4_pack_62 : decode cX4_pack 62 = .ok (.iinc 1 (-1), 3) := by decide +kernel
theorem dX4_pack_65 : decode cX4_pack 65 = .ok (.goto (-12), 3) := by decide +kernel
theorem dX4_pack_68 : decode cX4_pack 68 = .ok (.aload_n 0, 1) := by decide +kernel
theorem dX4_pack_69 : decode cX4_pack 69 = .ok (.getfield 16, 3) := by decide +kernel
theorem dX4_pack_72 : decode cX4_pack 72 = .ok (.iconst 0, 1) := by decide +kernel
theorem dX4_pack_73 : decode cX4_pack 73 = .ok (.iaload, 1) := by decide +kernel
theorem dX4_pack_74 : decode cX4_pack 74 = .ok (.istore_n 1, 1) := by decide +kernel
theorem dX4_pack_75 : decode cX4_pack 75 = .ok (.aload_n 0, 1) := by decide +kernel
theorem dX4_pack_76 : decode cX4_pack 76 = .ok (.iload_n 1, 1) := by decide +kernel
theorem dX4_pack_77 : decode cX4_pack 77 = .ok (.aload_n 0, 1) := by decide +kernel
theorem dX4_pack_78 : decode cX4_pack 78 = .ok (.getfield 47, 3) := by decide +kernel
theorem dX4_pack_81 : decode cX4_pack 81 = .ok (.if_icmp .le 12, 3) := by decide +kernel
theorem dX4_pack_84 : decode cX4_pack 84 = .ok (.iload_n 1, 1) := by decide +kernel
theorem dX4_pack_85 : decode cX4_pack 85 = .ok (.aload_n 0, 1) := by decide +kernel
theorem dX4_pack_86 : decode cX4_pack 86 = .ok (.getfield 47, 3) := by decide +kernel
theorem dX4_pack_89 : decode cX4_pack 89 = .ok (.isub, 1) := by decide +kernel
theorem dX4_pack_90 : decode cX4_pack 90 = .ok (.goto 4, 3) := by decide +kernel
theorem dX4_pack_93 : decode cX4_pack 93 = .ok (.iconst 0, 1) := by decide +kernel
theorem dX4_pack_94 : decode cX4_pack 94 = .ok (.putfield 71, 3) := by decide +kernel
theorem dX4_pack_97 : decode cX4_pack 97 = .ok (.aload_n 0, 1) := by decide +kernel
theorem dX4_pack_98 : decode cX4_pack 98 = .ok (.iconst 0, 1) := by decide +kernel
theorem dX4_pack_99 : decode cX4_pack 99 = .ok (.putfield 74, 3) := by decide +kernel
theorem dX4_pack_102 : decode cX4_pack 102 = .ok (.iconst 0, 1) := by decide +kernel
theorem dX4_pack_103 : decode cX4_pack 103 = .ok (.istore_n 2, 1) := by decide +kernel
theorem dX4_pack_104 : decode cX4_pack 104 = .ok (.iload_n 2, 1) := by decide +kernel
theorem dX4_pack_105 : decode cX4_pack 105 = .ok (.aload_n 0, 1) := by decide +kernel
theorem dX4_pack_106 : decode cX4_pack 106 = .ok (.getfield 47, 3) := by decide +kernel
theorem dX4_pack_109 : decode cX4_pack 109 = .ok (.if_icmp .ge 158, 3) := by decide +kernel
theorem dX4_pack_112 : decode cX4_pack 112 = .ok (.aload_n 0, 1) := by decide +kernel
theorem dX4_pack_113 : decode cX4_pack 113 = .ok (.getfield 19, 3) := by decide +kernel
theorem dX4_pack_116 : decode cX4_pack 116 = .ok (.iload_n 2, 1) := by decide +kernel
theorem dX4_pack_117 : decode cX4_pack 117 = .ok (.iaload, 1) := by decide +kernel
theorem dX4_pack_118 : decode cX4_pack 118 = .ok (.istore_n 3, 1) := by decide +kernel
theorem dX4_pack_119 : decode cX4_pack 119 = .ok (.aload_n 0, 1) := by decide +kernel
theorem dX4_pack_120 : decode cX4_pack 120 = .ok (.getfield 13, 3) := by decide +kernel
theorem dX4_pack_123 : decode cX4_pack 123 = .ok (.aload_n 0, 1) := by decide +kernel
theorem dX4_pack_124 : decode cX4_pack 124 = .ok (.getfield 74, 3) := by decide +kernel
theorem dX4_pack_127 : decode cX4_pack 127 = .ok (.iload_n 3, 1) := by decide +kernel
theorem dX4_pack_128 : decode cX4_pack 128 = .ok (.iastore, 1) := by decide +kernel
theorem dX4_pack_129 : decode cX4_pack 129 = .ok (.aload_n 0, 1) := by decide +kernel
theorem dX4_pack_130 : decode cX4_pack 130 = .ok (.dup, 1) := by decide +kernel
theorem dX4_pack_131 : decode cX4_pack 131 = .ok (.getfield 74, 3) := by decide +kernel
theorem dX4_pack_134 : decode cX4_pack 134 = .ok (.iconst 1, 1) := by decide +kernel
theorem dX4_pack_135 : decode cX4_pack 135 = .ok (.iadd, 1) := by decide +kernel
theorem dX4_pack_136 : decode cX4_pack 136 = .ok (.putfield 74, 3) := by decide +kernel
theorem dX4_pack_139 : decode cX4_pack 139 = .ok (.iload_n 3, 1) := by decide +kernel
theorem dX4_pack_140 : decode cX4_pack 140 = .ok (.bipush 127, 2) := by decide +kernel
theorem dX4_pack_142 : decode cX4_pack 142 = .ok (.if_icmp .le 38, 3) := by decide +kernel
theorem dX4_pack_145 : decode cX4_pack 145 = .ok (.aload_n 0, 1) := by decide +kernel
theorem dX4_pack_146 : decode cX4_pack 146 = .ok (.getfield 13, 3) := by decide +kernel
theorem dX4_pack_149 : decode cX4_pack 149 = .ok (.aload_n 0, 1) := by decide +kernel
theorem dX4_pack_150 : decode cX4_pack 150 = .ok (.getfield 74, 3) := by decide +kernel
theorem dX4_pack_153 : decode cX4_pack 153 = .ok (.aload_n 0, 1) := by decide +kernel
theorem dX4_pack_154 : decode cX4_pack 154 = .ok (.getfield 22, 3) := by decide +kernel
theorem dX4_pack_157 : decode cX4_pack 157 = .ok (.iload_n 2, 1) := by decide +kernel
theorem dX4_pack_158 : decode cX4_pack 158 = .ok (.iaload, 1) := by decide +kernel
theorem dX4_pack_159 : decode cX4_pack 159 = .ok (.iastore, 1) := by decide +kernel
theorem dX4_pack_160 : decode cX4_pack 160 = .ok (.aload_n 0, 1) := by decide +kernel
theorem dX4_pack_161 : decode cX4_pack 161 = .ok (.dup, 1) := by decide +kernel
theorem dX4_pack_162 : decode cX4_pack 162 = .ok (.getfield 74, 3) := by decide +kernel
theorem dX4_pack_165 : decode cX4_pack 165 = .ok (.iconst 1, 1) := by decide +kernel
theorem dX4_pack_166 : decode cX4_pack 166 = .ok (.iadd, 1) := by decide +kernel
theorem dX4_pack_167 : decode cX4_pack 167 = .ok (.putfield 74, 3) := by decide +kernel
theorem dX4_pack_170 : decode cX4_pack 170 = .ok (.iload_n 2, 1) := by decide +kernel
theorem dX4_pack_171 : decode cX4_pack 171 = .ok (.iload_n 3, 1) := by decide +kernel
theorem dX4_pack_172 : decode cX4_pack 172 = .ok (.iadd, 1) := by decide +kernel
theorem dX4_pack_173 : decode cX4_pack 173 = .ok (.bipush 126, 2) := by decide +kernel
theorem dX4_pack_175 : decode cX4_pack 175 = .ok (.isub, 1) := by decide +kernel
theorem dX4_pack_176 : decode cX4_pack 176 = .ok (.istore_n 2, 1) := by decide +kernel
theorem dX4_pack_177 : decode cX4_pack 177 = .ok (.goto 50, 3) := by decide +kernel
theorem dX4_pack_180 : decode cX4_pack 180 = .ok (.iconst 0, 1) := by decide +kernel
theorem dX4_pack_181 : decode cX4_pack 181 = .ok (.istore 4, 2) := by decide +kernel
theorem dX4_pack_183 : decode cX4_pack 183 = .ok (.iload 4, 2) := by decide +kernel
theorem dX4_pack_185 : decode cX4_pack 185 = .ok (.iload_n 3, 1) := by decide +kernel
theorem dX4_pack_186 : decode cX4_pack 186 = .ok (.if_icmp .ge 37, 3) := by decide +kernel
theorem dX4_pack_189 : decode cX4_pack 189 = .ok (.aload_n 0, 1) := by decide +kernel
theorem dX4_pack_190 : decode cX4_pack 190 = .ok (.getfield 13, 3) := by decide +kernel
theorem dX4_pack_193 : decode cX4_pack 193 = .ok (.aload_n 0, 1) := by decide +kernel
theorem dX4_pack_194 : decode cX4_pack 194 = .ok (.getfield 74, 3) := by decide +kernel
theorem dX4_pack_197 : decode cX4_pack 197 = .ok (.aload_n 0, 1) := by decide +kernel
theorem dX4_pack_198 : decode cX4_pack 198 = .ok (.getfield 7, 3) := by decide +kernel
theorem dX4_pack_201 : decode cX4_pack 201 = .ok (.iload_n 2, 1) := by decide +kernel
theorem dX4_pack_202 : decode cX4_pack 202 = .ok (.iload 4, 2) := by decide +kernel
theorem dX4_pack_204 : decode cX4_pack 204 = .ok (.iadd, 1) := by decide +kernel
theorem dX4_pack_205 : decode cX4_pack 205 = .ok (.iaload, 1) := by decide +kernel
theorem dX4_pack_206 : decode cX4_pack 206 = .ok (.iastore, 1) := by decide +kernel
theorem dX4_pack_207 : decode cX4_pack 207 = .ok (.aload_n 0, 1) := by decide +kernel
theorem dX4_pack_208 : decode cX4_pack 208 = .ok (.dup, 1) := by decide +kernel
theorem dX4_pack_209 : decode cX4_pack 209 = .ok (.getfield 74, 3) := by decide +kernel
theorem dX4_pack_212 : decode cX4_pack 212 = .ok (.iconst 1, 1) := by decide +kernel
theorem dX4_pack_213 : decode cX4_pack 213 = .ok (.iadd, 1) := by decide +kernel
theorem dX4_pack_214 : decode cX4_pack 214 = .ok (.putfield 74, 3) := by decide +kernel
theorem dX4_pack_217 : decode cX4_pack 217 = .ok (.iinc 4 1, 3) := by decide +kernel
theorem dX4_pack_220 : decode cX4_pack 220 = .ok (.goto (-37), 3) := by decide +kernel
theorem dX4_pack_223 : decode cX4_pack 223 = .ok (.iload_n 2, 1) := by decide +kernel
theorem dX4_pack_224 : decode cX4_pack 224 = .ok (.iload_n 3, 1) := by decide +kernel
theorem dX4_pack_225 : decode cX4_pack 225 = .ok (.iadd, 1) := by decide +kernel
theorem dX4_pack_226 : decode cX4_pack 226 = .ok (.istore_n 2, 1) := by decide +kernel
theorem dX4_pack_227 : decode cX4_pack 227 = .ok (.iload_n 2, 1) := by decide +kernel
theorem dX4_pack_228 : decode cX4_pack 228 = .ok (.aload_n 0, 1) := by decide +kernel
theorem dX4_pack_229 : decode cX4_pack 229 = .ok (.getfield 74, 3) := by decide +kernel
theorem dX4_pack_232 : decode cX4_pack 232 = .ok (.isub, 1) := by decide +kernel
theorem dX4_pack_233 : decode cX4_pack 233 = .ok (.iload_n 1, 1) := by decide +kernel
theorem dX4_pack_234 : decode cX4_pack 234 = .ok (.iadd, 1) := by decide +kernel
theorem dX4_pack_235 : decode cX4_pack 235 = .ok (.aload_n 0, 1) := by decide +kernel
theorem dX4_pack_236 : decode cX4_pack 236 = .ok (.getfield 47, 3) := by decide +kernel
theorem dX4_pack_239 : decode cX4_pack 239 = .ok (.isub, 1) := by decide +kernel
theorem dX4_pack_240 : decode cX4_pack 240 = .ok (.istore 4, 2) := by decide +kernel
theorem dX4_pack_242 : decode cX4_pack 242 = .ok (.aload_n 0, 1) := by decide +kernel
theorem dX4_pack_243 : decode cX4_pack 243 = .ok (.iload 4, 2) := by decide +kernel
theorem dX4_pack_245 : decode cX4_pack 245 = .ok (.aload_n 0, 1) := by decide +kernel
theorem dX4_pack_246 : decode cX4_pack 246 = .ok (.getfield 71, 3) := by decide +kernel
theorem dX4_pack_249 : decode cX4_pack 249 = .ok (.if_icmp .le 8, 3) := by decide +kernel
theorem dX4_pack_252 : decode cX4_pack 252 = .ok (.iload 4, 2) := by decide +kernel
theorem dX4_pack_254 : decode cX4_pack 254 = .ok (.goto 7, 3) := by decide +kernel
theorem dX4_pack_257 : decode cX4_pack 257 = .ok (.aload_n 0, 1) := by decide +kernel
theorem dX4_pack_258 : decode cX4_pack 258 = .ok (.getfield 71, 3) := by decide +kernel
theorem dX4_pack_261 : decode cX4_pack 261 = .ok (.putfield 71, 3) := by decide +kernel
theorem dX4_pack_264 : decode cX4_pack 264 = .ok (.goto (-160), 3) := by decide +kernel
theorem dX4_pack_267 : decode cX4_pack 267 = .ok (.aload_n 0, 1) := by decide +kernel
theorem dX4_pack_268 : decode cX4_pack 268 = .ok (.getfield 13, 3) := by decide +kernel
theorem dX4_pack_271 : decode cX4_pack 271 = .ok (.aload_n 0, 1) := by decide +kernel
theorem dX4_pack_272 : decode cX4_pack 272 = .ok (.getfield 74, 3) := by decide +kernel
theorem dX4_pack_275 : decode cX4_pack 275 = .ok (.iconst 0, 1) := by decide +kernel
theorem dX4_pack_276 : decode cX4_pack 276 = .ok (.iastore, 1) := by decide +kernel
theorem dX4_pack_277 : decode cX4_pack 277 = .ok (.aload_n 0, 1) := by decide +kernel
theorem dX4_pack_278 : decode cX4_pack 278 = .ok (.dup, 1) := by decide +kernel
theorem dX4_pack_279 : decode cX4_pack 279 = .ok (.getfield 74, 3) := by decide +kernel
theorem dX4_pack_282 : decode cX4_pack 282 = .ok (.iconst 1, 1) := by decide +kernel
theorem dX4_pack_283 : decode cX4_pack 283 = .ok (.iadd, 1) := by decide +kernel
theorem dX4_pack_284 : decode cX4_pack 284 = .ok (.putfield 74, 3) := by decide +kernel
theorem dX4_pack_287 : decode cX4_pack 287 = .ok (.return_, 1) := by decide +kernel
end
section
set_option maxRecDepth 20000 in
theorem ggX4_packed_X4_pack : GoodIn wsX4_packed wsX4_pack := goodIn_r _ [7, 8, 9, 10, 11, 12, 2, 13, 14, 15, 16, 17, 18, 19, 6, 20, 21, 22, 23, 24, 25, 26, 27, 28, 29, 30, 31, 32, 33, 34, 35, 36, 37, 38, 39, 40, 41, 42] (by decide +kernel) (by decide +kernel)
set_option maxRecDepth 20000 in
theorem gX4_packed_X4_pack : GoodIn wsX4_packed (wsV RX4 77 RX4 yX4_pack wsX4_pack) := goodIn_app (goodIn_of _ (by decide +kernel)) ggX4_packed_X4_pack
theorem dX4_packed_0 : decode cX4_packed 0 = .ok (.aload_n 0, 1) := by decide +kernel
theorem dX4_packed_1 : decode cX4_packed 1 = .ok (.iconst 0, 1) := by decide +kernel
theorem dX4_packed_2 : decode cX4_packed 2 = .ok (.putfield 44, 3) := by decide +kernel
theorem dX4_packed_5 : decode cX4_packed 5 = .ok (.aload_n 0, 1) := by decide +kernel
theorem dX4_packed_6 : decode cX4_packed 6 = .ok (.invokevirtual 77, 3) := by decide +kernel
theorem dX4_packed_9 : decode cX4_packed 9 = .ok (.aload_n 0, 1) := by decide +kernel
theorem dX4_packed_10 : decode cX4_packed 10 = .ok (.getfield 74, 3) := by decide +kernel
theorem dX4_packed_13 : decode cX4_packed 13 = .ok (.ireturn, 1) := by decide +kernel
set_option maxRecDepth 20000 in
theorem ggX4_stream_X4_pack : GoodIn wsX4_stream wsX4_pack := goodIn_r _ [8, 9, 10, 11, 12, 13, 1, 14, 3, 15, 16, 17, 18, 19, 7, 20, 21, 22, 23, 24, 25, 26, 27, 28, 29, 30, 31, 32, 33, 34, 35, 36, 37, 38, 39, 40, 41, 42] (by decide +kernel) (by decide +kernel)
set_option maxRecDepth 20000 in
theorem gX4_stream_X4_pack : GoodIn wsX4_stream (wsV RX4 77 RX4 yX4_pack wsX4_pack) := goodIn_app (goodIn_of _ (by decide +kernel)) ggX4_stream_X4_pack
theorem dX4_stream_0 : decode cX4_stream 0 = .ok (.aload_n 0, 1) := by decide +kernel
theorem dX4_stream_1 : decode cX4_stream 1 = .ok (.invokevirtual 77, 3) := by decide +kernel
theorem dX4_stream_4 : decode cX4_stream 4 = .ok (.aload_n 0, 1) := by decide +kernel
theorem dX4_stream_5 : decode cX4_stream 5 = .ok (.iload_n 1, 1) := by decide +kernel
theorem dX4_stream_6 : decode cX4_stream 6 = .ok (.ifCond .lt 11, 3) := by decide +kernel
theorem dX4_stream_9 : decode cX4_stream 9 = .ok (.iload_n 1, 1) := by decide +kernel
theorem dX4_stream_10 : decode cX4_stream 10 = .ok (.aload_n 0, 1) := by decide +kernel
theorem dX4_stream_11 : decode cX4_stream 11 = .ok (.getfield 74, 3) := by decide +kernel
theorem dX4_stream_14 : decode cX4_stream 14 = .ok (.if_icmp .lt 7, 3) := by decide +kernel
theorem dX4_stream_17 : decode cX4_stream 17 = .ok (.iconst 1, 1) := by decide +kernel
theorem dX4_stream_18 : decode cX4_stream 18 = .ok (.goto 4, 3) := by decide +kernel
theorem dX4_stream_21 : decode cX4_stream 21 = .ok (.iconst 0, 1) := by decide +kernel
theorem dX4_stream_22 : decode cX4_stream 22 = .ok (.putfield 44, 3) := by decide +kernel
theorem dX4_stream_25 : decode cX4_stream 25 = .ok (.aload_n 0, 1) := by decide +kernel
theorem dX4_stream_26 : decode cX4_stream 26 = .ok (.getfield 44, 3) := by decide +kernel
theorem dX4_stream_29 : decode cX4_stream 29 = .ok (.ifCond .le 7, 3) := by decide +kernel
theorem dX4_stream_32 : decode cX4_stream 32 = .ok (.iconst 0, 1) := by decide +kernel
theorem dX4_stream_33 : decode cX4_stream 33 = .ok (.goto 9, 3) := by decide +kernel
theorem dX4_stream_36 : decode cX4_stream 36 = .ok (.aload_n 0, 1) := by decide +kernel
theorem dX4_stream_37 : decode cX4_stream 37 = .ok (.getfield 13, 3) := by decide +kernel
theorem dX4_stream_40 : decode cX4_stream 40 = .ok (.iload_n 1, 1) := by decide +kernel
theorem dX4_stream_41 : decode cX4_stream 41 = .ok (.iaload, 1) := by decide +kernel
theorem dX4_stream_42 : decode cX4_stream 42 = .ok (.ireturn, 1) := by decide +kernel
set_option maxRecDepth 20000 in
theorem ggX4_gap_X4_pack : GoodIn wsX4_gap wsX4_pack := goodIn_r _ [7, 8, 9, 10, 11, 2, 12, 13, 14, 15, 16, 17, 18, 19, 6, 20, 21, 22, 23, 24, 25, 26, 27, 28, 29, 30, 31, 32, 33, 34, 35, 36, 37, 38, 39, 40, 41, 42] (by decide +kernel) (by decide +kernel)
set_option maxRecDepth 20000 in
theorem gX4_gap_X4_pack : GoodIn wsX4_gap (wsV RX4 77 RX4 yX4_pack wsX4_pack) := goodIn_app (goodIn_of _ (by decide +kernel)) ggX4_gap_X4_pack
theorem dX4_gap_0 : decode cX4_gap 0 = .ok (.aload_n 0, 1) := by decide +kernel
theorem dX4_gap_1 : decode cX4_gap 1 = .ok (.iconst 0, 1) := by decide +kernel
theorem dX4_gap_2 : decode cX4_gap 2 = .ok (.putfield 44, 3) := by decide +kernel
theorem dX4_gap_5 : decode cX4_gap 5 = .ok (.aload_n 0, 1) := by decide +kernel
theorem dX4_gap_6 : decode cX4_gap 6 = .ok (.invokevirtual 77, 3) := by decide +kernel
theorem dX4_gap_9 : decode cX4_gap 9 = .ok (.aload_n 0, 1) := by decide +kernel
theorem dX4_gap_10 : decode cX4_gap 10 = .ok (.getfield 71, 3) := by decide +kernel
theorem dX4_gap_13 : decode cX4_gap 13 = .ok (.ireturn, 1) := by decide +kernel
theorem dX4_wrong_0 : decode cX4_wrong 0 = .ok (.aload_n 0, 1) := by decide +kernel
theorem dX4_wrong_1 : decode cX4_wrong 1 = .ok (.getfield 7, 3) := by decide +kernel
theorem dX4_wrong_4 : decode cX4_wrong 4 = .ok (.iload_n 1, 1) := by decide +kernel
theorem dX4_wrong_5 : decode cX4_wrong 5 = .ok (.iaload, 1) := by decide +kernel
theorem dX4_wrong_6 : decode cX4_wrong 6 = .ok (.istore_n 3, 1) := by decide +kernel
theorem dX4_wrong_7 : decode cX4_wrong 7 = .ok (.iload_n 3, 1) := by decide +kernel
theorem dX4_wrong_8 : decode cX4_wrong 8 = .ok (.bipush 127, 2) := by decide +kernel
theorem dX4_wrong_10 : decode cX4_wrong 10 = .ok (.if_icmp .le 7, 3) := by decide +kernel
theorem dX4_wrong_13 : decode cX4_wrong 13 = .ok (.iconst 1, 1) := by decide +kernel
theorem dX4_wrong_14 : decode cX4_wrong 14 = .ok (.goto 4, 3) := by decide +kernel
theorem dX4_wrong_17 : decode cX4_wrong 17 = .ok (.iconst 0, 1) := by decide +kernel
theorem dX4_wrong_18 : decode cX4_wrong 18 = .ok (.istore 4, 2) := by decide +kernel
theorem dX4_wrong_20 : decode cX4_wrong 20 = .ok (.iload_n 1, 1) := by decide +kernel
theorem dX4_wrong_21 : decode cX4_wrong 21 = .ok (.iload 4, 2) := by decide +kernel
theorem dX4_wrong_23 : decode cX4_wrong 23 = .ok (.ifCond .eq 7, 3) := by decide +kernel
theorem dX4_wrong_26 : decode cX4_wrong 26 = .ok (.iconst 2, 1) := by decide +kernel
theorem dX4_wrong_27 : decode cX4_wrong 27 = .ok (.goto 6, 3) := by decide +kernel
theorem dX4_wrong_30 : decode cX4_wrong 30 = .ok (.iconst 1, 1) := by decide +kernel
theorem dX4_wrong_31 : decode cX4_wrong 31 = .ok (.iload_n 3, 1) := by decide +kernel
theorem dX4_wrong_32 : decode cX4_wrong 32 = .ok (.iadd, 1) := by decide +kernel
theorem dX4_wrong_33 : decode cX4_wrong 33 = .ok (.iadd, 1) := by decide +kernel
theorem dX4_wrong_34 : decode cX4_wrong 34 = .ok (.aload_n 0, 1) := by decide +kernel
theorem dX4_wrong_35 : decode cX4_wrong 35 = .ok (.getfield 47, 3) := by decide +kernel
theorem dX4_wrong_38 : decode cX4_wrong 38 = .ok (.if_icmp .le 5, 3) := by decide +kernel
theorem dX4_wrong_41 : decode cX4_wrong 41 = .ok (.iconst 1, 1) := by decide +kernel
theorem dX4_wrong_42 : decode cX4_wrong 42 = .ok (.ireturn, 1) := by decide +kernel
theorem dX4_wrong_43 : decode cX4_wrong 43 = .ok (.iload 4, 2) := by decide +kernel
theorem dX4_wrong_45 : decode cX4_wrong 45 = .ok (.ifCond .eq 28, 3) := by decide +kernel
theorem dX4_wrong_48 : decode cX4_wrong 48 = .ok (.aload_n 0, 1) := by decide +kernel
theorem dX4_wrong_49 : decode cX4_wrong 49 = .ok (.getfield 7, 3) := by decide +kernel
theorem dX4_wrong_52 : decode cX4_wrong 52 = .ok (.iload_n 1, 1) := by decide +kernel
theorem dX4_wrong_53 : decode cX4_wrong 53 = .ok (.iconst 1, 1) := by decide +kernel
theorem dX4_wrong_54 : decode cX4_wrong 54 = .ok (.iadd, 1) := by decide +kernel
theorem dX4_wrong_55 : decode cX4_wrong 55 = .ok (.iaload, 1) := by decide +kernel
theorem dX4_wrong_56 : decode cX4_wrong 56 = .ok (.ifCond .eq 15, 3) := by decide +kernel
theorem dX4_wrong_59 : decode cX4_wrong 59 = .ok (.aload_n 0, 1) := by decide +kernel
theorem dX4_wrong_60 : decode cX4_wrong 60 = .ok (.getfield 7, 3) := by decide +kernel
theorem dX4_wrong_63 : decode cX4_wrong 63 = .ok (.iload_n 1, 1) := by decide +kernel
theorem dX4_wrong_64 : decode cX4_wrong 64 = .ok (.iconst 1, 1) := by decide +kernel
theorem dX4_wrong_65 : decode cX4_wrong 65 = .ok (.iadd, 1) := by decide +kernel
theorem dX4_wrong_66 : decode cX4_wrong 66 = .ok (.iaload, 1) := by decide +kernel
theorem dX4_wrong_67 : decode cX4_wrong 67 = .ok (.iload_n 2, 1) := by decide +kernel
theorem dX4_wrong_68 : decode cX4_wrong 68 = .ok (.if_icmp .le 5, 3) := by decide +kernel
theorem dX4_wrong_71 : decode cX4_wrong 71 = .ok (.iconst 3, 1) := by decide +kernel
theorem dX4_wrong_72 : decode cX4_wrong 72 = .ok (.ireturn, 1) := by decide +kernel
theorem dX4_wrong_73 : decode cX4_wrong 73 = .ok (.iload_n 2, 1) := by decide +kernel
theorem dX4_wrong_74 : decode cX4_wrong 74 = .ok (.iload 4, 2) := by decide +kernel
theorem dX4_wrong_76 : decode cX4_wrong 76 = .ok (.ifCond .eq 10, 3) := by decide +kernel
theorem dX4_wrong_79 : decode cX4_wrong 79 = .ok (.iload_n 3, 1) := by decide +kernel
theorem dX4_wrong_80 : decode cX4_wrong 80 = .ok (.bipush 126, 2) := by decide +kernel
theorem dX4_wrong_82 : decode cX4_wrong 82 = .ok (.isub, 1) := by decide +kernel
theorem dX4_wrong_83 : decode cX4_wrong 83 = .ok (.goto 4, 3) := by decide +kernel
theorem dX4_wrong_86 : decode cX4_wrong 86 = .ok (.iload_n 3, 1) := by decide +kernel
theorem dX4_wrong_87 : decode cX4_wrong 87 = .ok (.iadd, 1) := by decide +kernel
theorem dX4_wrong_88 : decode cX4_wrong 88 = .ok (.sipush 160, 3) := by decide +kernel
theorem dX4_wrong_91 : decode cX4_wrong 91 = .ok (.if_icmp .le 7, 3) := by decide +kernel
theorem dX4_wrong_94 : decode cX4_wrong 94 = .ok (.iconst 4, 1) := by decide +kernel
theorem dX4_wrong_95 : decode cX4_wrong 95 = .ok (.goto 4, 3) := by decide +kernel
theorem dX4_wrong_98 : decode cX4_wrong 98 = .ok (.iconst 0, 1) := by decide +kernel
theorem dX4_wrong_99 : decode cX4_wrong 99 = .ok (.ireturn, 1) := by decide +kernel
set_option maxRecDepth 20000 in
theorem ggX4_unpack_X4_wrong : GoodIn wsX4_unpack wsX4_wrong := goodIn_r _ [10, 3, 2, 15, 16, 17, 18, 19, 20, 21, 22, 23, 24, 25, 26, 27, 28, 29, 30, 31, 32, 33, 34, 35] (by decide +kernel) (by decide +kernel)
set_option maxRecDepth 20000 in
theorem gX4_unpack_X4_wrong : GoodIn wsX4_unpack (wsV RX4 80 RX4 yX4_wrong wsX4_wrong) := goodIn_app (goodIn_of _ (by decide +kernel)) ggX4_unpack_X4_wrong
set_option maxRecDepth 20000 in
theorem ggX4_unpack_X4_fail : GoodIn wsX4_unpack wsX4_fail := goodIn_r _ [14, 1, 15, 16, 17, 18, 19, 20, 21, 22, 23, 24, 25, 26, 27, 28, 29, 30, 31, 32, 33, 34, 35] (by decide +kernel) (by decide +kernel)
set_option maxRecDepth 20000 in
theorem gX4_unpack_X4_fail : GoodIn wsX4_unpack (wsV RX4 84 RX4 yX4_fail wsX4_fail) := goodIn_app (goodIn_of _ (by decide +kernel)) ggX4_unpack_X4_fail
theorem dX4_unpack_0 : decode cX4_unpack 0 = .ok (.aload_n 0, 1) := by decide +kernel
theorem dX4_unpack_1 : decode cX4_unpack 1 = .ok (.iconst 0, 1) := by decide +kernel
theorem dX4_unpack_2 : decode cX4_unpack 2 = .ok (.putfield 44, 3) := by decide +kernel
theorem dX4_unpack_5 : decode cX4_unpack 5 = .ok (.iconst 0, 1) := by decide +kernel
theorem dX4_unpack_6 : decode cX4_unpack 6 = .ok (.istore_n 1, 1) := by decide +kernel
theorem dX4_unpack_7 : decode cX4_unpack 7 = .ok (.iconst 0, 1) := by decide +kernel
theorem dX4_unpack_8 : decode cX4_unpack 8 = .ok (.istore_n 2, 1) := by decide +kernel
theorem dX4_unpack_9 : decode cX4_unpack 9 = .ok (.iload_n 2, 1) := by decide +kernel
theorem dX4_unpack_10 : decode cX4_unpack 10 = .ok (.aload_n 0, 1) := by decide +kernel
theorem dX4_unpack_11 : decode cX4_unpack 11 = .ok (.getfield 47, 3) := by decide +kernel
theorem dX4_unpack_14 : decode cX4_unpack 14 = .ok (.if_icmp .ge 138, 3) := by decide +kernel
theorem dX4_unpack_17 : decode cX4_unpack 17 = .ok (.aload_n 0, 1) := by decide +kernel
theorem dX4_unpack_18 : decode cX4_unpack 18 = .ok (.getfield 7, 3) := by decide +kernel
theorem dX4_unpack_21 : decode cX4_unpack 21 = .ok (.iload_n 2, 1) := by decide +kernel
theorem dX4_unpack_22 : decode cX4_unpack 22 = .ok (.iaload, 1) := by decide +kernel
theorem dX4_unpack_23 : decode cX4_unpack 23 = .ok (.ifCond .le 129, 3) := by decide +kernel
theorem dX4_unpack_26 : decode cX4_unpack 26 = .ok (.aload_n 0, 1) := by decide +kernel
theorem dX4_unpack_27 : decode cX4_unpack 27 = .ok (.iload_n 2, 1) := by decide +kernel
theorem dX4_unpack_28 : decode cX4_unpack 28 = .ok (.iload_n 1, 1) := by decide +kernel
theorem dX4_unpack_29 : decode cX4_unpack 29 = .ok (.invokevirtual 80, 3) := by decide +kernel
theorem dX4_unpack_32 : decode cX4_unpack 32 = .ok (.istore_n 3, 1) := by decide +kernel
theorem dX4_unpack_33 : decode cX4_unpack 33 = .ok (.iload_n 3, 1) := by decide +kernel
theorem dX4_unpack_34 : decode cX4_unpack 34 = .ok (.ifCond .le 9, 3) := by decide +kernel
theorem dX4_unpack_37 : decode cX4_unpack 37 = .ok (.aload_n 0, 1) := by decide +kernel
theorem dX4_unpack_38 : decode cX4_unpack 38 = .ok (.iload_n 3, 1) := by decide +kernel
theorem dX4_unpack_39 : decode cX4_unpack 39 = .ok (.invokevirtual 84, 3) := by decide +kernel
theorem dX4_unpack_42 : decode cX4_unpack 42 = .ok (.ireturn, 1) := by decide +kernel
theorem dX4_unpack_43 : decode cX4_unpack 43 = .ok (.aload_n 0, 1) := by decide +kernel
theorem dX4_unpack_44 : decode cX4_unpack 44 = .ok (.getfield 7, 3) := by decide +kernel
theorem dX4_unpack_47 : decode cX4_unpack 47 = .ok (.iload_n 2, 1) := by decide +kernel
theorem dX4_unpack_48 : decode cX4_unpack 48 = .ok (.iaload, 1) := by decide +kernel
theorem dX4_unpack_49 : decode cX4_unpack 49 = .ok (.istore 4, 2) := by decide +kernel
theorem dX4_unpack_51 : decode cX4_unpack 51 = .ok (.iload 4, 2) := by decide +kernel
theorem dX4_unpack_53 : decode cX4_unpack 53 = .ok (.bipush 127, 2) := by decide +kernel
theorem dX4_unpack_55 : decode cX4_unpack 55 = .ok (.if_icmp .le 11, 3) := by decide +kernel
theorem dX4_unpack_58 : decode cX4_unpack 58 = .ok (.iload 4, 2) := by decide +kernel
theorem dX4_unpack_60 : decode cX4_unpack 60 = .ok (.bipush 126, 2) := by decide +kernel
theorem dX4_unpack_62 : decode cX4_unpack 62 = .ok (.isub, 1) := by decide +kernel
theorem dX4_unpack_63 : decode cX4_unpack 63 = .ok (.goto 5, 3) := by decide +kernel
theorem dX4_unpack_66 : decode cX4_unpack 66 = .ok (.iload 4, 2) := by decide +kernel
theorem dX4_unpack_68 : decode cX4_unpack 68 = .ok (.istore 5, 2) := by decide +kernel
theorem dX4_unpack_70 : decode cX4_unpack 70 = .ok (.iconst 0, 1) := by decide +kernel
theorem dX4_unpack_71 : decode cX4_unpack 71 = .ok (.istore 6, 2) := by decide +kernel
theorem dX4_unpack_73 : decode cX4_unpack 73 = .ok (.iload 6, 2) := by decide +kernel
theorem dX4_unpack_75 : decode cX4_unpack 75 = .ok (.iload 5, 2) := by decide +kernel
theorem dX4_unpack_77 : decode cX4_unpack 77 = .ok (.if_icmp .ge 54, 3) := by decide +kernel
theorem dX4_unpack_80 : decode cX4_unpack 80 = .ok (.aload_n 0, 1) := by decide +kernel
theorem dX4_unpack_81 : decode cX4_unpack 81 = .ok (.getfield 28, 3) := by decide +kernel
theorem dX4_unpack_84 : decode cX4_unpack 84 = .ok (.iload_n 1, 1) := by decide +kernel
theorem dX4_unpack_85 : decode cX4_unpack 85 = .ok (.iload 4, 2) := by decide +kernel
theorem dX4_unpack_87 : decode cX4_unpack 87 = .ok (.bipush 127, 2) := by decide +kernel
theorem dX4_unpack_89 : decode cX4_unpack 89 = .ok (.if_icmp .le 21, 3) := by decide +kernel
theorem dX4_unpack_92 : decode cX4_unpack 92 = .ok (.aload_n 0, 1) := by decide +kernel
theorem dX4_unpack_93 : decode cX4_unpack 93 = .ok (.getfield 28, 3) := by decide +kernel
theorem dX4_unpack_96 : decode cX4_unpack 96 = .ok (.iload_n 1, 1) := by decide +kernel
theorem dX4_unpack_97 : decode cX4_unpack 97 = .ok (.aload_n 0, 1) := by decide +kernel
theorem dX4_unpack_98 : decode cX4_unpack 98 = .ok (.getfield 7, 3) := by decide +kernel
theorem dX4_unpack_101 : decode cX4_unpack 101 = .ok (.iload_n 2, 1) := by decide +kernel
theorem dX4_unpack_102 : decode cX4_unpack 102 = .ok (.iconst 1, 1) := by decide +kernel
theorem dX4_unpack_103 : decode cX4_unpack 103 = .ok (.iadd, 1) := by decide +kernel
theorem dX4_unpack_104 : decode cX4_unpack 104 = .ok (.iaload, 1) := by decide +kernel
theorem dX4_unpack_105 : decode cX4_unpack 105 = .ok (.isub, 1) := by decide +kernel
theorem dX4_unpack_106 : decode cX4_unpack 106 = .ok (.iaload, 1) := by decide +kernel
theorem dX4_unpack_107 : decode cX4_unpack 107 = .ok (.goto 14, 3) := by decide +kernel
theorem dX4_unpack_110 : decode cX4_unpack 110 = .ok (.aload_n 0, 1) := by decide +kernel
theorem dX4_unpack_111 : decode cX4_unpack 111 = .ok (.getfield 7, 3) := by decide +kernel
theorem dX4_unpack_114 : decode cX4_unpack 114 = .ok (.iload_n 2, 1) := by decide +kernel
theorem dX4_unpack_115 : decode cX4_unpack 115 = .ok (.iconst 1, 1) := by decide +kernel
theorem dX4_unpack_116 : decode cX4_unpack 116 = .ok (.iadd, 1) := by decide +kernel
theorem dX4_unpack_117 : decode cX4_unpack 117 = .ok (.iload 6, 2) := by decide +kernel
theorem dX4_unpack_119 : decode cX4_unpack 119 = .ok (.iadd, 1) := by decide +kernel
theorem dX4_unpack_120 : decode cX4_unpack 120 = .ok (.iaload, 1) := by decide +kernel
theorem dX4_unpack_121 : decode cX4_unpack 121 = .ok (.iastore, 1) := by decide +kernel
theorem dX4_unpack_122 : decode cX4_unpack 122 = .ok (.iinc 1 1, 3) := by decide +kernel
theorem dX4_unpack_125 : decode cX4_unpack 125 = .ok (.iinc 6 1, 3) := by decide +kernel
theorem dX4_unpack_128 : decode cX4_unpack 128 = .ok (.goto (-55), 3) := by decide +kernel
theorem dX4_unpack_131 : decode cX4_unpack 131 = .ok (.iload_n 2, 1) := by decide +kernel
theorem dX4_unpack_132 : decode cX4_unpack 132 = .ok (.iload 4, 2) := by decide +kernel
theorem dX4_unpack_134 : decode cX4_unpack 134 = .ok (.bipush 127, 2) := by decide +kernel
theorem dX4_unpack_136 : decode cX4_unpack 136 = .ok (.if_icmp .le 7, 3) := by decide +kernel
theorem dX4_unpack_139 : decode cX4_unpack 139 = .ok (.iconst 2, 1) := by decide +kernel
theorem dX4_unpack_140 : decode cX4_unpack 140 = .ok (.goto 7, 3) := by decide +kernel
theorem dX4_unpack_143 : decode cX4_unpack 143 = .ok (.iconst 1, 1) := by decide +kernel
theorem dX4_unpack_144 : decode cX4_unpack 144 = .ok (.iload 4, 2) := by decide +kernel
theorem dX4_unpack_146 : decode cX4_unpack 146 = .ok (.iadd, 1) := by decide +kernel
theorem dX4_unpack_147 : decode cX4_unpack 147 = .ok (.iadd, 1) := by decide +kernel
theorem dX4_unpack_148 : decode cX4_unpack 148 = .ok (.istore_n 2, 1) := by decide +kernel
theorem dX4_unpack_149 : decode cX4_unpack 149 = .ok (.goto (-140), 3) := by decide +kernel
theorem dX4_unpack_152 : decode cX4_unpack 152 = .ok (.iload_n 2, 1) := by decide +kernel
theorem dX4_unpack_153 : decode cX4_unpack 153 = .ok (.aload_n 0, 1) := by decide +kernel
theorem dX4_unpack_154 : decode cX4_unpack 154 = .ok (.getfield 47, 3) := by decide +kernel
theorem dX4_unpack_157 : decode cX4_unpack 157 = .ok (.if_icmp .ne 9, 3) := by decide +kernel
theorem dX4_unpack_160 : decode cX4_unpack 160 = .ok (.aload_n 0, 1) := by decide +kernel
theorem dX4_unpack_161 : decode cX4_unpack 161 = .ok (.iconst 1, 1) := by decide +kernel
theorem dX4_unpack_162 : decode cX4_unpack 162 = .ok (.invokevirtual 84, 3) := by decide +kernel
theorem dX4_unpack_165 : decode cX4_unpack 165 = .ok (.ireturn, 1) := by decide +kernel
theorem dX4_unpack_166 : decode cX4_unpack 166 = .ok (.iload_n 2, 1) := by decide +kernel
theorem dX4_unpack_167 : decode cX4_unpack 167 = .ok (.iconst 1, 1) := by decide +kernel
theorem dX4_unpack_168 : decode cX4_unpack 168 = .ok (.iadd, 1) := by decide +kernel
theorem dX4_unpack_169 : decode cX4_unpack 169 = .ok (.aload_n 0, 1) := by decide +kernel
theorem dX4_unpack_170 : decode cX4_unpack 170 = .ok (.getfield 47, 3) := by decide +kernel
theorem dX4_unpack_173 : decode cX4_unpack 173 = .ok (.if_icmp .ge 9, 3) := by decide +kernel
theorem dX4_unpack_176 : decode cX4_unpack 176 = .ok (.aload_n 0, 1) := by decide +kernel
theorem dX4_unpack_177 : decode cX4_unpack 177 = .ok (.iconst 2, 1) := by decide +kernel
theorem dX4_unpack_178 : decode cX4_unpack 178 = .ok (.invokevirtual 84, 3) := by decide +kernel
theorem dX4_unpack_181 : decode cX4_unpack 181 = .ok (.ireturn, 1) := by decide +kernel
theorem dX4_unpack_182 : decode cX4_unpack 182 = .ok (.iconst 0, 1) := by decide +kernel
theorem dX4_unpack_183 : decode cX4_unpack 183 = .ok (.istore_n 3, 1) := by decide +kernel
theorem dX4_unpack_184 : decode cX4_unpack 184 = .ok (.iload_n 3, 1) := by decide +kernel
theorem dX4_unpack_185 : decode cX4_unpack 185 = .ok (.iload_n 1, 1) := by decide +kernel
theorem dX4_unpack_186 : decode cX4_unpack 186 = .ok (.if_icmp .ge 21, 3) := by decide +kernel
theorem dX4_unpack_189 : decode cX4_unpack 189 = .ok (.aload_n 0, 1) := by decide +kernel
theorem dX4_unpack_190 : decode cX4_unpack 190 = .ok (.getfield 7, 3) := by decide +kernel
theorem dX4_unpack_193 : decode cX4_unpack 193 = .ok (.iload_n 3, 1) := by decide +kernel
theorem dX4_unpack_194 : decode cX4_unpack 194 = .ok (.aload_n 0, 1) := by decide +kernel
theorem dX4_unpack_195 : decode cX4_unpack 195 = .ok (.getfield 28, 3) := by decide +kernel
theorem dX4_unpack_198 : decode cX4_unpack 198 = .ok (.iload_n 3, 1) := by decide +kernel
theorem dX4_unpack_199 : decode cX4_unpack 199 = .ok (.iaload, 1) := by decide +kernel
theorem dX4_unpack_200 : decode cX4_unpack 200 = .ok (.iastore, 1) := by decide +kernel
theorem dX4_unpack_201 : decode cX4_unpack 201 = .ok (.iinc 3 1, 3) := by decide +kernel
theorem dX4_unpack_204 : decode cX4_unpack 204 = .ok (.goto (-20), 3) := by decide +kernel
theorem dX4_unpack_207 : decode cX4_unpack 207 = .ok (.aload_n 0, 1) := by decide +kernel
theorem dX4_unpack_208 : decode cX4_unpack 208 = .ok (.iload_n 1, 1) := by decide +kernel
theorem dX4_unpack_209 : decode cX4_unpack 209 = .ok (.putfield 47, 3) := by decide +kernel
theorem dX4_unpack_212 : decode cX4_unpack 212 = .ok (.aload_n 0, 1) := by decide +kernel
theorem dX4_unpack_213 : decode cX4_unpack 213 = .ok (.iconst 0, 1) := by decide +kernel
theorem dX4_unpack_214 : decode cX4_unpack 214 = .ok (.putfield 52, 3) := by decide +kernel
theorem dX4_unpack_217 : decode cX4_unpack 217 = .ok (.iload_n 1, 1) := by decide +kernel
theorem dX4_unpack_218 : decode cX4_unpack 218 = .ok (.ireturn, 1) := by decide +kernel
theorem dX4_clear_0 : decode cX4_clear 0 = .ok (.iconst 0, 1) := by decide +kernel
theorem dX4_clear_1 : decode cX4_clear 1 = .ok (.istore_n 2, 1) := by decide +kernel
theorem dX4_clear_2 : decode cX4_clear 2 = .ok (.iload_n 2, 1) := by decide +kernel
theorem dX4_clear_3 : decode cX4_clear 3 = .ok (.sipush 256, 3) := by decide +kernel
theorem dX4_clear_6 : decode cX4_clear 6 = .ok (.if_icmp .ge 16, 3) := by decide +kernel
theorem dX4_clear_9 : decode cX4_clear 9 = .ok (.aload_n 0, 1) := by decide +kernel
theorem dX4_clear_10 : decode cX4_clear 10 = .ok (.getfield 31, 3) := by decide +kernel
theorem dX4_clear_13 : decode cX4_clear 13 = .ok (.iload_n 2, 1) := by decide +kernel
theorem dX4_clear_14 : decode cX4_clear 14 = .ok (.iconst 0, 1) := by decide +kernel
theorem dX4_clear_15 : decode cX4_clear 15 = .ok (.iastore, 1) := by decide +kernel
theorem dX4_clear_16 : decode cX4_clear 16 = .ok (.iinc 2 1, 3) := by decide +kernel
theorem dX4_clear_19 : decode cX4_clear 19 = .ok (.goto (-17), 3) := by decide +kernel
theorem dX4_clear_22 : decode cX4_clear 22 = .ok (.iconst 0, 1) := by decide +kernel
theorem dX4_clear_23 : decode cX4_clear 23 = .ok (.istore_n 2, 1) := by decide +kernel
theorem dX4_clear_24 : decode cX4_clear 24 = .ok (.iload_n 2, 1) := by decide +kernel
theorem dX4_clear_25 : decode cX4_clear 25 = .ok (.bipush 8, 2) := by decide +kernel
theorem dX4_clear_27 : decode cX4_clear 27 = .ok (.if_icmp .ge 16, 3) := by decide +kernel
theorem dX4_clear_30 : decode cX4_clear 30 = .ok (.aload_n 0, 1) := by decide +kernel
theorem dX4_clear_31 : decode cX4_clear 31 = .ok (.getfield 34, 3) := by decide +kernel
theorem dX4_clear_34 : decode cX4_clear 34 = .ok (.iload_n 2, 1) := by decide +kernel
theorem dX4_clear_35 : decode cX4_clear 35 = .ok (.iconst 0, 1) := by decide +kernel
theorem dX4_clear_36 : decode cX4_clear 36 = .ok (.iastore, 1) := by decide +kernel
theorem dX4_clear_37 : decode cX4_clear 37 = .ok (.iinc 2 1, 3) := by decide +kernel
theorem dX4_clear_40 : decode cX4_clear 40 = .ok (.goto (-16), 3) := by decide +kernel
theorem dX4_clear_43 : decode cX4_clear 43 = .ok (.aload_n 0, 1) := by decide +kernel
theorem dX4_clear_44 : decode cX4_clear 44 = .ok (.iload_n 1, 1) := by decide +kernel
theorem dX4_clear_45 : decode cX4_clear 45 = .ok (.putfield 88, 3) := by decide +kernel
theorem dX4_clear_48 : decode cX4_clear 48 = .ok (.aload_n 0, 1) := by decide +kernel
theorem dX4_clear_49 : decode cX4_clear 49 = .ok (.iconst 0, 1) := by decide +kernel
theorem dX4_clear_50 : decode cX4_clear 50 = .ok (.putfield 37, 3) := by decide +kernel
theorem dX4_clear_53 : decode cX4_clear 53 = .ok (.aload_n 0, 1) := by decide +kernel
theorem dX4_clear_54 : decode cX4_clear 54 = .ok (.iconst 0, 1) := by decide +kernel
theorem dX4_clear_55 : decode cX4_clear 55 = .ok (.putfield 91, 3) := by decide +kernel
theorem dX4_clear_58 : decode cX4_clear 58 = .ok (.aload_n 0, 1) := by decide +kernel
theorem dX4_clear_59 : decode cX4_clear 59 = .ok (.iconst 0, 1) := by decide +kernel
theorem dX4_clear_60 : decode cX4_clear 60 = .ok (.putfield 94, 3) := by decide +kernel
theorem dX4_clear_63 : decode cX4_clear 63 = .ok (.return_, 1) := by decide +kernel
set_option maxRecDepth 20000 in
theorem ggX4_load_X4_clear : GoodIn wsX4_load wsX4_clear := goodIn_r _ [11, 5, 12, 13, 14, 15, 16, 17, 18, 19, 20, 21, 22, 23, 24, 25, 26, 27, 28, 29, 30, 31, 32, 33, 34, 35, 36, 37] (by decide +kernel) (by decide +kernel)
set_option maxRecDepth 20000 in
theorem gX4_load_X4_clear : GoodIn wsX4_load (wsV RX4 97 RX4 yX4_clear wsX4_clear) := goodIn_app (goodIn_of _ (by decide +kernel)) ggX4_load_X4_clear
theorem dX4_load_0 : decode cX4_load 0 = .ok (.aload_n 0, 1) := by decide +kernel
theorem dX4_load_1 : decode cX4_load 1 = .ok (.aload_n 0, 1) := by decide +kernel
theorem dX4_load_2 : decode cX4_load 2 = .ok (.getfield 60, 3) := by decide +kernel
theorem dX4_load_5 : decode cX4_load 5 = .ok (.aload_n 0, 1) := by decide +kernel
theorem dX4_load_6 : decode cX4_load 6 = .ok (.getfield 47, 3) := by decide +kernel
theorem dX4_load_9 : decode cX4_load 9 = .ok (.iadd, 1) := by decide +kernel
theorem dX4_load_10 : decode cX4_load 10 = .ok (.sipush 256, 3) := by decide +kernel
theorem dX4_load_13 : decode cX4_load 13 = .ok (.if_icmp .le 7, 3) := by decide +kernel
theorem dX4_load_16 : decode cX4_load 16 = .ok (.iconst 1, 1) := by decide +kernel
theorem dX4_load_17 : decode cX4_load 17 = .ok (.goto 4, 3) := by decide +kernel
theorem dX4_load_20 : decode cX4_load 20 = .ok (.iconst 0, 1) := by decide +kernel
theorem dX4_load_21 : decode cX4_load 21 = .ok (.putfield 44, 3) := by decide +kernel
theorem dX4_load_24 : decode cX4_load 24 = .ok (.aload_n 0, 1) := by decide +kernel
theorem dX4_load_25 : decode cX4_load 25 = .ok (.getfield 44, 3) := by decide +kernel
theorem dX4_load_28 : decode cX4_load 28 = .ok (.ifCond .le 4, 3) := by decide +kernel
theorem dX4_load_31 : decode cX4_load 31 = .ok (.return_, 1) := by decide +kernel
theorem dX4_load_32 : decode cX4_load 32 = .ok (.aload_n 0, 1) := by decide +kernel
theorem dX4_load_33 : decode cX4_load 33 = .ok (.aload_n 0, 1) := by decide +kernel
theorem dX4_load_34 : decode cX4_load 34 = .ok (.getfield 63, 3) := by decide +kernel
theorem dX4_load_37 : decode cX4_load 37 = .ok (.invokevirtual 97, 3) := by decide +kernel
theorem dX4_load_40 : decode cX4_load 40 = .ok (.iconst 0, 1) := by decide +kernel
theorem dX4_load_41 : decode cX4_load 41 = .ok (.istore_n 1, 1) := by decide +kernel
theorem dX4_load_42 : decode cX4_load 42 = .ok (.iload_n 1, 1) := by decide +kernel
theorem dX4_load_43 : decode cX4_load 43 = .ok (.aload_n 0, 1) := by decide +kernel
theorem dX4_load_44 : decode cX4_load 44 = .ok (.getfield 47, 3) := by decide +kernel
theorem dX4_load_47 : decode cX4_load 47 = .ok (.if_icmp .ge 26, 3) := by decide +kernel
theorem dX4_load_50 : decode cX4_load 50 = .ok (.aload_n 0, 1) := by decide +kernel
theorem dX4_load_51 : decode cX4_load 51 = .ok (.getfield 31, 3) := by decide +kernel
theorem dX4_load_54 : decode cX4_load 54 = .ok (.aload_n 0, 1) := by decide +kernel
theorem dX4_load_55 : decode cX4_load 55 = .ok (.getfield 60, 3) := by decide +kernel
theorem dX4_load_58 : decode cX4_load 58 = .ok (.iload_n 1, 1) := by decide +kernel
theorem dX4_load_59 : decode cX4_load 59 = .ok (.iadd, 1) := by decide +kernel
theorem dX4_load_60 : decode cX4_load 60 = .ok (.aload_n 0, 1) := by decide +kernel
theorem dX4_load_61 : decode cX4_load 61 = .ok (.getfield 7, 3) := by decide +kernel
theorem dX4_load_64 : decode cX4_load 64 = .ok (.iload_n 1, 1) := by decide +kernel
theorem dX4_load_65 : decode cX4_load 65 = .ok (.iaload, 1) := by decide +kernel
theorem dX4_load_66 : decode cX4_load 66 = .ok (.iastore, 1) := by decide +kernel
theorem dX4_load_67 : decode cX4_load 67 = .ok (.iinc 1 1, 3) := by decide +kernel
theorem dX4_load_70 : decode cX4_load 70 = .ok (.goto (-28), 3) := by decide +kernel
theorem dX4_load_73 : decode cX4_load 73 = .ok (.return_, 1) := by decide +kernel
theorem dX4_eighth_0 : decode cX4_eighth 0 = .ok (.lload_n 0, 1) := by decide +kernel
theorem dX4_eighth_1 : decode cX4_eighth 1 = .ok (.bipush 8, 2) := by decide +kernel
theorem dX4_eighth_3 : decode cX4_eighth 3 = .ok (.iload_n 2, 1) := by decide +kernel
theorem dX4_eighth_4 : decode cX4_eighth 4 = .ok (.imul, 1) := by decide +kernel
theorem dX4_eighth_5 : decode cX4_eighth 5 = .ok (.lshr, 1) := by decide +kernel
theorem dX4_eighth_6 : decode cX4_eighth 6 = .ok (.ldc2_w 50, 3) := by decide +kernel
theorem dX4_eighth_9 : decode cX4_eighth 9 = .ok (.land, 1) := by decide +kernel
theorem dX4_eighth_10 : decode cX4_eighth 10 = .ok (.l2i, 1) := by decide +kernel
theorem dX4_eighth_11 : decode cX4_eighth 11 = .ok (.ireturn, 1) := by decide +kernel
set_option maxRecDepth 20000 in
theorem ggX4_first_X4_eighth : GoodIn wsX4_first wsX4_eighth := goodIn_r _ [8, 9] (by decide +kernel) (by decide +kernel)
set_option maxRecDepth 20000 in
theorem gX4_first_X4_eighth : GoodIn wsX4_first (va_wsS RX4 108 yX4_eighth wsX4_eighth) := goodIn_app (goodIn_of _ (by decide +kernel)) ggX4_first_X4_eighth
theorem dX4_first_0 : decode cX4_first 0 = .ok (.iload_n 0, 1) := by decide +kernel
theorem dX4_first_1 : decode cX4_first 1 = .ok (.bipush 8, 2) := by decide +kernel
theorem dX4_first_3 : decode cX4_first 3 = .ok (.if_icmp .ge 9, 3) := by decide +kernel
theorem dX4_first_6 : decode cX4_first 6 = .ok (.ldc2_w 100, 3) := by decide +kernel
theorem dX4_first_9 : decode cX4_first 9 = .ok (.goto 30, 3) := by decide +kernel
theorem dX4_first_12 : decode cX4_first 12 = .ok (.iload_n 0, 1) := by decide +kernel
theorem dX4_first_13 : decode cX4_first 13 = .ok (.bipush 16, 2) := by decide +kernel
theorem dX4_first_15 : decode cX4_first 15 = .ok (.if_icmp .ge 9, 3) := by decide +kernel
theorem dX4_first_18 : decode cX4_first 18 = .ok (.ldc2_w 102, 3) := by decide +kernel
theorem dX4_first_21 : decode cX4_first 21 = .ok (.goto 18, 3) := by decide +kernel
theorem dX4_first_24 : decode cX4_first 24 = .ok (.iload_n 0, 1) := by decide +kernel
theorem dX4_first_25 : decode cX4_first 25 = .ok (.bipush 24, 2) := by decide +kernel
theorem dX4_first_27 : decode cX4_first 27 = .ok (.if_icmp .ge 9, 3) := by decide +kernel
theorem dX4_first_30 : decode cX4_first 30 = .ok (.ldc2_w 104, 3) := by decide +kernel
theorem dX4_first_33 : decode cX4_first 33 = .ok (.goto 6, 3) := by decide +kernel
theorem dX4_first_36 : decode cX4_first 36 = .ok (.ldc2_w 106, 3) := by decide +kernel
theorem dX4_first_39 : decode cX4_first 39 = .ok (.lstore_n 1, 1) := by decide +kernel
theorem dX4_first_40 : decode cX4_first 40 = .ok (.lload_n 1, 1) := by decide +kernel
theorem dX4_first_41 : decode cX4_first 41 = .ok (.iload_n 0, 1) := by decide +kernel
theorem dX4_first_42 : decode cX4_first 42 = .ok (.bipush 8, 2) := by decide +kernel
theorem dX4_first_44 : decode cX4_first 44 = .ok (.irem, 1) := by decide +kernel
theorem dX4_first_45 : decode cX4_first 45 = .ok (.invokestatic 108, 3) := by decide +kernel
theorem dX4_first_48 : decode cX4_first 48 = .ok (.ireturn, 1) := by decide +kernel
set_option maxRecDepth 20000 in
theorem ggX4_second_X4_eighth : GoodIn wsX4_second wsX4_eighth := goodIn_r _ [12, 13] (by decide +kernel) (by decide +kernel)
set_option maxRecDepth 20000 in
theorem gX4_second_X4_eighth : GoodIn wsX4_second (va_wsS RX4 108 yX4_eighth wsX4_eighth) := goodIn_app (goodIn_of _ (by decide +kernel)) ggX4_second_X4_eighth
theorem dX4_second_0 : decode cX4_second 0 = .ok (.iload_n 1, 1) := by decide +kernel
theorem dX4_second_1 : decode cX4_second 1 = .ok (.bipush 8, 2) := by decide +kernel
theorem dX4_second_3 : decode cX4_second 3 = .ok (.if_icmp .ge 9, 3) := by decide +kernel
theorem dX4_second_6 : decode cX4_second 6 = .ok (.ldc2_w 112, 3) := by decide +kernel
theorem dX4_second_9 : decode cX4_second 9 = .ok (.goto 30, 3) := by decide +kernel
theorem dX4_second_12 : decode cX4_second 12 = .ok (.iload_n 1, 1) := by decide +kernel
theorem dX4_second_13 : decode cX4_second 13 = .ok (.bipush 16, 2) := by decide +kernel
theorem dX4_second_15 : decode cX4_second 15 = .ok (.if_icmp .ge 9, 3) := by decide +kernel
theorem dX4_second_18 : decode cX4_second 18 = .ok (.ldc2_w 114, 3) := by decide +kernel
theorem dX4_second_21 : decode cX4_second 21 = .ok (.goto 18, 3) := by decide +kernel
theorem dX4_second_24 : decode cX4_second 24 = .ok (.iload_n 1, 1) := by decide +kernel
theorem dX4_second_25 : decode cX4_second 25 = .ok (.bipush 24, 2) := by decide +kernel
theorem dX4_second_27 : decode cX4_second 27 = .ok (.if_icmp .ge 9, 3) := by decide +kernel
theorem dX4_second_30 : decode cX4_second 30 = .ok (.ldc2_w 116, 3) := by decide +kernel
theorem dX4_second_33 : decode cX4_second 33 = .ok (.goto 6, 3) := by decide +kernel
theorem dX4_second_36 : decode cX4_second 36 = .ok (.ldc2_w 118, 3) := by decide +kernel
theorem dX4_second_39 : decode cX4_second 39 = .ok (.lstore_n 3, 1) := by decide +kernel
theorem dX4_second_40 : decode cX4_second 40 = .ok (.lload_n 3, 1) := by decide +kernel
theorem dX4_second_41 : decode cX4_second 41 = .ok (.iload_n 1, 1) := by decide +kernel
theorem dX4_second_42 : decode cX4_second 42 = .ok (.bipush 8, 2) := by decide +kernel
theorem dX4_second_44 : decode cX4_second 44 = .ok (.irem, 1) := by decide +kernel
theorem dX4_second_45 : decode cX4_second 45 = .ok (.invokestatic 108, 3) := by decide +kernel
theorem dX4_second_48 : decode cX4_second 48 = .ok (.istore 5, 2) := by decide +kernel
theorem dX4_second_50 : decode cX4_second 50 = .ok (.ldc 120, 2) := by decide +kernel
theorem dX4_second_52 : decode cX4_second 52 = .ok (.iload_n 1, 1) := by decide +kernel
theorem dX4_second_53 : decode cX4_second 53 = .ok (.ishr, 1) := by decide +kernel
theorem dX4_second_54 : decode cX4_second 54 = .ok (.iconst 1, 1) := by decide +kernel
theorem dX4_second_55 : decode cX4_second 55 = .ok (.iand, 1) := by decide +kernel
theorem dX4_second_56 : decode cX4_second 56 = .ok (.iconst 1, 1) := by decide +kernel
theorem dX4_second_57 : decode cX4_second 57 = .ok (.if_icmp .ne 7, 3) := by decide +kernel
theorem dX4_second_60 : decode cX4_second 60 = .ok (.iconst 1, 1) := by decide +kernel
theorem dX4_second_61 : decode cX4_second 61 = .ok (.goto 4, 3) := by decide +kernel
theorem dX4_second_64 : decode cX4_second 64 = .ok (.iconst 0, 1) := by decide +kernel
theorem dX4_second_65 : decode cX4_second 65 = .ok (.istore 6, 2) := by decide +kernel
theorem dX4_second_67 : decode cX4_second 67 = .ok (.iload_n 1, 1) := by decide +kernel
theorem dX4_second_68 : decode cX4_second 68 = .ok (.ifCond .ne 16, 3) := by decide +kernel
theorem dX4_second_71 : decode cX4_second 71 = .ok (.iload_n 2, 1) := by decide +kernel
theorem dX4_second_72 : decode cX4_second 72 = .ok (.aload_n 0, 1) := by decide +kernel
theorem dX4_second_73 : decode cX4_second 73 = .ok (.getfield 74, 3) := by decide +kernel
theorem dX4_second_76 : decode cX4_second 76 = .ok (.isub, 1) := by decide +kernel
theorem dX4_second_77 : decode cX4_second 77 = .ok (.sipush 255, 3) := by decide +kernel
theorem dX4_second_80 : decode cX4_second 80 = .ok (.iand, 1) := by decide +kernel
theorem dX4_second_81 : decode cX4_second 81 = .ok (.goto 46, 3) := by decide +kernel
theorem dX4_second_84 : decode cX4_second 84 = .ok (.iload_n 1, 1) := by decide +kernel
theorem dX4_second_85 : decode cX4_second 85 = .ok (.iconst 1, 1) := by decide +kernel
theorem dX4_second_86 : decode cX4_second 86 = .ok (.if_icmp .ne 10, 3) := by decide +kernel
theorem dX4_second_89 : decode cX4_second 89 = .ok (.aload_n 0, 1) := by decide +kernel
theorem dX4_second_90 : decode cX4_second 90 = .ok (.getfield 60, 3) := by decide +kernel
theorem dX4_second_93 : decode cX4_second 93 = .ok (.goto 34, 3) := by decide +kernel
theorem dX4_second_96 : decode cX4_second 96 = .ok (.iload_n 1, 1) := by decide +kernel
theorem dX4_second_97 : decode cX4_second 97 = .ok (.bipush 29, 2) := by decide +kernel
theorem dX4_second_99 : decode cX4_second 99 = .ok (.if_icmp .ne 10, 3) := by decide +kernel
theorem dX4_second_102 : decode cX4_second 102 = .ok (.aload_n 0, 1) := by decide +kernel
theorem dX4_second_103 : decode cX4_second 103 = .ok (.getfield 63, 3) := by decide +kernel
theorem dX4_second_106 : decode cX4_second 106 = .ok (.goto 21, 3) := by decide +kernel
theorem dX4_second_109 : decode cX4_second 109 = .ok (.iload 6, 2) := by decide +kernel
theorem dX4_second_111 : decode cX4_second 111 = .ok (.ifCond .eq 14, 3) := by decide +kernel
theorem dX4_second_114 : decode cX4_second 114 = .ok (.iload_n 2, 1) := by decide +kernel
theorem dX4_second_115 : decode cX4_second 115 = .ok (.iload 5, 2) := by decide +kernel
theorem dX4_second_117 : decode cX4_second 117 = .ok (.iadd, 1) := by decide +kernel
theorem dX4_second_118 : decode cX4_second 118 = .ok (.sipush 255, 3) := by decide +kernel
theorem dX4_second_121 : decode cX4_second 121 = .ok (.iand, 1) := by decide +kernel
theorem dX4_second_122 : decode cX4_second 122 = .ok (.goto 5, 3) := by decide +kernel
theorem dX4_second_125 : decode cX4_second 125 = .ok (.iload 5, 2) := by decide +kernel
theorem dX4_second_127 : decode cX4_second 127 = .ok (.ireturn, 1) := by decide +kernel
end
section
set_option maxRecDepth 20000 in
theorem ggX4_isPackable_X4_pack : GoodIn wsX4_isPackable wsX4_pack := goodIn_r _ [8, 9, 10, 2, 11, 3, 12, 13, 14, 15, 16, 17, 18, 19, 7, 20, 21, 22, 23, 24, 25, 26, 27, 28, 29, 30, 31, 32, 33, 34, 35, 36, 37, 38, 39, 40, 41, 42] (by decide +kernel) (by decide +kernel)
set_option maxRecDepth 20000 in
theorem gX4_isPackable_X4_pack : GoodIn wsX4_isPackable (wsV RX4 77 RX4 yX4_pack wsX4_pack) := goodIn_app (goodIn_of _ (by decide +kernel)) ggX4_isPackable_X4_pack
theorem dX4_isPackable_0 : decode cX4_isPackable 0 = .ok (.aload_n 0, 1) := by decide +kernel
theorem dX4_isPackable_1 : decode cX4_isPackable 1 = .ok (.invokevirtual 77, 3) := by decide +kernel
theorem dX4_isPackable_4 : decode cX4_isPackable 4 = .ok (.aload_n 0, 1) := by decide +kernel
theorem dX4_isPackable_5 : decode cX4_isPackable 5 = .ok (.getfield 60, 3) := by decide +kernel
theorem dX4_isPackable_8 : decode cX4_isPackable 8 = .ok (.aload_n 0, 1) := by decide +kernel
theorem dX4_isPackable_9 : decode cX4_isPackable 9 = .ok (.getfield 47, 3) := by decide +kernel
theorem dX4_isPackable_12 : decode cX4_isPackable 12 = .ok (.iadd, 1) := by decide +kernel
theorem dX4_isPackable_13 : decode cX4_isPackable 13 = .ok (.aload_n 0, 1) := by decide +kernel
theorem dX4_isPackable_14 : decode cX4_isPackable 14 = .ok (.getfield 71, 3) := by decide +kernel
theorem dX4_isPackable_17 : decode cX4_isPackable 17 = .ok (.iadd, 1) := by decide +kernel
theorem dX4_isPackable_18 : decode cX4_isPackable 18 = .ok (.bipush 60, 2) := by decide +kernel
theorem dX4_isPackable_20 : decode cX4_isPackable 20 = .ok (.iadd, 1) := by decide +kernel
theorem dX4_isPackable_21 : decode cX4_isPackable 21 = .ok (.sipush 256, 3) := by decide +kernel
theorem dX4_isPackable_24 : decode cX4_isPackable 24 = .ok (.if_icmp .gt 7, 3) := by decide +kernel
theorem dX4_isPackable_27 : decode cX4_isPackable 27 = .ok (.iconst 1, 1) := by decide +kernel
theorem dX4_isPackable_28 : decode cX4_isPackable 28 = .ok (.goto 4, 3) := by decide +kernel
theorem dX4_isPackable_31 : decode cX4_isPackable 31 = .ok (.iconst 0, 1) := by decide +kernel
theorem dX4_isPackable_32 : decode cX4_isPackable 32 = .ok (.ireturn, 1) := by decide +kernel
set_option maxRecDepth 20000 in
theorem ggX4_loadPacked_X4_isPackable : GoodIn wsX4_loadPacked wsX4_isPackable := goodIn_r _ [12, 2, 3, 4, 13, 14, 15, 11, 16, 17, 18, 19, 5, 20, 7, 21, 22, 23, 24, 25, 26, 27, 58, 59, 60, 61, 62, 63, 64, 65, 66, 67, 68, 69, 70, 71, 72, 73, 74, 75, 76, 77, 78] (by decide +kernel) (by decide +kernel)
set_option maxRecDepth 20000 in
theorem gX4_loadPacked_X4_isPackable : GoodIn wsX4_loadPacked (wsV RX4 121 RX4 yX4_isPackable wsX4_isPackable) := goodIn_app (goodIn_of _ (by decide +kernel)) ggX4_loadPacked_X4_isPackable
set_option maxRecDepth 20000 in
theorem ggX4_loadPacked_X4_clear : GoodIn wsX4_loadPacked wsX4_clear := goodIn_r _ [31, 6, 32, 33, 34, 35, 36, 58, 59, 60, 61, 62, 63, 64, 65, 66, 67, 68, 69, 70, 71, 72, 73, 74, 75, 76, 77, 78] (by decide +kernel) (by decide +kernel)
set_option maxRecDepth 20000 in
theorem gX4_loadPacked_X4_clear : GoodIn wsX4_loadPacked (wsV RX4 97 RX4 yX4_clear wsX4_clear) := goodIn_app (goodIn_of _ (by decide +kernel)) ggX4_loadPacked_X4_clear
set_option maxRecDepth 20000 in
theorem ggX4_loadPacked_X4_first : GoodIn wsX4_loadPacked wsX4_first := goodIn_r _ [39, 40, 41, 42, 43, 44, 45, 11, 46, 47] (by decide +kernel) (by decide +kernel)
set_option maxRecDepth 20000 in
theorem gX4_loadPacked_X4_first : GoodIn wsX4_loadPacked (va_wsS RX4 125 yX4_first wsX4_first) := goodIn_app (goodIn_of _ (by decide +kernel)) ggX4_loadPacked_X4_first
set_option maxRecDepth 20000 in
theorem ggX4_loadPacked_X4_second : GoodIn wsX4_loadPacked wsX4_second := goodIn_r _ [51, 52, 53, 54, 55, 56, 5, 2, 57, 44, 45, 11, 46, 47, 58, 59, 60, 61, 62, 63, 64, 65, 66, 67, 68, 69, 70, 71, 72, 73, 74, 75, 76, 77, 78] (by decide +kernel) (by decide +kernel)
set_option maxRecDepth 20000 in
theorem gX4_loadPacked_X4_second : GoodIn wsX4_loadPacked (wsV RX4 128 RX4 yX4_second wsX4_second) := goodIn_app (goodIn_of _ (by decide +kernel)) ggX4_loadPacked_X4_second
theorem dX4_loadPacked_0 : decode cX4_loadPacked 0 = .ok (.aload_n 0, 1) := by decide +kernel
theorem dX4_loadPacked_1 : decode cX4_loadPacked 1 = .ok (.aload_n 0, 1) := by decide +kernel
theorem dX4_loadPacked_2 : decode cX4_loadPacked 2 = .ok (.invokevirtual 121, 3) := by decide +kernel
theorem dX4_loadPacked_5 : decode cX4_loadPacked 5 = .ok (.ifCond .eq 7, 3) := by decide +kernel
theorem dX4_loadPacked_8 : decode cX4_loadPacked 8 = .ok (.iconst 0, 1) := by decide +kernel
theorem dX4_loadPacked_9 : decode cX4_loadPacked 9 = .ok (.goto 4, 3) := by decide +kernel
theorem dX4_loadPacked_12 : decode cX4_loadPacked 12 = .ok (.iconst 1, 1) := by decide +kernel
theorem dX4_loadPacked_13 : decode cX4_loadPacked 13 = .ok (.putfield 44, 3) := by decide +kernel
theorem dX4_loadPacked_16 : decode cX4_loadPacked 16 = .ok (.aload_n 0, 1) := by decide +kernel
theorem dX4_loadPacked_17 : decode cX4_loadPacked 17 = .ok (.getfield 44, 3) := by decide +kernel
theorem dX4_loadPacked_20 : decode cX4_loadPacked 20 = .ok (.ifCond .le 5, 3) := by decide +kernel
theorem dX4_loadPacked_23 : decode cX4_loadPacked 23 = .ok (.iconst 0, 1) := by decide +kernel
theorem dX4_loadPacked_24 : decode cX4_loadPacked 24 = .ok (.ireturn, 1) := by decide +kernel
theorem dX4_loadPacked_25 : decode cX4_loadPacked 25 = .ok (.aload_n 0, 1) := by decide +kernel
theorem dX4_loadPacked_26 : decode cX4_loadPacked 26 = .ok (.getfield 60, 3) := by decide +kernel
theorem dX4_loadPacked_29 : decode cX4_loadPacked 29 = .ok (.aload_n 0, 1) := by decide +kernel
theorem dX4_loadPacked_30 : decode cX4_loadPacked 30 = .ok (.getfield 47, 3) := by decide +kernel
theorem dX4_loadPacked_33 : decode cX4_loadPacked 33 = .ok (.iadd, 1) := by decide +kernel
theorem dX4_loadPacked_34 : decode cX4_loadPacked 34 = .ok (.aload_n 0, 1) := by decide +kernel
theorem dX4_loadPacked_35 : decode cX4_loadPacked 35 = .ok (.getfield 71, 3) := by decide +kernel
theorem dX4_loadPacked_38 : decode cX4_loadPacked 38 = .ok (.iadd, 1) := by decide +kernel
theorem dX4_loadPacked_39 : decode cX4_loadPacked 39 = .ok (.istore_n 1, 1) := by decide +kernel
theorem dX4_loadPacked_40 : decode cX4_loadPacked 40 = .ok (.aload_n 0, 1) := by decide +kernel
theorem dX4_loadPacked_41 : decode cX4_loadPacked 41 = .ok (.iload_n 1, 1) := by decide +kernel
theorem dX4_loadPacked_42 : decode cX4_loadPacked 42 = .ok (.invokevirtual 97, 3) := by decide +kernel
theorem dX4_loadPacked_45 : decode cX4_loadPacked 45 = .ok (.iconst 0, 1) := by decide +kernel
theorem dX4_loadPacked_46 : decode cX4_loadPacked 46 = .ok (.istore_n 2, 1) := by decide +kernel
theorem dX4_loadPacked_47 : decode cX4_loadPacked 47 = .ok (.iload_n 2, 1) := by decide +kernel
theorem dX4_loadPacked_48 : decode cX4_loadPacked 48 = .ok (.aload_n 0, 1) := by decide +kernel
theorem dX4_loadPacked_49 : decode cX4_loadPacked 49 = .ok (.getfield 74, 3) := by decide +kernel
theorem dX4_loadPacked_52 : decode cX4_loadPacked 52 = .ok (.if_icmp .ge 28, 3) := by decide +kernel
theorem dX4_loadPacked_55 : decode cX4_loadPacked 55 = .ok (.aload_n 0, 1) := by decide +kernel
theorem dX4_loadPacked_56 : decode cX4_loadPacked 56 = .ok (.getfield 31, 3) := by decide +kernel
theorem dX4_loadPacked_59 : decode cX4_loadPacked 59 = .ok (.iload_n 1, 1) := by decide +kernel
theorem dX4_loadPacked_60 : decode cX4_loadPacked 60 = .ok (.aload_n 0, 1) := by decide +kernel
theorem dX4_loadPacked_61 : decode cX4_loadPacked 61 = .ok (.getfield 74, 3) := by decide +kernel
theorem dX4_loadPacked_64 : decode cX4_loadPacked 64 = .ok (.isub, 1) := by decide +kernel
theorem dX4_loadPacked_65 : decode cX4_loadPacked 65 = .ok (.iload_n 2, 1) := by decide +kernel
theorem dX4_loadPacked_66 : decode cX4_loadPacked 66 = .ok (.iadd, 1) := by decide +kernel
theorem dX4_loadPacked_67 : decode cX4_loadPacked 67 = .ok (.aload_n 0, 1) := by decide +kernel
theorem dX4_loadPacked_68 : decode cX4_loadPacked 68 = .ok (.getfield 13, 3) := by decide +kernel
theorem dX4_loadPacked_71 : decode cX4_loadPacked 71 = .ok (.iload_n 2, 1) := by decide +kernel
theorem dX4_loadPacked_72 : decode cX4_loadPacked 72 = .ok (.iaload, 1) := by decide +kernel
theorem dX4_loadPacked_73 : decode cX4_loadPacked 73 = .ok (.iastore, 1) := by decide +kernel
theorem dX4_loadPacked_74 : decode cX4_loadPacked 74 = .ok (.iinc 2 1, 3) := by decide +kernel
theorem dX4_loadPacked_77 : decode cX4_loadPacked 77 = .ok (.goto (-30), 3) := by decide +kernel
theorem dX4_loadPacked_80 : decode cX4_loadPacked 80 = .ok (.iconst 0, 1) := by decide +kernel
theorem dX4_loadPacked_81 : decode cX4_loadPacked 81 = .ok (.istore_n 2, 1) := by decide +kernel
theorem dX4_loadPacked_82 : decode cX4_loadPacked 82 = .ok (.iload_n 2, 1) := by decide +kernel
theorem dX4_loadPacked_83 : decode cX4_loadPacked 83 = .ok (.bipush 30, 2) := by decide +kernel
theorem dX4_loadPacked_85 : decode cX4_loadPacked 85 = .ok (.if_icmp .ge 41, 3) := by decide +kernel
theorem dX4_loadPacked_88 : decode cX4_loadPacked 88 = .ok (.aload_n 0, 1) := by decide +kernel
theorem dX4_loadPacked_89 : decode cX4_loadPacked 89 = .ok (.getfield 31, 3) := by decide +kernel
theorem dX4_loadPacked_92 : decode cX4_loadPacked 92 = .ok (.iload_n 1, 1) := by decide +kernel
theorem dX4_loadPacked_93 : decode cX4_loadPacked 93 = .ok (.iconst 2, 1) := by decide +kernel
theorem dX4_loadPacked_94 : decode cX4_loadPacked 94 = .ok (.iload_n 2, 1) := by decide +kernel
theorem dX4_loadPacked_95 : decode cX4_loadPacked 95 = .ok (.imul, 1) := by decide +kernel
theorem dX4_loadPacked_96 : decode cX4_loadPacked 96 = .ok (.iadd, 1) := by decide +kernel
theorem dX4_loadPacked_97 : decode cX4_loadPacked 97 = .ok (.iload_n 2, 1) := by decide +kernel
theorem dX4_loadPacked_98 : decode cX4_loadPacked 98 = .ok (.invokestatic 125, 3) := by decide +kernel
theorem dX4_loadPacked_101 : decode cX4_loadPacked 101 = .ok (.iastore, 1) := by decide +kernel
theorem dX4_loadPacked_102 : decode cX4_loadPacked 102 = .ok (.aload_n 0, 1) := by decide +kernel
theorem dX4_loadPacked_103 : decode cX4_loadPacked 103 = .ok (.getfield 31, 3) := by decide +kernel
theorem dX4_loadPacked_106 : decode cX4_loadPacked 106 = .ok (.iload_n 1, 1) := by decide +kernel
theorem dX4_loadPacked_107 : decode cX4_loadPacked 107 = .ok (.iconst 2, 1) := by decide +kernel
theorem dX4_loadPacked_108 : decode cX4_loadPacked 108 = .ok (.iload_n 2, 1) := by decide +kernel
theorem dX4_loadPacked_109 : decode cX4_loadPacked 109 = .ok (.imul, 1) := by decide +kernel
theorem dX4_loadPacked_110 : decode cX4_loadPacked 110 = .ok (.iadd, 1) := by decide +kernel
theorem dX4_loadPacked_111 : decode cX4_loadPacked 111 = .ok (.iconst 1, 1) := by decide +kernel
theorem dX4_loadPacked_112 : decode cX4_loadPacked 112 = .ok (.iadd, 1) := by decide +kernel
theorem dX4_loadPacked_113 : decode cX4_loadPacked 113 = .ok (.aload_n 0, 1) := by decide +kernel
theorem dX4_loadPacked_114 : decode cX4_loadPacked 114 = .ok (.iload_n 2, 1) := by decide +kernel
theorem dX4_loadPacked_115 : decode cX4_loadPacked 115 = .ok (.iload_n 1, 1) := by decide +kernel
theorem dX4_loadPacked_116 : decode cX4_loadPacked 116 = .ok (.invokevirtual 128, 3) := by decide +kernel
theorem dX4_loadPacked_119 : decode cX4_loadPacked 119 = .ok (.iastore, 1) := by decide +kernel
theorem dX4_loadPacked_120 : decode cX4_loadPacked 120 = .ok (.iinc 2 1, 3) := by decide +kernel
theorem dX4_loadPacked_123 : decode cX4_loadPacked 123 = .ok (.goto (-41), 3) := by decide +kernel
theorem dX4_loadPacked_126 : decode cX4_loadPacked 126 = .ok (.aload_n 0, 1) := by decide +kernel
theorem dX4_loadPacked_127 : decode cX4_loadPacked 127 = .ok (.getfield 47, 3) := by decide +kernel
theorem dX4_loadPacked_130 : decode cX4_loadPacked 130 = .ok (.aload_n 0, 1) := by decide +kernel
theorem dX4_loadPacked_131 : decode cX4_loadPacked 131 = .ok (.getfield 71, 3) := by decide +kernel
theorem dX4_loadPacked_134 : decode cX4_loadPacked 134 = .ok (.iadd, 1) := by decide +kernel
theorem dX4_loadPacked_135 : decode cX4_loadPacked 135 = .ok (.bipush 60, 2) := by decide +kernel
theorem dX4_loadPacked_137 : decode cX4_loadPacked 137 = .ok (.iadd, 1) := by decide +kernel
theorem dX4_loadPacked_138 : decode cX4_loadPacked 138 = .ok (.ireturn, 1) := by decide +kernel
theorem dX4_putOut_0 : decode cX4_putOut 0 = .ok (.aload_n 0, 1) := by decide +kernel
theorem dX4_putOut_1 : decode cX4_putOut 1 = .ok (.getfield 41, 3) := by decide +kernel
theorem dX4_putOut_4 : decode cX4_putOut 4 = .ok (.aload_n 0, 1) := by decide +kernel
theorem dX4_putOut_5 : decode cX4_putOut 5 = .ok (.getfield 94, 3) := by decide +kernel
theorem dX4_putOut_8 : decode cX4_putOut 8 = .ok (.bipush 32, 2) := by decide +kernel
theorem dX4_putOut_10 : decode cX4_putOut 10 = .ok (.irem, 1) := by decide +kernel
theorem dX4_putOut_11 : decode cX4_putOut 11 = .ok (.iload_n 1, 1) := by decide +kernel
theorem dX4_putOut_12 : decode cX4_putOut 12 = .ok (.iastore, 1) := by decide +kernel
theorem dX4_putOut_13 : decode cX4_putOut 13 = .ok (.aload_n 0, 1) := by decide +kernel
theorem dX4_putOut_14 : decode cX4_putOut 14 = .ok (.dup, 1) := by decide +kernel
theorem dX4_putOut_15 : decode cX4_putOut 15 = .ok (.getfield 94, 3) := by decide +kernel
theorem dX4_putOut_18 : decode cX4_putOut 18 = .ok (.iconst 1, 1) := by decide +kernel
theorem dX4_putOut_19 : decode cX4_putOut 19 = .ok (.iadd, 1) := by decide +kernel
theorem dX4_putOut_20 : decode cX4_putOut 20 = .ok (.putfield 94, 3) := by decide +kernel
theorem dX4_putOut_23 : decode cX4_putOut 23 = .ok (.return_, 1) := by decide +kernel
set_option maxRecDepth 20000 in
theorem ggX4_step_X4_putOut : GoodIn wsX4_step wsX4_putOut := goodIn_r _ [10, 11, 12, 13, 14, 15, 16, 17, 18, 19, 20, 21, 22, 23, 24, 25, 26, 27, 28, 29, 30, 31, 32, 33] (by decide +kernel) (by decide +kernel)
set_option maxRecDepth 20000 in
theorem gX4_step_X4_putOut : GoodIn wsX4_step (wsV RX4 131 RX4 yX4_putOut wsX4_putOut) := goodIn_app (goodIn_of _ (by decide +kernel)) ggX4_step_X4_putOut
theorem dX4_step_0 : decode cX4_step 0 = .ok (.aload_n 0, 1) := by decide +kernel
theorem dX4_step_1 : decode cX4_step 1 = .ok (.getfield 31, 3) := by decide +kernel
theorem dX4_step_4 : decode cX4_step 4 = .ok (.aload_n 0, 1) := by decide +kernel
theorem dX4_step_5 : decode cX4_step 5 = .ok (.getfield 88, 3) := by decide +kernel
theorem dX4_step_8 : decode cX4_step 8 = .ok (.iaload, 1) := by decide +kernel
theorem dX4_step_9 : decode cX4_step 9 = .ok (.istore_n 1, 1) := by decide +kernel
theorem dX4_step_10 : decode cX4_step 10 = .ok (.aload_n 0, 1) := by decide +kernel
theorem dX4_step_11 : decode cX4_step 11 = .ok (.getfield 31, 3) := by decide +kernel
theorem dX4_step_14 : decode cX4_step 14 = .ok (.aload_n 0, 1) := by decide +kernel
theorem dX4_step_15 : decode cX4_step 15 = .ok (.getfield 88, 3) := by decide +kernel
theorem dX4_step_18 : decode cX4_step 18 = .ok (.iconst 1, 1) := by decide +kernel
theorem dX4_step_19 : decode cX4_step 19 = .ok (.iadd, 1) := by decide +kernel
theorem dX4_step_20 : decode cX4_step 20 = .ok (.sipush 255, 3) := by decide +kernel
theorem dX4_step_23 : decode cX4_step 23 = .ok (.iand, 1) := by decide +kernel
theorem dX4_step_24 : decode cX4_step 24 = .ok (.iaload, 1) := by decide +kernel
theorem dX4_step_25 : decode cX4_step 25 = .ok (.istore_n 2, 1) := by decide +kernel
theorem dX4_step_26 : decode cX4_step 26 = .ok (.iload_n 1, 1) := by decide +kernel
theorem dX4_step_27 : decode cX4_step 27 = .ok (.bipush 7, 2) := by decide +kernel
theorem dX4_step_29 : decode cX4_step 29 = .ok (.iand, 1) := by decide +kernel
theorem dX4_step_30 : decode cX4_step 30 = .ok (.istore_n 3, 1) := by decide +kernel
theorem dX4_step_31 : decode cX4_step 31 = .ok (.aload_n 0, 1) := by decide +kernel
theorem dX4_step_32 : decode cX4_step 32 = .ok (.getfield 34, 3) := by decide +kernel
theorem dX4_step_35 : decode cX4_step 35 = .ok (.iload_n 2, 1) := by decide +kernel
theorem dX4_step_36 : decode cX4_step 36 = .ok (.bipush 7, 2) := by decide +kernel
theorem dX4_step_38 : decode cX4_step 38 = .ok (.iand, 1) := by decide +kernel
theorem dX4_step_39 : decode cX4_step 39 = .ok (.iaload, 1) := by decide +kernel
theorem dX4_step_40 : decode cX4_step 40 = .ok (.istore 4, 2) := by decide +kernel
theorem dX4_step_42 : decode cX4_step 42 = .ok (.aload_n 0, 1) := by decide +kernel
theorem dX4_step_43 : decode cX4_step 43 = .ok (.getfield 34, 3) := by decide +kernel
theorem dX4_step_46 : decode cX4_step 46 = .ok (.iload_n 3, 1) := by decide +kernel
theorem dX4_step_47 : decode cX4_step 47 = .ok (.iaload, 1) := by decide +kernel
theorem dX4_step_48 : decode cX4_step 48 = .ok (.istore 5, 2) := by decide +kernel
theorem dX4_step_50 : decode cX4_step 50 = .ok (.aload_n 0, 1) := by decide +kernel
theorem dX4_step_51 : decode cX4_step 51 = .ok (.aload_n 0, 1) := by decide +kernel
theorem dX4_step_52 : decode cX4_step 52 = .ok (.getfield 88, 3) := by decide +kernel
theorem dX4_step_55 : decode cX4_step 55 = .ok (.iconst 2, 1) := by decide +kernel
theorem dX4_step_56 : decode cX4_step 56 = .ok (.iadd, 1) := by decide +kernel
theorem dX4_step_57 : decode cX4_step 57 = .ok (.sipush 255, 3) := by decide +kernel
theorem dX4_step_60 : decode cX4_step 60 = .ok (.iand, 1) := by decide +kernel
theorem dX4_step_61 : decode cX4_step 61 = .ok (.putfield 88, 3) := by decide +kernel
theorem dX4_step_64 : decode cX4_step 64 = .ok (.aload_n 0, 1) := by decide +kernel
theorem dX4_step_65 : decode cX4_step 65 = .ok (.dup, 1) := by decide +kernel
theorem dX4_step_66 : decode cX4_step 66 = .ok (.getfield 91, 3) := by decide +kernel
theorem dX4_step_69 : decode cX4_step 69 = .ok (.iconst 1, 1) := by decide +kernel
theorem dX4_step_70 : decode cX4_step 70 = .ok (.iadd, 1) := by decide +kernel
theorem dX4_step_71 : decode cX4_step 71 = .ok (.putfield 91, 3) := by decide +kernel
theorem dX4_step_74 : decode cX4_step 74 = .ok (.iload_n 1, 1) := by decide +kernel
theorem dX4_step_75 : decode cX4_step 75 = .ok (.iconst 4, 1) := by decide +kernel
theorem dX4_step_76 : decode cX4_step 76 = .ok (.ishr, 1) := by decide +kernel
theorem dX4_step_77 : decode cX4_step 77 = .ok (.tableswitch 283 0 14 #[75, 83, 93, 104, 122, 139, 155, 167, 185, 193, 213, 235, 244, 258, 274], 75) := by decide +kernel
theorem dX4_step_152 : decode cX4_step 152 = .ok (.aload_n 0, 1) := by decide +kernel
theorem dX4_step_153 : decode cX4_step 153 = .ok (.iconst 1, 1) := by decide +kernel
theorem dX4_step_154 : decode cX4_step 154 = .ok (.putfield 37, 3) := by decide +kernel
theorem dX4_step_157 : decode cX4_step 157 = .ok (.goto 208, 3) := by decide +kernel
theorem dX4_step_160 : decode cX4_step 160 = .ok (.aload_n 0, 1) := by decide +kernel
theorem dX4_step_161 : decode cX4_step 161 = .ok (.getfield 34, 3) := by decide +kernel
theorem dX4_step_164 : decode cX4_step 164 = .ok (.iload_n 3, 1) := by decide +kernel
theorem dX4_step_165 : decode cX4_step 165 = .ok (.iload_n 2, 1) := by decide +kernel
theorem dX4_step_166 : decode cX4_step 166 = .ok (.iastore, 1) := by decide +kernel
theorem dX4_step_167 : decode cX4_step 167 = .ok (.goto 198, 3) := by decide +kernel
theorem dX4_step_170 : decode cX4_step 170 = .ok (.aload_n 0, 1) := by decide +kernel
theorem dX4_step_171 : decode cX4_step 171 = .ok (.getfield 34, 3) := by decide +kernel
theorem dX4_step_174 : decode cX4_step 174 = .ok (.iload_n 3, 1) := by decide +kernel
theorem dX4_step_175 : decode cX4_step 175 = .ok (.iload 4, 2) := by decide +kernel
theorem dX4_step_177 : decode cX4_step 177 = .ok (.iastore, 1) := by decide +kernel
theorem dX4_step_178 : decode cX4_step 178 = .ok (.goto 187, 3) := by decide +kernel
theorem dX4_step_181 : decode cX4_step 181 = .ok (.aload_n 0, 1) := by decide +kernel
theorem dX4_step_182 : decode cX4_step 182 = .ok (.getfield 34, 3) := by decide +kernel
theorem dX4_step_185 : decode cX4_step 185 = .ok (.iload_n 3, 1) := by decide +kernel
theorem dX4_step_186 : decode cX4_step 186 = .ok (.iload 5, 2) := by decide +kernel
theorem dX4_step_188 : decode cX4_step 188 = .ok (.iload 4, 2) := by decide +kernel
theorem dX4_step_190 : decode cX4_step 190 = .ok (.iadd, 1) := by decide +kernel
theorem dX4_step_191 : decode cX4_step 191 = .ok (.sipush 255, 3) := by decide +kernel
theorem dX4_step_194 : decode cX4_step 194 = .ok (.iand, 1) := by decide +kernel
theorem dX4_step_195 : decode cX4_step 195 = .ok (.iastore, 1) := by decide +kernel
theorem dX4_step_196 : decode cX4_step 196 = .ok (.goto 169, 3) := by decide +kernel
theorem dX4_step_199 : decode cX4_step 199 = .ok (.aload_n 0, 1) := by decide +kernel
theorem dX4_step_200 : decode cX4_step 200 = .ok (.getfield 34, 3) := by decide +kernel
theorem dX4_step_203 : decode cX4_step 203 = .ok (.iload_n 3, 1) := by decide +kernel
theorem dX4_step_204 : decode cX4_step 204 = .ok (.iload 5, 2) := by decide +kernel
theorem dX4_step_206 : decode cX4_step 206 = .ok (.iload_n 2, 1) := by decide +kernel
theorem dX4_step_207 : decode cX4_step 207 = .ok (.iadd, 1) := by decide +kernel
theorem dX4_step_208 : decode cX4_step 208 = .ok (.sipush 255, 3) := by decide +kernel
theorem dX4_step_211 : decode cX4_step 211 = .ok (.iand, 1) := by decide +kernel
theorem dX4_step_212 : decode cX4_step 212 = .ok (.iastore, 1) := by decide +kernel
theorem dX4_step_213 : decode cX4_step 213 = .ok (.goto 152, 3) := by decide +kernel
theorem dX4_step_216 : decode cX4_step 216 = .ok (.aload_n 0, 1) := by decide +kernel
theorem dX4_step_217 : decode cX4_step 217 = .ok (.getfield 34, 3) := by decide +kernel
theorem dX4_step_220 : decode cX4_step 220 = .ok (.iload_n 3, 1) := by decide +kernel
theorem dX4_step_221 : decode cX4_step 221 = .ok (.aload_n 0, 1) := by decide +kernel
theorem dX4_step_222 : decode cX4_step 222 = .ok (.getfield 31, 3) := by decide +kernel
theorem dX4_step_225 : decode cX4_step 225 = .ok (.iload 4, 2) := by decide +kernel
theorem dX4_step_227 : decode cX4_step 227 = .ok (.iaload, 1) := by decide +kernel
theorem dX4_step_228 : decode cX4_step 228 = .ok (.iastore, 1) := by decide +kernel
theorem dX4_step_229 : decode cX4_step 229 = .ok (.goto 136, 3) := by decide +kernel
theorem dX4_step_232 : decode cX4_step 232 = .ok (.aload_n 0, 1) := by decide +kernel
theorem dX4_step_233 : decode cX4_step 233 = .ok (.getfield 31, 3) := by decide +kernel
theorem dX4_step_236 : decode cX4_step 236 = .ok (.iload 4, 2) := by decide +kernel
theorem dX4_step_238 : decode cX4_step 238 = .ok (.iload 5, 2) := by decide +kernel
theorem dX4_step_240 : decode cX4_step 240 = .ok (.iastore, 1) := by decide +kernel
theorem dX4_step_241 : decode cX4_step 241 = .ok (.goto 124, 3) := by decide +kernel
theorem dX4_step_244 : decode cX4_step 244 = .ok (.aload_n 0, 1) := by decide +kernel
theorem dX4_step_245 : decode cX4_step 245 = .ok (.getfield 34, 3) := by decide +kernel
theorem dX4_step_248 : decode cX4_step 248 = .ok (.iload_n 3, 1) := by decide +kernel
theorem dX4_step_249 : decode cX4_step 249 = .ok (.iload 5, 2) := by decide +kernel
theorem dX4_step_251 : decode cX4_step 251 = .ok (.iload 4, 2) := by decide +kernel
theorem dX4_step_253 : decode cX4_step 253 = .ok (.isub, 1) := by decide +kernel
theorem dX4_step_254 : decode cX4_step 254 = .ok (.sipush 255, 3) := by decide +kernel
theorem dX4_step_257 : decode cX4_step 257 = .ok (.iand, 1) := by decide +kernel
theorem dX4_step_258 : decode cX4_step 258 = .ok (.iastore, 1) := by decide +kernel
theorem dX4_step_259 : decode cX4_step 259 = .ok (.goto 106, 3) := by decide +kernel
theorem dX4_step_262 : decode cX4_step 262 = .ok (.aload_n 0, 1) := by decide +kernel
theorem dX4_step_263 : decode cX4_step 263 = .ok (.iload_n 2, 1) := by decide +kernel
theorem dX4_step_264 : decode cX4_step 264 = .ok (.putfield 88, 3) := by decide +kernel
theorem dX4_step_267 : decode cX4_step 267 = .ok (.goto 98, 3) := by decide +kernel
theorem dX4_step_270 : decode cX4_step 270 = .ok (.aload_n 0, 1) := by decide +kernel
theorem dX4_step_271 : decode cX4_step 271 = .ok (.iload 5, 2) := by decide +kernel
theorem dX4_step_273 : decode cX4_step 273 = .ok (.ifCond .ne 7, 3) := by decide +kernel
theorem dX4_step_276 : decode cX4_step 276 = .ok (.iload_n 2, 1) := by decide +kernel
theorem dX4_step_277 : decode cX4_step 277 = .ok (.goto 7, 3) := by decide +kernel
theorem dX4_step_280 : decode cX4_step 280 = .ok (.aload_n 0, 1) := by decide +kernel
theorem dX4_step_281 : decode cX4_step 281 = .ok (.getfield 88, 3) := by decide +kernel
theorem dX4_step_284 : decode cX4_step 284 = .ok (.putfield 88, 3) := by decide +kernel
theorem dX4_step_287 : decode cX4_step 287 = .ok (.goto 78, 3) := by decide +kernel
theorem dX4_step_290 : decode cX4_step 290 = .ok (.aload_n 0, 1) := by decide +kernel
theorem dX4_step_291 : decode cX4_step 291 = .ok (.iload 5, 2) := by decide +kernel
theorem dX4_step_293 : decode cX4_step 293 = .ok (.bipush 127, 2) := by decide +kernel
theorem dX4_step_295 : decode cX4_step 295 = .ok (.if_icmp .le 7, 3) := by decide +kernel
theorem dX4_step_298 : decode cX4_step 298 = .ok (.iload_n 2, 1) := by decide +kernel
theorem dX4_step_299 : decode cX4_step 299 = .ok (.goto 7, 3) := by decide +kernel
theorem dX4_step_302 : decode cX4_step 302 = .ok (.aload_n 0, 1) := by decide +kernel
theorem dX4_step_303 : decode cX4_step 303 = .ok (.getfield 88, 3) := by decide +kernel
theorem dX4_step_306 : decode cX4_step 306 = .ok (.putfield 88, 3) := by decide +kernel
theorem dX4_step_309 : decode cX4_step 309 = .ok (.goto 56, 3) := by decide +kernel
theorem dX4_step_312 : decode cX4_step 312 = .ok (.aload_n 0, 1) := by decide +kernel
theorem dX4_step_313 : decode cX4_step 313 = .ok (.iload 5, 2) := by decide +kernel
theorem dX4_step_315 : decode cX4_step 315 = .ok (.putfield 88, 3) := by decide +kernel
theorem dX4_step_318 : decode cX4_step 318 = .ok (.goto 47, 3) := by decide +kernel
theorem dX4_step_321 : decode cX4_step 321 = .ok (.aload_n 0, 1) := by decide +kernel
theorem dX4_step_322 : decode cX4_step 322 = .ok (.getfield 34, 3) := by decide +kernel
theorem dX4_step_325 : decode cX4_step 325 = .ok (.iload_n 3, 1) := by decide +kernel
theorem dX4_step_326 : decode cX4_step 326 = .ok (.iload 5, 2) := by decide +kernel
theorem dX4_step_328 : decode cX4_step 328 = .ok (.iload 4, 2) := by decide +kernel
theorem dX4_step_330 : decode cX4_step 330 = .ok (.iand, 1) := by decide +kernel
theorem dX4_step_331 : decode cX4_step 331 = .ok (.iastore, 1) := by decide +kernel
theorem dX4_step_332 : decode cX4_step 332 = .ok (.goto 33, 3) := by decide +kernel
theorem dX4_step_335 : decode cX4_step 335 = .ok (.aload_n 0, 1) := by decide +kernel
theorem dX4_step_336 : decode cX4_step 336 = .ok (.getfield 34, 3) := by decide +kernel
theorem dX4_step_339 : decode cX4_step 339 = .ok (.iload_n 3, 1) := by decide +kernel
theorem dX4_step_340 : decode cX4_step 340 = .ok (.iload 5, 2) := by decide +kernel
theorem dX4_step_342 : decode cX4_step 342 = .ok (.iload_n 2, 1) := by decide +kernel
theorem dX4_step_343 : decode cX4_step 343 = .ok (.bipush 7, 2) := by decide +kernel
theorem dX4_step_345 : decode cX4_step 345 = .ok (.iand, 1) := by decide +kernel
theorem dX4_step_346 : decode cX4_step 346 = .ok (.ishr, 1) := by decide +kernel
theorem dX4_step_347 : decode cX4_step 347 = .ok (.iastore, 1) := by decide +kernel
theorem dX4_step_348 : decode cX4_step 348 = .ok (.goto 17, 3) := by decide +kernel
theorem dX4_step_351 : decode cX4_step 351 = .ok (.aload_n 0, 1) := by decide +kernel
theorem dX4_step_352 : decode cX4_step 352 = .ok (.iload 5, 2) := by decide +kernel
theorem dX4_step_354 : decode cX4_step 354 = .ok (.invokevirtual 131, 3) := by decide +kernel
theorem dX4_step_357 : decode cX4_step 357 = .ok (.goto 8, 3) := by decide +kernel
theorem dX4_step_360 : decode cX4_step 360 = .ok (.aload_n 0, 1) := by decide +kernel
theorem dX4_step_361 : decode cX4_step 361 = .ok (.iconst 2, 1) := by decide +kernel
theorem dX4_step_362 : decode cX4_step 362 = .ok (.putfield 37, 3) := by decide +kernel
theorem dX4_step_365 : decode cX4_step 365 = .ok (.return_, 1) := by decide +kernel
set_option maxRecDepth 20000 in
theorem ggX4_run_X4_step : GoodIn wsX4_run wsX4_step := goodIn_r _ [8, 9, 3, 10, 11, 2, 12, 13, 14, 7, 15, 16, 17, 18, 19, 20, 21, 22, 23, 24, 25, 26, 27, 28, 29, 30, 31, 32, 33, 34, 35, 36, 37, 38] (by decide +kernel) (by decide +kernel)
set_option maxRecDepth 20000 in
theorem gX4_run_X4_step : GoodIn wsX4_run (wsV RX4 134 RX4 yX4_step wsX4_step) := goodIn_app (goodIn_of _ (by decide +kernel)) ggX4_run_X4_step
theorem dX4_run_0 : decode cX4_run 0 = .ok (.aload_n 0, 1) := by decide +kernel
theorem dX4_run_1 : decode cX4_run 1 = .ok (.iload_n 1, 1) := by decide +kernel
theorem dX4_run_2 : decode cX4_run 2 = .ok (.ifCond .lt 22, 3) := by decide +kernel
theorem dX4_run_5 : decode cX4_run 5 = .ok (.iload_n 1, 1) := by decide +kernel
theorem dX4_run_6 : decode cX4_run 6 = .ok (.sipush 4000, 3) := by decide +kernel
theorem dX4_run_9 : decode cX4_run 9 = .ok (.if_icmp .gt 15, 3) := by decide +kernel
theorem dX4_run_12 : decode cX4_run 12 = .ok (.iload_n 2, 1) := by decide +kernel
theorem dX4_run_13 : decode cX4_run 13 = .ok (.iconst (-1), 1) := by decide +kernel
theorem dX4_run_14 : decode cX4_run 14 = .ok (.if_icmp .lt 10, 3) := by decide +kernel
theorem dX4_run_17 : decode cX4_run 17 = .ok (.iload_n 2, 1) := by decide +kernel
theorem dX4_run_18 : decode cX4_run 18 = .ok (.sipush 255, 3) := by decide +kernel
theorem dX4_run_21 : decode cX4_run 21 = .ok (.if_icmp .le 7, 3) := by decide +kernel
theorem dX4_run_24 : decode cX4_run 24 = .ok (.iconst 1, 1) := by decide +kernel
theorem dX4_run_25 : decode cX4_run 25 = .ok (.goto 4, 3) := by decide +kernel
theorem dX4_run_28 : decode cX4_run 28 = .ok (.iconst 0, 1) := by decide +kernel
theorem dX4_run_29 : decode cX4_run 29 = .ok (.putfield 44, 3) := by decide +kernel
theorem dX4_run_32 : decode cX4_run 32 = .ok (.aload_n 0, 1) := by decide +kernel
theorem dX4_run_33 : decode cX4_run 33 = .ok (.getfield 44, 3) := by decide +kernel
theorem dX4_run_36 : decode cX4_run 36 = .ok (.ifCond .le 5, 3) := by decide +kernel
theorem dX4_run_39 : decode cX4_run 39 = .ok (.iconst 0, 1) := by decide +kernel
theorem dX4_run_40 : decode cX4_run 40 = .ok (.ireturn, 1) := by decide +kernel
theorem dX4_run_41 : decode cX4_run 41 = .ok (.iconst 0, 1) := by decide +kernel
theorem dX4_run_42 : decode cX4_run 42 = .ok (.istore_n 3, 1) := by decide +kernel
theorem dX4_run_43 : decode cX4_run 43 = .ok (.iload_n 3, 1) := by decide +kernel
theorem dX4_run_44 : decode cX4_run 44 = .ok (.iload_n 1, 1) := by decide +kernel
theorem dX4_run_45 : decode cX4_run 45 = .ok (.if_icmp .ge 28, 3) := by decide +kernel
theorem dX4_run_48 : decode cX4_run 48 = .ok (.aload_n 0, 1) := by decide +kernel
theorem dX4_run_49 : decode cX4_run 49 = .ok (.getfield 37, 3) := by decide +kernel
theorem dX4_run_52 : decode cX4_run 52 = .ok (.ifCond .ne 21, 3) := by decide +kernel
theorem dX4_run_55 : decode cX4_run 55 = .ok (.aload_n 0, 1) := by decide +kernel
theorem dX4_run_56 : decode cX4_run 56 = .ok (.getfield 88, 3) := by decide +kernel
theorem dX4_run_59 : decode cX4_run 59 = .ok (.iload_n 2, 1) := by decide +kernel
theorem dX4_run_60 : decode cX4_run 60 = .ok (.if_icmp .eq 13, 3) := by decide +kernel
theorem dX4_run_63 : decode cX4_run 63 = .ok (.aload_n 0, 1) := by decide +kernel
theorem dX4_run_64 : decode cX4_run 64 = .ok (.invokevirtual 134, 3) := by decide +kernel
theorem dX4_run_67 : decode cX4_run 67 = .ok (.iinc 3 1, 3) := by decide +kernel
theorem dX4_run_70 : decode cX4_run 70 = .ok (.goto (-27), 3) := by decide +kernel
theorem dX4_run_73 : decode cX4_run 73 = .ok (.iload_n 3, 1) := by decide +kernel
theorem dX4_run_74 : decode cX4_run 74 = .ok (.ireturn, 1) := by decide +kernel
theorem dX4_look_0 : decode cX4_look 0 = .ok (.aload_n 0, 1) := by decide +kernel
theorem dX4_look_1 : decode cX4_look 1 = .ok (.iload_n 1, 1) := by decide +kernel
theorem dX4_look_2 : decode cX4_look 2 = .ok (.ifCond .lt 9, 3) := by decide +kernel
theorem dX4_look_5 : decode cX4_look 5 = .ok (.iload_n 1, 1) := by decide +kernel
theorem dX4_look_6 : decode cX4_look 6 = .ok (.bipush 11, 2) := by decide +kernel
theorem dX4_look_8 : decode cX4_look 8 = .ok (.if_icmp .le 7, 3) := by decide +kernel
theorem dX4_look_11 : decode cX4_look 11 = .ok (.iconst 1, 1) := by decide +kernel
theorem dX4_look_12 : decode cX4_look 12 = .ok (.goto 4, 3) := by decide +kernel
theorem dX4_look_15 : decode cX4_look 15 = .ok (.iconst 0, 1) := by decide +kernel
theorem dX4_look_16 : decode cX4_look 16 = .ok (.putfield 44, 3) := by decide +kernel
theorem dX4_look_19 : decode cX4_look 19 = .ok (.aload_n 0, 1) := by decide +kernel
theorem dX4_look_20 : decode cX4_look 20 = .ok (.getfield 44, 3) := by decide +kernel
theorem dX4_look_23 : decode cX4_look 23 = .ok (.ifCond .le 5, 3) := by decide +kernel
theorem dX4_look_26 : decode cX4_look 26 = .ok (.iconst 0, 1) := by decide +kernel
theorem dX4_look_27 : decode cX4_look 27 = .ok (.ireturn, 1) := by decide +kernel
theorem dX4_look_28 : decode cX4_look 28 = .ok (.iload_n 1, 1) := by decide +kernel
theorem dX4_look_29 : decode cX4_look 29 = .ok (.bipush 8, 2) := by decide +kernel
theorem dX4_look_31 : decode cX4_look 31 = .ok (.if_icmp .ge 12, 3) := by decide +kernel
theorem dX4_look_34 : decode cX4_look 34 = .ok (.aload_n 0, 1) := by decide +kernel
theorem dX4_look_35 : decode cX4_look 35 = .ok (.getfield 34, 3) := by decide +kernel
theorem dX4_look_38 : decode cX4_look 38 = .ok (.iload_n 1, 1) := by decide +kernel
theorem dX4_look_39 : decode cX4_look 39 = .ok (.iaload, 1) := by decide +kernel
theorem dX4_look_40 : decode cX4_look 40 = .ok (.goto 46, 3) := by decide +kernel
theorem dX4_look_43 : decode cX4_look 43 = .ok (.iload_n 1, 1) := by decide +kernel
theorem dX4_look_44 : decode cX4_look 44 = .ok (.bipush 8, 2) := by decide +kernel
theorem dX4_look_46 : decode cX4_look 46 = .ok (.if_icmp .ne 10, 3) := by decide +kernel
theorem dX4_look_49 : decode cX4_look 49 = .ok (.aload_n 0, 1) := by decide +kernel
theorem dX4_look_50 : decode cX4_look 50 = .ok (.getfield 88, 3) := by decide +kernel
theorem dX4_look_53 : decode cX4_look 53 = .ok (.goto 33, 3) := by decide +kernel
theorem dX4_look_56 : decode cX4_look 56 = .ok (.iload_n 1, 1) := by decide +kernel
theorem dX4_look_57 : decode cX4_look 57 = .ok (.bipush 9, 2) := by decide +kernel
theorem dX4_look_59 : decode cX4_look 59 = .ok (.if_icmp .ne 10, 3) := by decide +kernel
theorem dX4_look_62 : decode cX4_look 62 = .ok (.aload_n 0, 1) := by decide +kernel
theorem dX4_look_63 : decode cX4_look 63 = .ok (.getfield 37, 3) := by decide +kernel
theorem dX4_look_66 : decode cX4_look 66 = .ok (.goto 20, 3) := by decide +kernel
theorem dX4_look_69 : decode cX4_look 69 = .ok (.iload_n 1, 1) := by decide +kernel
theorem dX4_look_70 : decode cX4_look 70 = .ok (.bipush 10, 2) := by decide +kernel
theorem dX4_look_72 : decode cX4_look 72 = .ok (.if_icmp .ne 10, 3) := by decide +kernel
theorem dX4_look_75 : decode cX4_look 75 = .ok (.aload_n 0, 1) := by decide +kernel
theorem dX4_look_76 : decode cX4_look 76 = .ok (.getfield 91, 3) := by decide +kernel
theorem dX4_look_79 : decode cX4_look 79 = .ok (.goto 7, 3) := by decide +kernel
theorem dX4_look_82 : decode cX4_look 82 = .ok (.aload_n 0, 1) := by decide +kernel
theorem dX4_look_83 : decode cX4_look 83 = .ok (.getfield 94, 3) := by decide +kernel
theorem dX4_look_86 : decode cX4_look 86 = .ok (.ireturn, 1) := by decide +kernel
set_option maxRecDepth 20000 in
theorem ggX4_memory_X4_isByte : GoodIn wsX4_memory wsX4_isByte := goodIn_r _ [6] (by decide +kernel) (by decide +kernel)
set_option maxRecDepth 20000 in
theorem gX4_memory_X4_isByte : GoodIn wsX4_memory (va_wsS RX4 56 yX4_isByte wsX4_isByte) := goodIn_app (goodIn_of _ (by decide +kernel)) ggX4_memory_X4_isByte
theorem dX4_memory_0 : decode cX4_memory 0 = .ok (.aload_n 0, 1) := by decide +kernel
theorem dX4_memory_1 : decode cX4_memory 1 = .ok (.iload_n 1, 1) := by decide +kernel
theorem dX4_memory_2 : decode cX4_memory 2 = .ok (.invokestatic 56, 3) := by decide +kernel
theorem dX4_memory_5 : decode cX4_memory 5 = .ok (.ifCond .eq 7, 3) := by decide +kernel
theorem dX4_memory_8 : decode cX4_memory 8 = .ok (.iconst 0, 1) := by decide +kernel
theorem dX4_memory_9 : decode cX4_memory 9 = .ok (.goto 4, 3) := by decide +kernel
theorem dX4_memory_12 : decode cX4_memory 12 = .ok (.iconst 1, 1) := by decide +kernel
theorem dX4_memory_13 : decode cX4_memory 13 = .ok (.putfield 44, 3) := by decide +kernel
theorem dX4_memory_16 : decode cX4_memory 16 = .ok (.aload_n 0, 1) := by decide +kernel
theorem dX4_memory_17 : decode cX4_memory 17 = .ok (.getfield 44, 3) := by decide +kernel
theorem dX4_memory_20 : decode cX4_memory 20 = .ok (.ifCond .le 7, 3) := by decide +kernel
theorem dX4_memory_23 : decode cX4_memory 23 = .ok (.iconst 0, 1) := by decide +kernel
theorem dX4_memory_24 : decode cX4_memory 24 = .ok (.goto 9, 3) := by decide +kernel
theorem dX4_memory_27 : decode cX4_memory 27 = .ok (.aload_n 0, 1) := by decide +kernel
theorem dX4_memory_28 : decode cX4_memory 28 = .ok (.getfield 31, 3) := by decide +kernel
theorem dX4_memory_31 : decode cX4_memory 31 = .ok (.iload_n 1, 1) := by decide +kernel
theorem dX4_memory_32 : decode cX4_memory 32 = .ok (.iaload, 1) := by decide +kernel
theorem dX4_memory_33 : decode cX4_memory 33 = .ok (.ireturn, 1) := by decide +kernel
theorem dX4_out_0 : decode cX4_out 0 = .ok (.aload_n 0, 1) := by decide +kernel
theorem dX4_out_1 : decode cX4_out 1 = .ok (.iload_n 1, 1) := by decide +kernel
theorem dX4_out_2 : decode cX4_out 2 = .ok (.ifCond .lt 22, 3) := by decide +kernel
theorem dX4_out_5 : decode cX4_out 5 = .ok (.iload_n 1, 1) := by decide +kernel
theorem dX4_out_6 : decode cX4_out 6 = .ok (.aload_n 0, 1) := by decide +kernel
theorem dX4_out_7 : decode cX4_out 7 = .ok (.getfield 94, 3) := by decide +kernel
theorem dX4_out_10 : decode cX4_out 10 = .ok (.if_icmp .ge 14, 3) := by decide +kernel
theorem dX4_out_13 : decode cX4_out 13 = .ok (.iload_n 1, 1) := by decide +kernel
theorem dX4_out_14 : decode cX4_out 14 = .ok (.aload_n 0, 1) := by decide +kernel
theorem dX4_out_15 : decode cX4_out 15 = .ok (.getfield 94, 3) := by decide +kernel
theorem dX4_out_18 : decode cX4_out 18 = .ok (.bipush 32, 2) := by decide +kernel
theorem dX4_out_20 : decode cX4_out 20 = .ok (.isub, 1) := by decide +kernel
theorem dX4_out_21 : decode cX4_out 21 = .ok (.if_icmp .ge 7, 3) := by decide +kernel
theorem dX4_out_24 : decode cX4_out 24 = .ok (.iconst 1, 1) := by decide +kernel
theorem dX4_out_25 : decode cX4_out 25 = .ok (.goto 4, 3) := by decide +kernel
theorem dX4_out_28 : decode cX4_out 28 = .ok (.iconst 0, 1) := by decide +kernel
theorem dX4_out_29 : decode cX4_out 29 = .ok (.putfield 44, 3) := by decide +kernel
theorem dX4_out_32 : decode cX4_out 32 = .ok (.aload_n 0, 1) := by decide +kernel
theorem dX4_out_33 : decode cX4_out 33 = .ok (.getfield 44, 3) := by decide +kernel
theorem dX4_out_36 : decode cX4_out 36 = .ok (.ifCond .le 7, 3) := by decide +kernel
theorem dX4_out_39 : decode cX4_out 39 = .ok (.iconst 0, 1) := by decide +kernel
theorem dX4_out_40 : decode cX4_out 40 = .ok (.goto 12, 3) := by decide +kernel
theorem dX4_out_43 : decode cX4_out 43 = .ok (.aload_n 0, 1) := by decide +kernel
theorem dX4_out_44 : decode cX4_out 44 = .ok (.getfield 41, 3) := by decide +kernel
theorem dX4_out_47 : decode cX4_out 47 = .ok (.iload_n 1, 1) := by decide +kernel
theorem dX4_out_48 : decode cX4_out 48 = .ok (.bipush 32, 2) := by decide +kernel
theorem dX4_out_50 : decode cX4_out 50 = .ok (.irem, 1) := by decide +kernel
theorem dX4_out_51 : decode cX4_out 51 = .ok (.iaload, 1) := by decide +kernel
theorem dX4_out_52 : decode cX4_out 52 = .ok (.ireturn, 1) := by decide +kernel
end
section
set_option maxRecDepth 20000 in
theorem ggX4_apart_X4_isPackable : GoodIn wsX4_apart wsX4_isPackable := goodIn_r _ [11, 1, 2, 5, 12, 13, 14, 10, 15, 16, 17, 18, 19, 20, 21, 22, 4, 23, 24, 25, 26, 27, 28, 29, 30, 31, 32, 33, 34, 35, 36, 37, 38, 39, 40, 41, 42, 43, 44, 45, 46, 47, 48] (by decide +kernel) (by decide +kernel)
set_option maxRecDepth 20000 in
theorem gX4_apart_X4_isPackable : GoodIn wsX4_apart (wsV RX4 121 RX4 yX4_isPackable wsX4_isPackable) := goodIn_app (goodIn_of _ (by decide +kernel)) ggX4_apart_X4_isPackable
theorem dX4_apart_0 : decode cX4_apart 0 = .ok (.aload_n 0, 1) := by decide +kernel
theorem dX4_apart_1 : decode cX4_apart 1 = .ok (.aload_n 0, 1) := by decide +kernel
theorem dX4_apart_2 : decode cX4_apart 2 = .ok (.getfield 60, 3) := by decide +kernel
theorem dX4_apart_5 : decode cX4_apart 5 = .ok (.aload_n 0, 1) := by decide +kernel
theorem dX4_apart_6 : decode cX4_apart 6 = .ok (.getfield 47, 3) := by decide +kernel
theorem dX4_apart_9 : decode cX4_apart 9 = .ok (.iadd, 1) := by decide +kernel
theorem dX4_apart_10 : decode cX4_apart 10 = .ok (.sipush 256, 3) := by decide +kernel
theorem dX4_apart_13 : decode cX4_apart 13 = .ok (.if_icmp .le 7, 3) := by decide +kernel
theorem dX4_apart_16 : decode cX4_apart 16 = .ok (.iconst 1, 1) := by decide +kernel
theorem dX4_apart_17 : decode cX4_apart 17 = .ok (.goto 15, 3) := by decide +kernel
theorem dX4_apart_20 : decode cX4_apart 20 = .ok (.aload_n 0, 1) := by decide +kernel
theorem dX4_apart_21 : decode cX4_apart 21 = .ok (.invokevirtual 121, 3) := by decide +kernel
theorem dX4_apart_24 : decode cX4_apart 24 = .ok (.ifCond .ne 7, 3) := by decide +kernel
theorem dX4_apart_27 : decode cX4_apart 27 = .ok (.iconst 2, 1) := by decide +kernel
theorem dX4_apart_28 : decode cX4_apart 28 = .ok (.goto 4, 3) := by decide +kernel
theorem dX4_apart_31 : decode cX4_apart 31 = .ok (.iconst 0, 1) := by decide +kernel
theorem dX4_apart_32 : decode cX4_apart 32 = .ok (.putfield 44, 3) := by decide +kernel
theorem dX4_apart_35 : decode cX4_apart 35 = .ok (.aload_n 0, 1) := by decide +kernel
theorem dX4_apart_36 : decode cX4_apart 36 = .ok (.getfield 44, 3) := by decide +kernel
theorem dX4_apart_39 : decode cX4_apart 39 = .ok (.ifCond .le 5, 3) := by decide +kernel
theorem dX4_apart_42 : decode cX4_apart 42 = .ok (.iconst 0, 1) := by decide +kernel
theorem dX4_apart_43 : decode cX4_apart 43 = .ok (.ireturn, 1) := by decide +kernel
theorem dX4_apart_44 : decode cX4_apart 44 = .ok (.iconst 0, 1) := by decide +kernel
theorem dX4_apart_45 : decode cX4_apart 45 = .ok (.istore_n 1, 1) := by decide +kernel
theorem dX4_apart_46 : decode cX4_apart 46 = .ok (.aload_n 0, 1) := by decide +kernel
theorem dX4_apart_47 : decode cX4_apart 47 = .ok (.getfield 60, 3) := by decide +kernel
theorem dX4_apart_50 : decode cX4_apart 50 = .ok (.aload_n 0, 1) := by decide +kernel
theorem dX4_apart_51 : decode cX4_apart 51 = .ok (.getfield 47, 3) := by decide +kernel
theorem dX4_apart_54 : decode cX4_apart 54 = .ok (.iadd, 1) := by decide +kernel
theorem dX4_apart_55 : decode cX4_apart 55 = .ok (.istore_n 2, 1) := by decide +kernel
theorem dX4_apart_56 : decode cX4_apart 56 = .ok (.iconst 0, 1) := by decide +kernel
theorem dX4_apart_57 : decode cX4_apart 57 = .ok (.istore_n 3, 1) := by decide +kernel
theorem dX4_apart_58 : decode cX4_apart 58 = .ok (.iload_n 3, 1) := by decide +kernel
theorem dX4_apart_59 : decode cX4_apart 59 = .ok (.sipush 256, 3) := by decide +kernel
theorem dX4_apart_62 : decode cX4_apart 62 = .ok (.if_icmp .ge 88, 3) := by decide +kernel
theorem dX4_apart_65 : decode cX4_apart 65 = .ok (.iload_n 3, 1) := by decide +kernel
theorem dX4_apart_66 : decode cX4_apart 66 = .ok (.aload_n 0, 1) := by decide +kernel
theorem dX4_apart_67 : decode cX4_apart 67 = .ok (.getfield 60, 3) := by decide +kernel
theorem dX4_apart_70 : decode cX4_apart 70 = .ok (.if_icmp .lt 22, 3) := by decide +kernel
theorem dX4_apart_73 : decode cX4_apart 73 = .ok (.iload_n 3, 1) := by decide +kernel
theorem dX4_apart_74 : decode cX4_apart 74 = .ok (.iload_n 2, 1) := by decide +kernel
theorem dX4_apart_75 : decode cX4_apart 75 = .ok (.if_icmp .ge 17, 3) := by decide +kernel
theorem dX4_apart_78 : decode cX4_apart 78 = .ok (.aload_n 0, 1) := by decide +kernel
theorem dX4_apart_79 : decode cX4_apart 79 = .ok (.getfield 7, 3) := by decide +kernel
theorem dX4_apart_82 : decode cX4_apart 82 = .ok (.iload_n 3, 1) := by decide +kernel
theorem dX4_apart_83 : decode cX4_apart 83 = .ok (.aload_n 0, 1) := by decide +kernel
theorem dX4_apart_84 : decode cX4_apart 84 = .ok (.getfield 60, 3) := by decide +kernel
theorem dX4_apart_87 : decode cX4_apart 87 = .ok (.isub, 1) := by decide +kernel
theorem dX4_apart_88 : decode cX4_apart 88 = .ok (.iaload, 1) := by decide +kernel
theorem dX4_apart_89 : decode cX4_apart 89 = .ok (.goto 4, 3) := by decide +kernel
theorem dX4_apart_92 : decode cX4_apart 92 = .ok (.iconst 0, 1) := by decide +kernel
theorem dX4_apart_93 : decode cX4_apart 93 = .ok (.istore 4, 2) := by decide +kernel
theorem dX4_apart_95 : decode cX4_apart 95 = .ok (.iload_n 3, 1) := by decide +kernel
theorem dX4_apart_96 : decode cX4_apart 96 = .ok (.iload_n 2, 1) := by decide +kernel
theorem dX4_apart_97 : decode cX4_apart 97 = .ok (.if_icmp .lt 16, 3) := by decide +kernel
theorem dX4_apart_100 : decode cX4_apart 100 = .ok (.iload_n 3, 1) := by decide +kernel
theorem dX4_apart_101 : decode cX4_apart 101 = .ok (.iload_n 2, 1) := by decide +kernel
theorem dX4_apart_102 : decode cX4_apart 102 = .ok (.aload_n 0, 1) := by decide +kernel
theorem dX4_apart_103 : decode cX4_apart 103 = .ok (.getfield 71, 3) := by decide +kernel
theorem dX4_apart_106 : decode cX4_apart 106 = .ok (.iadd, 1) := by decide +kernel
theorem dX4_apart_107 : decode cX4_apart 107 = .ok (.bipush 60, 2) := by decide +kernel
theorem dX4_apart_109 : decode cX4_apart 109 = .ok (.iadd, 1) := by decide +kernel
theorem dX4_apart_110 : decode cX4_apart 110 = .ok (.if_icmp .lt 7, 3) := by decide +kernel
theorem dX4_apart_113 : decode cX4_apart 113 = .ok (.iconst 1, 1) := by decide +kernel
theorem dX4_apart_114 : decode cX4_apart 114 = .ok (.goto 4, 3) := by decide +kernel
theorem dX4_apart_117 : decode cX4_apart 117 = .ok (.iconst 0, 1) := by decide +kernel
theorem dX4_apart_118 : decode cX4_apart 118 = .ok (.istore 5, 2) := by decide +kernel
theorem dX4_apart_120 : decode cX4_apart 120 = .ok (.iload 5, 2) := by decide +kernel
theorem dX4_apart_122 : decode cX4_apart 122 = .ok (.ifCond .eq 20, 3) := by decide +kernel
theorem dX4_apart_125 : decode cX4_apart 125 = .ok (.aload_n 0, 1) := by decide +kernel
theorem dX4_apart_126 : decode cX4_apart 126 = .ok (.getfield 31, 3) := by decide +kernel
theorem dX4_apart_129 : decode cX4_apart 129 = .ok (.iload_n 3, 1) := by decide +kernel
theorem dX4_apart_130 : decode cX4_apart 130 = .ok (.iaload, 1) := by decide +kernel
theorem dX4_apart_131 : decode cX4_apart 131 = .ok (.iload 4, 2) := by decide +kernel
theorem dX4_apart_133 : decode cX4_apart 133 = .ok (.if_icmp .eq 9, 3) := by decide +kernel
theorem dX4_apart_136 : decode cX4_apart 136 = .ok (.iload_n 1, 1) := by decide +kernel
theorem dX4_apart_137 : decode cX4_apart 137 = .ok (.iconst 1, 1) := by decide +kernel
theorem dX4_apart_138 : decode cX4_apart 138 = .ok (.iadd, 1) := by decide +kernel
theorem dX4_apart_139 : decode cX4_apart 139 = .ok (.goto 4, 3) := by decide +kernel
theorem dX4_apart_142 : decode cX4_apart 142 = .ok (.iload_n 1, 1) := by decide +kernel
theorem dX4_apart_143 : decode cX4_apart 143 = .ok (.istore_n 1, 1) := by decide +kernel
theorem dX4_apart_144 : decode cX4_apart 144 = .ok (.iinc 3 1, 3) := by decide +kernel
theorem dX4_apart_147 : decode cX4_apart 147 = .ok (.goto (-89), 3) := by decide +kernel
theorem dX4_apart_150 : decode cX4_apart 150 = .ok (.iload_n 1, 1) := by decide +kernel
theorem dX4_apart_151 : decode cX4_apart 151 = .ok (.ireturn, 1) := by decide +kernel
end
section
theorem dJ9_max_7cf53_0 : decode cJ9_max_7cf53 0 = .ok (.iload_n 0, 1) := by decide +kernel
theorem dJ9_max_7cf53_1 : decode cJ9_max_7cf53 1 = .ok (.iload_n 1, 1) := by decide +kernel
theorem dJ9_max_7cf53_2 : decode cJ9_max_7cf53 2 = .ok (.if_icmp .lt 7, 3) := by decide +kernel
theorem dJ9_max_7cf53_5 : decode cJ9_max_7cf53 5 = .ok (.iload_n 0, 1) := by decide +kernel
theorem dJ9_max_7cf53_6 : decode cJ9_max_7cf53 6 = .ok (.goto 4, 3) := by decide +kernel
theorem dJ9_max_7cf53_9 : decode cJ9_max_7cf53 9 = .ok (.iload_n 1, 1) := by decide +kernel
theorem dJ9_max_7cf53_10 : decode cJ9_max_7cf53 10 = .ok (.ireturn, 1) := by decide +kernel
theorem dJ9_min_7cf53_0 : decode cJ9_min_7cf53 0 = .ok (.iload_n 0, 1) := by decide +kernel
theorem dJ9_min_7cf53_1 : decode cJ9_min_7cf53 1 = .ok (.iload_n 1, 1) := by decide +kernel
theorem dJ9_min_7cf53_2 : decode cJ9_min_7cf53 2 = .ok (.if_icmp .gt 7, 3) := by decide +kernel
theorem dJ9_min_7cf53_5 : decode cJ9_min_7cf53 5 = .ok (.iload_n 0, 1) := by decide +kernel
theorem dJ9_min_7cf53_6 : decode cJ9_min_7cf53 6 = .ok (.goto 4, 3) := by decide +kernel
theorem dJ9_min_7cf53_9 : decode cJ9_min_7cf53 9 = .ok (.iload_n 1, 1) := by decide +kernel
theorem dJ9_min_7cf53_10 : decode cJ9_min_7cf53 10 = .ok (.ireturn, 1) := by decide +kernel
end
section
set_option maxRecDepth 20000 in
theorem ggL_change_X3_change : GoodIn wsL_change wsX3_change := goodIn_ca (goodIn_ca (goodIn_r _ [7, 8, 9, 10, 11, 12, 13, 14, 15, 6, 16, 17, 18, 19, 20, 21, 22, 23, 24, 25, 26, 27, 28, 29, 30, 31, 32] (by decide +kernel) (by decide +kernel)) (goodIn_sub (fun _ h => List.mem_cons_of_mem _ (List.mem_append_left _ (List.mem_append_right _ h))) (by decide +kernel))) (goodIn_sub (fun _ h => List.mem_cons_of_mem _ (List.mem_append_right _ h)) (by decide +kernel))
set_option maxRecDepth 20000 in
theorem gL_change_X3_change : GoodIn wsL_change (wsV RL 7 RX3 yX3_change wsX3_change) := goodIn_app (goodIn_of _ (by decide +kernel)) ggL_change_X3_change
theorem dL_change_0 : decode cL_change 0 = .ok (.aload_n 0, 1) := by decide +kernel
theorem dL_change_1 : decode cL_change 1 = .ok (.iload_n 1, 1) := by decide +kernel
theorem dL_change_2 : decode cL_change 2 = .ok (.iload_n 2, 1) := by decide +kernel
theorem dL_change_3 : decode cL_change 3 = .ok (.invokevirtual 7, 3) := by decide +kernel
theorem dL_change_6 : decode cL_change 6 = .ok (.goto 9, 3) := by decide +kernel
theorem dL_change_9 : decode cL_change 9 = .ok (.astore_n 3, 1) := by decide +kernel
theorem dL_change_10 : decode cL_change 10 = .ok (.iconst 1, 1) := by decide +kernel
theorem dL_change_11 : decode cL_change 11 = .ok (.ireturn, 1) := by decide +kernel
theorem dL_change_12 : decode cL_change 12 = .ok (.astore_n 3, 1) := by decide +kernel
theorem dL_change_13 : decode cL_change 13 = .ok (.iconst 2, 1) := by decide +kernel
theorem dL_change_14 : decode cL_change 14 = .ok (.ireturn, 1) := by decide +kernel
theorem dL_change_15 : decode cL_change 15 = .ok (.iconst 0, 1) := by decide +kernel
theorem dL_change_16 : decode cL_change 16 = .ok (.ireturn, 1) := by decide +kernel
set_option maxRecDepth 20000 in
theorem ggL_cut_X3_cut : GoodIn wsL_cut wsX3_cut := goodIn_ca (goodIn_r _ [6, 7, 8, 9, 10, 11, 12, 13, 14, 15, 16, 17, 18, 19, 20, 21, 22, 23, 24, 25, 26] (by decide +kernel) (by decide +kernel)) (goodIn_sub (fun _ h => List.mem_cons_of_mem _ (List.mem_append_right _ h)) (by decide +kernel))
set_option maxRecDepth 20000 in
theorem gL_cut_X3_cut : GoodIn wsL_cut (wsV RL 17 RX3 yX3_cut wsX3_cut) := goodIn_app (goodIn_of _ (by decide +kernel)) ggL_cut_X3_cut
theorem dL_cut_0 : decode cL_cut 0 = .ok (.aload_n 0, 1) := by decide +kernel
theorem dL_cut_1 : decode cL_cut 1 = .ok (.iload_n 1, 1) := by decide +kernel
theorem dL_cut_2 : decode cL_cut 2 = .ok (.invokevirtual 17, 3) := by decide +kernel
theorem dL_cut_5 : decode cL_cut 5 = .ok (.goto 6, 3) := by decide +kernel
theorem dL_cut_8 : decode cL_cut 8 = .ok (.astore_n 2, 1) := by decide +kernel
theorem dL_cut_9 : decode cL_cut 9 = .ok (.iconst 1, 1) := by decide +kernel
theorem dL_cut_10 : decode cL_cut 10 = .ok (.ireturn, 1) := by decide +kernel
theorem dL_cut_11 : decode cL_cut 11 = .ok (.iconst 0, 1) := by decide +kernel
theorem dL_cut_12 : decode cL_cut 12 = .ok (.ireturn, 1) := by decide +kernel
set_option maxRecDepth 20000 in
theorem ggL_place_X3_place : GoodIn wsL_place wsX3_place := goodIn_ca (goodIn_r _ [6, 7, 8, 9, 10, 11, 12, 13, 5, 14, 15, 16, 17, 18, 19, 20, 21, 22, 23] (by decide +kernel) (by decide +kernel)) (goodIn_sub (fun _ h => List.mem_cons_of_mem _ (List.mem_append_right _ h)) (by decide +kernel))
set_option maxRecDepth 20000 in
theorem gL_place_X3_place : GoodIn wsL_place (wsV RL 21 RX3 yX3_place wsX3_place) := goodIn_app (goodIn_of _ (by decide +kernel)) ggL_place_X3_place
theorem dL_place_0 : decode cL_place 0 = .ok (.aload_n 0, 1) := by decide +kernel
theorem dL_place_1 : decode cL_place 1 = .ok (.iload_n 1, 1) := by decide +kernel
theorem dL_place_2 : decode cL_place 2 = .ok (.iload_n 2, 1) := by decide +kernel
theorem dL_place_3 : decode cL_place 3 = .ok (.invokevirtual 21, 3) := by decide +kernel
theorem dL_place_6 : decode cL_place 6 = .ok (.goto 6, 3) := by decide +kernel
theorem dL_place_9 : decode cL_place 9 = .ok (.astore_n 3, 1) := by decide +kernel
theorem dL_place_10 : decode cL_place 10 = .ok (.iconst 1, 1) := by decide +kernel
theorem dL_place_11 : decode cL_place 11 = .ok (.ireturn, 1) := by decide +kernel
theorem dL_place_12 : decode cL_place 12 = .ok (.iconst 0, 1) := by decide +kernel
theorem dL_place_13 : decode cL_place 13 = .ok (.ireturn, 1) := by decide +kernel
set_option maxRecDepth 20000 in
theorem ggL_stream_X3_stream : GoodIn wsL_stream wsX3_stream := goodIn_ca (goodIn_r _ [6, 7, 8, 9, 10, 11, 12, 13, 14, 15, 16, 17, 18, 19, 20, 21, 22, 23, 24, 25, 26, 27, 28, 29, 30, 31, 32, 33, 34, 35, 36, 37, 38, 39, 40, 41, 42, 43, 44, 45, 46, 47, 48, 49, 50, 51, 52, 53, 54, 55, 56, 57, 58, 59, 60, 61, 62, 63, 64, 65, 66, 67, 68, 69] (by decide +kernel) (by decide +kernel)) (goodIn_sub (fun _ h => List.mem_cons_of_mem _ (List.mem_append_right _ h)) (by decide +kernel))
set_option maxRecDepth 20000 in
theorem gL_stream_X3_stream : GoodIn wsL_stream (wsV RL 24 RX3 yX3_stream wsX3_stream) := goodIn_app (goodIn_of _ (by decide +kernel)) ggL_stream_X3_stream
theorem dL_stream_0 : decode cL_stream 0 = .ok (.aload_n 2, 1) := by decide +kernel
theorem dL_stream_1 : decode cL_stream 1 = .ok (.iconst 0, 1) := by decide +kernel
theorem dL_stream_2 : decode cL_stream 2 = .ok (.aload_n 0, 1) := by decide +kernel
theorem dL_stream_3 : decode cL_stream 3 = .ok (.iload_n 1, 1) := by decide +kernel
theorem dL_stream_4 : decode cL_stream 4 = .ok (.invokevirtual 24, 3) := by decide +kernel
theorem dL_stream_7 : decode cL_stream 7 = .ok (.i2l, 1) := by decide +kernel
theorem dL_stream_8 : decode cL_stream 8 = .ok (.lastore, 1) := by decide +kernel
theorem dL_stream_9 : decode cL_stream 9 = .ok (.goto 6, 3) := by decide +kernel
theorem dL_stream_12 : decode cL_stream 12 = .ok (.astore_n 3, 1) := by decide +kernel
theorem dL_stream_13 : decode cL_stream 13 = .ok (.iconst 1, 1) := by decide +kernel
theorem dL_stream_14 : decode cL_stream 14 = .ok (.ireturn, 1) := by decide +kernel
theorem dL_stream_15 : decode cL_stream 15 = .ok (.iconst 0, 1) := by decide +kernel
theorem dL_stream_16 : decode cL_stream 16 = .ok (.ireturn, 1) := by decide +kernel
set_option maxRecDepth 20000 in
theorem ggL_unpack_X3_unpack : GoodIn wsL_unpack wsX3_unpack := goodIn_ca (goodIn_ca (goodIn_ca (goodIn_ca (goodIn_r _ [9, 10, 11, 12, 13, 14, 15, 16, 17, 18, 19, 20, 21, 22, 23, 24, 25, 26, 27, 28, 29, 30, 31, 32, 33, 34, 35, 36, 37, 38, 39, 40, 41, 42, 43, 44, 45, 46, 47, 48, 49, 50, 51, 52, 53] (by decide +kernel) (by decide +kernel)) (goodIn_sub (fun _ h => List.mem_cons_of_mem _ (List.mem_append_left _ (List.mem_append_left _ (List.mem_append_left _ (List.mem_append_right _ h))))) (by decide +kernel))) (goodIn_sub (fun _ h => List.mem_cons_of_mem _ (List.mem_append_left _ (List.mem_append_left _ (List.mem_append_right _ h)))) (by decide +kernel))) (goodIn_sub (fun _ h => List.mem_cons_of_mem _ (List.mem_append_left _ (List.mem_append_right _ h))) (by decide +kernel))) (goodIn_sub (fun _ h => List.mem_cons_of_mem _ (List.mem_append_right _ h)) (by decide +kernel))
set_option maxRecDepth 20000 in
theorem gL_unpack_X3_unpack : GoodIn wsL_unpack (wsV RL 28 RX3 yX3_unpack wsX3_unpack) := goodIn_app (goodIn_of _ (by decide +kernel)) ggL_unpack_X3_unpack
theorem dL_unpack_0 : decode cL_unpack 0 = .ok (.aload_n 1, 1) := by decide +kernel
theorem dL_unpack_1 : decode cL_unpack 1 = .ok (.iconst 0, 1) := by decide +kernel
theorem dL_unpack_2 : decode cL_unpack 2 = .ok (.aload_n 0, 1) := by decide +kernel
theorem dL_unpack_3 : decode cL_unpack 3 = .ok (.invokevirtual 28, 3) := by decide +kernel
theorem dL_unpack_6 : decode cL_unpack 6 = .ok (.i2l, 1) := by decide +kernel
theorem dL_unpack_7 : decode cL_unpack 7 = .ok (.lastore, 1) := by decide +kernel
theorem dL_unpack_8 : decode cL_unpack 8 = .ok (.goto 15, 3) := by decide +kernel
theorem dL_unpack_11 : decode cL_unpack 11 = .ok (.astore_n 2, 1) := by decide +kernel
theorem dL_unpack_12 : decode cL_unpack 12 = .ok (.iconst 1, 1) := by decide +kernel
theorem dL_unpack_13 : decode cL_unpack 13 = .ok (.ireturn, 1) := by decide +kernel
theorem dL_unpack_14 : decode cL_unpack 14 = .ok (.astore_n 2, 1) := by decide +kernel
theorem dL_unpack_15 : decode cL_unpack 15 = .ok (.iconst 2, 1) := by decide +kernel
theorem dL_unpack_16 : decode cL_unpack 16 = .ok (.ireturn, 1) := by decide +kernel
theorem dL_unpack_17 : decode cL_unpack 17 = .ok (.astore_n 2, 1) := by decide +kernel
theorem dL_unpack_18 : decode cL_unpack 18 = .ok (.iconst 3, 1) := by decide +kernel
theorem dL_unpack_19 : decode cL_unpack 19 = .ok (.ireturn, 1) := by decide +kernel
theorem dL_unpack_20 : decode cL_unpack 20 = .ok (.astore_n 2, 1) := by decide +kernel
theorem dL_unpack_21 : decode cL_unpack 21 = .ok (.iconst 4, 1) := by decide +kernel
theorem dL_unpack_22 : decode cL_unpack 22 = .ok (.ireturn, 1) := by decide +kernel
theorem dL_unpack_23 : decode cL_unpack 23 = .ok (.iconst 0, 1) := by decide +kernel
theorem dL_unpack_24 : decode cL_unpack 24 = .ok (.ireturn, 1) := by decide +kernel
set_option maxRecDepth 20000 in
theorem ggL_load_X3_load : GoodIn wsL_load wsX3_load := goodIn_ca (goodIn_r _ [6, 7, 8, 9, 10, 11, 12, 13, 14, 15, 16, 17, 18, 19, 20, 21, 22, 23, 24, 25, 26, 27, 28, 29, 30, 31, 32, 33, 34, 35, 36, 37, 38, 39, 40, 41, 42, 43, 44, 45, 46, 47, 48, 49, 50, 51, 52, 53, 54, 55, 56] (by decide +kernel) (by decide +kernel)) (goodIn_sub (fun _ h => List.mem_cons_of_mem _ (List.mem_append_right _ h)) (by decide +kernel))
set_option maxRecDepth 20000 in
theorem gL_load_X3_load : GoodIn wsL_load (wsV RL 38 RX3 yX3_load wsX3_load) := goodIn_app (goodIn_of _ (by decide +kernel)) ggL_load_X3_load
theorem dL_load_0 : decode cL_load 0 = .ok (.aload_n 0, 1) := by decide +kernel
theorem dL_load_1 : decode cL_load 1 = .ok (.invokevirtual 38, 3) := by decide +kernel
theorem dL_load_4 : decode cL_load 4 = .ok (.goto 6, 3) := by decide +kernel
theorem dL_load_7 : decode cL_load 7 = .ok (.astore_n 1, 1) := by decide +kernel
theorem dL_load_8 : decode cL_load 8 = .ok (.iconst 1, 1) := by decide +kernel
theorem dL_load_9 : decode cL_load 9 = .ok (.ireturn, 1) := by decide +kernel
theorem dL_load_10 : decode cL_load 10 = .ok (.iconst 0, 1) := by decide +kernel
theorem dL_load_11 : decode cL_load 11 = .ok (.ireturn, 1) := by decide +kernel
set_option maxRecDepth 20000 in
theorem ggL_loadPacked_X3_loadPacked : GoodIn wsL_loadPacked wsX3_loadPacked := goodIn_ca (goodIn_r _ [6, 7, 8, 9, 10, 11, 12, 13, 14, 15, 16, 17, 18, 19, 20, 21, 22, 23, 24, 25, 26, 27, 28, 29, 30, 31, 32, 33, 34, 35, 36, 37, 38, 39, 40, 41, 42, 43, 44, 45, 46, 47, 48, 49, 50, 51, 52, 53, 54, 55, 56, 57, 58, 59, 60, 61, 62, 63, 64, 65, 66, 67, 68, 69, 70, 71, 72, 73, 74, 75, 76, 77, 78, 79, 80, 81, 82, 83, 84, 85, 86, 87, 88, 89, 90, 91, 92, 93, 94, 95, 96, 97, 98, 99, 100, 101, 102, 103, 104, 105, 106, 107, 108, 109, 110, 111, 112, 113, 114, 115, 116] (by decide +kernel) (by decide +kernel)) (goodIn_sub (fun _ h => List.mem_cons_of_mem _ (List.mem_append_right _ h)) (by decide +kernel))
set_option maxRecDepth 20000 in
theorem gL_loadPacked_X3_loadPacked : GoodIn wsL_loadPacked (wsV RL 41 RX3 yX3_loadPacked wsX3_loadPacked) := goodIn_app (goodIn_of _ (by decide +kernel)) ggL_loadPacked_X3_loadPacked
theorem dL_loadPacked_0 : decode cL_loadPacked 0 = .ok (.aload_n 1, 1) := by decide +kernel
theorem dL_loadPacked_1 : decode cL_loadPacked 1 = .ok (.iconst 0, 1) := by decide +kernel
theorem dL_loadPacked_2 : decode cL_loadPacked 2 = .ok (.aload_n 0, 1) := by decide +kernel
theorem dL_loadPacked_3 : decode cL_loadPacked 3 = .ok (.invokevirtual 41, 3) := by decide +kernel
theorem dL_loadPacked_6 : decode cL_loadPacked 6 = .ok (.i2l, 1) := by decide +kernel
theorem dL_loadPacked_7 : decode cL_loadPacked 7 = .ok (.lastore, 1) := by decide +kernel
theorem dL_loadPacked_8 : decode cL_loadPacked 8 = .ok (.goto 6, 3) := by decide +kernel
theorem dL_loadPacked_11 : decode cL_loadPacked 11 = .ok (.astore_n 2, 1) := by decide +kernel
theorem dL_loadPacked_12 : decode cL_loadPacked 12 = .ok (.iconst 1, 1) := by decide +kernel
theorem dL_loadPacked_13 : decode cL_loadPacked 13 = .ok (.ireturn, 1) := by decide +kernel
theorem dL_loadPacked_14 : decode cL_loadPacked 14 = .ok (.iconst 0, 1) := by decide +kernel
theorem dL_loadPacked_15 : decode cL_loadPacked 15 = .ok (.ireturn, 1) := by decide +kernel
set_option maxRecDepth 20000 in
theorem ggL_run_X3_run : GoodIn wsL_run wsX3_run := goodIn_ca (goodIn_r _ [6, 7, 8, 9, 10, 11, 12, 13, 14, 15, 16, 17, 18, 19, 20, 21, 22, 23, 24, 25, 26, 27, 28, 29, 30, 31, 32, 33, 34, 35, 36, 37, 38, 39, 40, 41, 42, 43, 44, 45, 46, 47, 48] (by decide +kernel) (by decide +kernel)) (goodIn_sub (fun _ h => List.mem_cons_of_mem _ (List.mem_append_right _ h)) (by decide +kernel))
set_option maxRecDepth 20000 in
theorem gL_run_X3_run : GoodIn wsL_run (wsV RL 44 RX3 yX3_run wsX3_run) := goodIn_app (goodIn_of _ (by decide +kernel)) ggL_run_X3_run
theorem dL_run_0 : decode cL_run 0 = .ok (.aload_n 3, 1) := by decide +kernel
theorem dL_run_1 : decode cL_run 1 = .ok (.iconst 0, 1) := by decide +kernel
theorem dL_run_2 : decode cL_run 2 = .ok (.aload_n 0, 1) := by decide +kernel
theorem dL_run_3 : decode cL_run 3 = .ok (.iload_n 1, 1) := by decide +kernel
theorem dL_run_4 : decode cL_run 4 = .ok (.iload_n 2, 1) := by decide +kernel
theorem dL_run_5 : decode cL_run 5 = .ok (.invokevirtual 44, 3) := by decide +kernel
theorem dL_run_8 : decode cL_run 8 = .ok (.i2l, 1) := by decide +kernel
theorem dL_run_9 : decode cL_run 9 = .ok (.lastore, 1) := by decide +kernel
theorem dL_run_10 : decode cL_run 10 = .ok (.goto 7, 3) := by decide +kernel
theorem dL_run_13 : decode cL_run 13 = .ok (.astore 4, 2) := by decide +kernel
theorem dL_run_15 : decode cL_run 15 = .ok (.iconst 1, 1) := by decide +kernel
theorem dL_run_16 : decode cL_run 16 = .ok (.ireturn, 1) := by decide +kernel
theorem dL_run_17 : decode cL_run 17 = .ok (.iconst 0, 1) := by decide +kernel
theorem dL_run_18 : decode cL_run 18 = .ok (.ireturn, 1) := by decide +kernel
set_option maxRecDepth 20000 in
theorem ggL_look_X3_look : GoodIn wsL_look wsX3_look := goodIn_ca (goodIn_r _ [6, 7, 8, 9, 10, 11, 12, 13, 14, 15, 16, 17, 18, 19, 20, 21, 22, 23, 24] (by decide +kernel) (by decide +kernel)) (goodIn_sub (fun _ h => List.mem_cons_of_mem _ (List.mem_append_right _ h)) (by decide +kernel))
set_option maxRecDepth 20000 in
theorem gL_look_X3_look : GoodIn wsL_look (wsV RL 48 RX3 yX3_look wsX3_look) := goodIn_app (goodIn_of _ (by decide +kernel)) ggL_look_X3_look
theorem dL_look_0 : decode cL_look 0 = .ok (.aload_n 2, 1) := by decide +kernel
theorem dL_look_1 : decode cL_look 1 = .ok (.iconst 0, 1) := by decide +kernel
theorem dL_look_2 : decode cL_look 2 = .ok (.aload_n 0, 1) := by decide +kernel
theorem dL_look_3 : decode cL_look 3 = .ok (.iload_n 1, 1) := by decide +kernel
theorem dL_look_4 : decode cL_look 4 = .ok (.invokevirtual 48, 3) := by decide +kernel
theorem dL_look_7 : decode cL_look 7 = .ok (.i2l, 1) := by decide +kernel
theorem dL_look_8 : decode cL_look 8 = .ok (.lastore, 1) := by decide +kernel
theorem dL_look_9 : decode cL_look 9 = .ok (.goto 6, 3) := by decide +kernel
theorem dL_look_12 : decode cL_look 12 = .ok (.astore_n 3, 1) := by decide +kernel
theorem dL_look_13 : decode cL_look 13 = .ok (.iconst 1, 1) := by decide +kernel
theorem dL_look_14 : decode cL_look 14 = .ok (.ireturn, 1) := by decide +kernel
theorem dL_look_15 : decode cL_look 15 = .ok (.iconst 0, 1) := by decide +kernel
theorem dL_look_16 : decode cL_look 16 = .ok (.ireturn, 1) := by decide +kernel
set_option maxRecDepth 20000 in
theorem ggL_memory_X3_memory : GoodIn wsL_memory wsX3_memory := goodIn_ca (goodIn_r _ [6, 7, 8, 9, 10, 11, 12, 5, 13, 14, 15, 16, 17, 18, 19, 20, 21, 22, 23] (by decide +kernel) (by decide +kernel)) (goodIn_sub (fun _ h => List.mem_cons_of_mem _ (List.mem_append_right _ h)) (by decide +kernel))
set_option maxRecDepth 20000 in
theorem gL_memory_X3_memory : GoodIn wsL_memory (wsV RL 51 RX3 yX3_memory wsX3_memory) := goodIn_app (goodIn_of _ (by decide +kernel)) ggL_memory_X3_memory
theorem dL_memory_0 : decode cL_memory 0 = .ok (.aload_n 2, 1) := by decide +kernel
theorem dL_memory_1 : decode cL_memory 1 = .ok (.iconst 0, 1) := by decide +kernel
theorem dL_memory_2 : decode cL_memory 2 = .ok (.aload_n 0, 1) := by decide +kernel
theorem dL_memory_3 : decode cL_memory 3 = .ok (.iload_n 1, 1) := by decide +kernel
theorem dL_memory_4 : decode cL_memory 4 = .ok (.invokevirtual 51, 3) := by decide +kernel
theorem dL_memory_7 : decode cL_memory 7 = .ok (.i2l, 1) := by decide +kernel
theorem dL_memory_8 : decode cL_memory 8 = .ok (.lastore, 1) := by decide +kernel
theorem dL_memory_9 : decode cL_memory 9 = .ok (.goto 6, 3) := by decide +kernel
theorem dL_memory_12 : decode cL_memory 12 = .ok (.astore_n 3, 1) := by decide +kernel
theorem dL_memory_13 : decode cL_memory 13 = .ok (.iconst 1, 1) := by decide +kernel
theorem dL_memory_14 : decode cL_memory 14 = .ok (.ireturn, 1) := by decide +kernel
theorem dL_memory_15 : decode cL_memory 15 = .ok (.iconst 0, 1) := by decide +kernel
theorem dL_memory_16 : decode cL_memory 16 = .ok (.ireturn, 1) := by decide +kernel
set_option maxRecDepth 20000 in
theorem ggL_out_X3_out : GoodIn wsL_out wsX3_out := goodIn_ca (goodIn_r _ [6, 7, 8, 9, 10, 11, 12, 13, 14, 15, 16, 17, 18, 19, 20, 21, 22, 23, 24, 25, 26] (by decide +kernel) (by decide +kernel)) (goodIn_sub (fun _ h => List.mem_cons_of_mem _ (List.mem_append_right _ h)) (by decide +kernel))
set_option maxRecDepth 20000 in
theorem gL_out_X3_out : GoodIn wsL_out (wsV RL 54 RX3 yX3_out wsX3_out) := goodIn_app (goodIn_of _ (by decide +kernel)) ggL_out_X3_out
theorem dL_out_0 : decode cL_out 0 = .ok (.aload_n 2, 1) := by decide +kernel
theorem dL_out_1 : decode cL_out 1 = .ok (.iconst 0, 1) := by decide +kernel
theorem dL_out_2 : decode cL_out 2 = .ok (.aload_n 0, 1) := by decide +kernel
theorem dL_out_3 : decode cL_out 3 = .ok (.iload_n 1, 1) := by decide +kernel
theorem dL_out_4 : decode cL_out 4 = .ok (.invokevirtual 54, 3) := by decide +kernel
theorem dL_out_7 : decode cL_out 7 = .ok (.i2l, 1) := by decide +kernel
theorem dL_out_8 : decode cL_out 8 = .ok (.lastore, 1) := by decide +kernel
theorem dL_out_9 : decode cL_out 9 = .ok (.goto 6, 3) := by decide +kernel
theorem dL_out_12 : decode cL_out 12 = .ok (.astore_n 3, 1) := by decide +kernel
theorem dL_out_13 : decode cL_out 13 = .ok (.iconst 1, 1) := by decide +kernel
theorem dL_out_14 : decode cL_out 14 = .ok (.ireturn, 1) := by decide +kernel
theorem dL_out_15 : decode cL_out 15 = .ok (.iconst 0, 1) := by decide +kernel
theorem dL_out_16 : decode cL_out 16 = .ok (.ireturn, 1) := by decide +kernel
set_option maxRecDepth 20000 in
theorem ggL_apart_X3_apart : GoodIn wsL_apart wsX3_apart := goodIn_ca (goodIn_ca (goodIn_r _ [7, 8, 9, 10, 11, 12, 13, 14, 15, 16, 17, 18, 19, 20, 21, 22, 23, 24, 25, 26, 27, 28, 29, 30, 31, 32, 33, 34, 35, 36, 37, 38, 39, 40, 41, 42, 43, 44, 45, 46, 47, 48, 49, 50, 51, 52, 53, 54, 55, 56, 57, 58, 59, 60, 61, 62, 63, 64, 65, 66, 67, 68, 69, 70, 71, 72, 73, 74, 75, 76, 77, 78, 79, 80, 81, 82, 83, 84, 85, 86, 87, 88, 89, 90, 91, 92, 93, 94, 95, 96, 97, 98, 99, 100, 101, 102, 103, 104, 105, 106, 107, 108] (by decide +kernel) (by decide +kernel)) (goodIn_sub (fun _ h => List.mem_cons_of_mem _ (List.mem_append_left _ (List.mem_append_right _ h))) (by decide +kernel))) (goodIn_sub (fun _ h => List.mem_cons_of_mem _ (List.mem_append_right _ h)) (by decide +kernel))
set_option maxRecDepth 20000 in
theorem gL_apart_X3_apart : GoodIn wsL_apart (wsV RL 57 RX3 yX3_apart wsX3_apart) := goodIn_app (goodIn_of _ (by decide +kernel)) ggL_apart_X3_apart
theorem dL_apart_0 : decode cL_apart 0 = .ok (.aload_n 1, 1) := by decide +kernel
theorem dL_apart_1 : decode cL_apart 1 = .ok (.iconst 0, 1) := by decide +kernel
theorem dL_apart_2 : decode cL_apart 2 = .ok (.aload_n 0, 1) := by decide +kernel
theorem dL_apart_3 : decode cL_apart 3 = .ok (.invokevirtual 57, 3) := by decide +kernel
theorem dL_apart_6 : decode cL_apart 6 = .ok (.i2l, 1) := by decide +kernel
theorem dL_apart_7 : decode cL_apart 7 = .ok (.lastore, 1) := by decide +kernel
theorem dL_apart_8 : decode cL_apart 8 = .ok (.goto 9, 3) := by decide +kernel
theorem dL_apart_11 : decode cL_apart 11 = .ok (.astore_n 2, 1) := by decide +kernel
theorem dL_apart_12 : decode cL_apart 12 = .ok (.iconst 1, 1) := by decide +kernel
theorem dL_apart_13 : decode cL_apart 13 = .ok (.ireturn, 1) := by decide +kernel
theorem dL_apart_14 : decode cL_apart 14 = .ok (.astore_n 2, 1) := by decide +kernel
theorem dL_apart_15 : decode cL_apart 15 = .ok (.iconst 2, 1) := by decide +kernel
theorem dL_apart_16 : decode cL_apart 16 = .ok (.ireturn, 1) := by decide +kernel
theorem dL_apart_17 : decode cL_apart 17 = .ok (.iconst 0, 1) := by decide +kernel
theorem dL_apart_18 : decode cL_apart 18 = .ok (.ireturn, 1) := by decide +kernel
set_option maxRecDepth 20000 in
theorem ggL_law_X3_init : GoodIn wsL_law wsX3_init := goodIn_r _ [10, 11, 12, 13, 14, 15, 16, 17, 18, 19, 20, 21, 22, 23, 24, 25, 26, 27, 28, 29, 30, 31, 32, 33, 34, 35, 36, 37, 38, 39, 40, 41, 42, 43, 44, 45, 46, 47, 48, 49, 50, 51, 52, 500, 501, 502, 503, 504, 505, 506, 507, 508, 476, 477, 478, 509, 510, 511, 512, 513, 514, 515, 516, 517, 518, 519, 520, 521] (by decide +kernel) (by decide +kernel)
set_option maxRecDepth 20000 in
theorem gL_law_X3_init : GoodIn wsL_law (wsX3_init) := ggL_law_X3_init
set_option maxRecDepth 20000 in
theorem ggL_law_X4_init : GoodIn wsL_law wsX4_init := goodIn_r _ [55, 56, 12, 13, 32, 57, 58, 59, 60, 61, 62, 63, 64, 65, 66, 67, 479, 480, 481, 482, 483, 484, 485, 486, 487, 488, 489, 490, 491, 492, 493, 494, 495, 496, 497, 498, 499] (by decide +kernel) (by decide +kernel)
set_option maxRecDepth 20000 in
theorem gL_law_X4_init : GoodIn wsL_law (wsX4_init) := ggL_law_X4_init
set_option maxRecDepth 20000 in
theorem ggL_law_X3_put : GoodIn wsL_law wsX3_put := goodIn_r _ [71, 19, 72, 73, 74, 75, 30, 76, 77, 78, 79, 80, 81, 43, 82, 476, 477, 478, 516, 517, 518, 519, 520, 521] (by decide +kernel) (by decide +kernel)
set_option maxRecDepth 20000 in
theorem gL_law_X3_put : GoodIn wsL_law (wsV RL 66 RX3 yX3_put wsX3_put) := goodIn_app (goodIn_of _ (by decide +kernel)) ggL_law_X3_put
set_option maxRecDepth 20000 in
theorem ggL_law_X4_put : GoodIn wsL_law wsX4_put := goodIn_r _ [86, 87, 88, 57, 89, 90, 479, 480, 481, 482, 483, 484, 485, 486, 487, 488, 489, 490, 491, 492, 493, 494, 495, 496, 497, 498, 499] (by decide +kernel) (by decide +kernel)
set_option maxRecDepth 20000 in
theorem gL_law_X4_put : GoodIn wsL_law (wsV RL 70 RX4 yX4_put wsX4_put) := goodIn_app (goodIn_of _ (by decide +kernel)) ggL_law_X4_put
set_option maxRecDepth 20000 in
theorem ggL_law_X3_again : GoodIn wsL_law wsX3_again := goodIn_r _ [94, 19, 95, 96, 73, 74, 75, 30, 76, 77, 78, 79, 80, 81, 43, 82, 476, 477, 478, 516, 517, 518, 519, 520, 521] (by decide +kernel) (by decide +kernel)
set_option maxRecDepth 20000 in
theorem gL_law_X3_again : GoodIn wsL_law (wsV RL 71 RX3 yX3_again wsX3_again) := goodIn_app (goodIn_of _ (by decide +kernel)) ggL_law_X3_again
set_option maxRecDepth 20000 in
theorem ggL_law_X4_again : GoodIn wsL_law wsX4_again := goodIn_r _ [100, 87, 88, 57, 90, 479, 480, 481, 482, 483, 484, 485, 486, 487, 488, 489, 490, 491, 492, 493, 494, 495, 496, 497, 498, 499] (by decide +kernel) (by decide +kernel)
set_option maxRecDepth 20000 in
theorem gL_law_X4_again : GoodIn wsL_law (wsV RL 75 RX4 yX4_again wsX4_again) := goodIn_app (goodIn_of _ (by decide +kernel)) ggL_law_X4_again
set_option maxRecDepth 20000 in
theorem ggL_law_L_change : GoodIn wsL_law wsL_change := goodIn_ca (goodIn_ca (goodIn_r _ [104, 105, 106, 107, 108, 109, 2, 110, 111, 112, 113, 114, 19, 95, 115, 116, 117, 118, 119, 120, 30, 121, 43, 82, 476, 477, 478, 516, 517, 518, 519, 520, 521] (by decide +kernel) (by decide +kernel)) (goodIn_sub (fun _ h => List.mem_append_left _ (List.mem_append_left _ (List.mem_append_left _ (List.mem_append_left _ (List.mem_append_left _ (List.mem_append_left _ (List.mem_append_left _ (List.mem_append_right _ h)))))))) (by decide +kernel))) (goodIn_sub (fun _ h => List.mem_append_left _ (List.mem_append_left _ (List.mem_append_left _ (List.mem_append_left _ (List.mem_append_left _ (List.mem_append_left _ (List.mem_append_right _ h))))))) (by decide +kernel))
set_option maxRecDepth 20000 in
theorem gL_law_L_change : GoodIn wsL_law (va_wsS RL 76 yL_change wsL_change) := goodIn_app (goodIn_of _ (by decide +kernel)) ggL_law_L_change
set_option maxRecDepth 20000 in
theorem ggL_law_X4_change : GoodIn wsL_law wsX4_change := goodIn_r _ [125, 88, 87, 57, 90, 126, 127, 5, 128, 479, 480, 481, 482, 483, 484, 485, 486, 487, 488, 489, 490, 491, 492, 493, 494, 495, 496, 497, 498, 499] (by decide +kernel) (by decide +kernel)
set_option maxRecDepth 20000 in
theorem gL_law_X4_change : GoodIn wsL_law (wsV RL 81 RX4 yX4_change wsX4_change) := goodIn_app (goodIn_of _ (by decide +kernel)) ggL_law_X4_change
set_option maxRecDepth 20000 in
theorem ggL_law_X4_thrown : GoodIn wsL_law wsX4_thrown := goodIn_r _ [132, 87, 479, 480, 481, 482, 483, 484, 485, 486, 487, 488, 489, 490, 491, 492, 493, 494, 495, 496, 497, 498, 499] (by decide +kernel) (by decide +kernel)
set_option maxRecDepth 20000 in
theorem gL_law_X4_thrown : GoodIn wsL_law (wsV RL 82 RX4 yX4_thrown wsX4_thrown) := goodIn_app (goodIn_of _ (by decide +kernel)) ggL_law_X4_thrown
set_option maxRecDepth 20000 in
theorem ggL_law_L_cut : GoodIn wsL_law wsL_cut := goodIn_ca (goodIn_r _ [135, 106, 136, 137, 138, 2, 139, 113, 114, 19, 95, 140, 141, 142, 30, 143, 77, 82, 476, 477, 478, 516, 517, 518, 519, 520, 521] (by decide +kernel) (by decide +kernel)) (goodIn_sub (fun _ h => List.mem_append_left _ (List.mem_append_left _ (List.mem_append_left _ (List.mem_append_left _ (List.mem_append_left _ (List.mem_append_left _ (List.mem_append_right _ h))))))) (by decide +kernel))
set_option maxRecDepth 20000 in
theorem gL_law_L_cut : GoodIn wsL_law (va_wsS RL 85 yL_cut wsL_cut) := goodIn_app (goodIn_of _ (by decide +kernel)) ggL_law_L_cut
set_option maxRecDepth 20000 in
theorem ggL_law_X4_cut : GoodIn wsL_law wsX4_cut := goodIn_r _ [147, 88, 87, 90, 479, 480, 481, 482, 483, 484, 485, 486, 487, 488, 489, 490, 491, 492, 493, 494, 495, 496, 497, 498, 499] (by decide +kernel) (by decide +kernel)
set_option maxRecDepth 20000 in
theorem gL_law_X4_cut : GoodIn wsL_law (wsV RL 88 RX4 yX4_cut wsX4_cut) := goodIn_app (goodIn_of _ (by decide +kernel)) ggL_law_X4_cut
set_option maxRecDepth 20000 in
theorem ggL_law_L_place : GoodIn wsL_law wsL_place := goodIn_ca (goodIn_r _ [150, 106, 151, 152, 153, 2, 154, 113, 114, 19, 155, 156, 115, 116, 117, 476, 477, 478, 516, 517, 518, 519, 520, 521] (by decide +kernel) (by decide +kernel)) (goodIn_sub (fun _ h => List.mem_append_left _ (List.mem_append_left _ (List.mem_append_left _ (List.mem_append_left _ (List.mem_append_left _ (List.mem_append_left _ (List.mem_append_right _ h))))))) (by decide +kernel))
set_option maxRecDepth 20000 in
theorem gL_law_L_place : GoodIn wsL_law (va_wsS RL 89 yL_place wsL_place) := goodIn_app (goodIn_of _ (by decide +kernel)) ggL_law_L_place
set_option maxRecDepth 20000 in
theorem ggL_law_X4_place : GoodIn wsL_law wsX4_place := goodIn_r _ [160, 87, 161, 162, 126, 127, 5, 128, 479, 480, 481, 482, 483, 484, 485, 486, 487, 488, 489, 490, 491, 492, 493, 494, 495, 496, 497, 498, 499] (by decide +kernel) (by decide +kernel)
set_option maxRecDepth 20000 in
theorem gL_law_X4_place : GoodIn wsL_law (wsV RL 91 RX4 yX4_place wsX4_place) := goodIn_app (goodIn_of _ (by decide +kernel)) ggL_law_X4_place
set_option maxRecDepth 20000 in
theorem ggL_law_X3_size : GoodIn wsL_law wsX3_size := goodIn_r _ [166, 19, 95, 476, 477, 478, 516, 517, 518, 519, 520, 521] (by decide +kernel) (by decide +kernel)
set_option maxRecDepth 20000 in
theorem gL_law_X3_size : GoodIn wsL_law (wsV RL 92 RX3 yX3_size wsX3_size) := goodIn_app (goodIn_of _ (by decide +kernel)) ggL_law_X3_size
set_option maxRecDepth 20000 in
theorem ggL_law_X4_size : GoodIn wsL_law wsX4_size := goodIn_r _ [170, 87, 88, 479, 480, 481, 482, 483, 484, 485, 486, 487, 488, 489, 490, 491, 492, 493, 494, 495, 496, 497, 498, 499] (by decide +kernel) (by decide +kernel)
set_option maxRecDepth 20000 in
theorem gL_law_X4_size : GoodIn wsL_law (wsV RL 95 RX4 yX4_size wsX4_size) := goodIn_app (goodIn_of _ (by decide +kernel)) ggL_law_X4_size
set_option maxRecDepth 20000 in
theorem ggL_law_X3_packed : GoodIn wsL_law wsX3_packed := goodIn_r _ [174, 17, 175, 176, 177, 178, 16, 179, 38, 31, 180, 181, 37, 34, 182, 183, 184, 185, 186, 187, 35, 36, 188, 189, 190, 191, 192, 193, 194, 195, 196, 197, 198, 199, 200, 201, 202, 203, 33, 204, 205, 206, 207, 476, 477, 478, 500, 501, 502, 503, 504, 505, 506, 507, 508, 516, 517, 518, 519, 520, 521] (by decide +kernel) (by decide +kernel)
set_option maxRecDepth 20000 in
theorem gL_law_X3_packed : GoodIn wsL_law (wsV RL 96 RX3 yX3_packed wsX3_packed) := goodIn_app (goodIn_of _ (by decide +kernel)) ggL_law_X3_packed
set_option maxRecDepth 20000 in
theorem ggL_law_X4_packed : GoodIn wsL_law wsX4_packed := goodIn_r _ [211, 87, 212, 213, 214, 215, 5, 216, 90, 59, 88, 62, 217, 60, 58, 61, 57, 218, 219, 220, 221, 222, 479, 480, 481, 482, 483, 484, 485, 486, 487, 488, 489, 490, 491, 492, 493, 494, 495, 496, 497, 498, 499] (by decide +kernel) (by decide +kernel)
set_option maxRecDepth 20000 in
theorem gL_law_X4_packed : GoodIn wsL_law (wsV RL 99 RX4 yX4_packed wsX4_packed) := goodIn_app (goodIn_of _ (by decide +kernel)) ggL_law_X4_packed
set_option maxRecDepth 20000 in
theorem ggL_law_L_stream : GoodIn wsL_law wsL_stream := goodIn_ca (goodIn_r _ [225, 105, 226, 227, 228, 2, 229, 111, 112, 17, 175, 230, 176, 177, 178, 16, 179, 38, 31, 180, 181, 37, 34, 182, 183, 184, 185, 186, 187, 35, 36, 188, 189, 190, 191, 192, 193, 194, 195, 196, 197, 198, 199, 200, 201, 202, 203, 33, 204, 205, 206, 207, 476, 477, 478, 500, 501, 502, 503, 504, 505, 506, 507, 508, 516, 517, 518, 519, 520, 521] (by decide +kernel) (by decide +kernel)) (goodIn_sub (fun _ h => List.mem_append_left _ (List.mem_append_left _ (List.mem_append_left _ (List.mem_append_left _ (List.mem_append_left _ (List.mem_append_left _ (List.mem_append_left _ (List.mem_append_right _ h)))))))) (by decide +kernel))
set_option maxRecDepth 20000 in
theorem gL_law_L_stream : GoodIn wsL_law (va_wsS RL 100 yL_stream wsL_stream) := goodIn_app (goodIn_of _ (by decide +kernel)) ggL_law_L_stream
set_option maxRecDepth 20000 in
theorem ggL_law_X4_stream : GoodIn wsL_law wsX4_stream := goodIn_r _ [234, 212, 87, 58, 213, 214, 215, 5, 216, 90, 59, 88, 62, 217, 60, 61, 57, 218, 219, 220, 221, 222, 479, 480, 481, 482, 483, 484, 485, 486, 487, 488, 489, 490, 491, 492, 493, 494, 495, 496, 497, 498, 499] (by decide +kernel) (by decide +kernel)
set_option maxRecDepth 20000 in
theorem gL_law_X4_stream : GoodIn wsL_law (wsV RL 103 RX4 yX4_stream wsX4_stream) := goodIn_app (goodIn_of _ (by decide +kernel)) ggL_law_X4_stream
set_option maxRecDepth 20000 in
theorem ggL_law_X3_gap : GoodIn wsL_law wsX3_gap := goodIn_r _ [238, 17, 239, 176, 177, 178, 16, 179, 38, 31, 180, 181, 37, 34, 182, 183, 184, 185, 186, 187, 35, 36, 188, 189, 190, 191, 192, 193, 194, 195, 196, 197, 198, 199, 200, 201, 202, 203, 33, 204, 205, 206, 207, 476, 477, 478, 500, 501, 502, 503, 504, 505, 506, 507, 508, 516, 517, 518, 519, 520, 521] (by decide +kernel) (by decide +kernel)
set_option maxRecDepth 20000 in
theorem gL_law_X3_gap : GoodIn wsL_law (wsV RL 104 RX3 yX3_gap wsX3_gap) := goodIn_app (goodIn_of _ (by decide +kernel)) ggL_law_X3_gap
set_option maxRecDepth 20000 in
theorem ggL_law_X4_gap : GoodIn wsL_law wsX4_gap := goodIn_r _ [243, 87, 217, 213, 214, 215, 5, 216, 90, 59, 88, 62, 212, 60, 58, 61, 57, 218, 219, 220, 221, 222, 479, 480, 481, 482, 483, 484, 485, 486, 487, 488, 489, 490, 491, 492, 493, 494, 495, 496, 497, 498, 499] (by decide +kernel) (by decide +kernel)
set_option maxRecDepth 20000 in
theorem gL_law_X4_gap : GoodIn wsL_law (wsV RL 107 RX4 yX4_gap wsX4_gap) := goodIn_app (goodIn_of _ (by decide +kernel)) ggL_law_X4_gap
set_option maxRecDepth 20000 in
theorem ggL_law_L_unpack : GoodIn wsL_law wsL_unpack := goodIn_ca (goodIn_ca (goodIn_ca (goodIn_ca (goodIn_r _ [246, 247, 248, 106, 249, 250, 251, 252, 2, 253, 19, 95, 254, 255, 256, 30, 257, 258, 259, 260, 261, 77, 43, 44, 262, 205, 206, 207, 263, 264, 265, 266, 267, 268, 269, 270, 271, 272, 273, 114, 274, 141, 142, 143, 82, 476, 477, 478, 516, 517, 518, 519, 520, 521] (by decide +kernel) (by decide +kernel)) (goodIn_sub (fun _ h => List.mem_append_left _ (List.mem_append_left _ (List.mem_append_left _ (List.mem_append_left _ (List.mem_append_left _ (List.mem_append_right _ h)))))) (by decide +kernel))) (goodIn_sub (fun _ h => List.mem_append_left _ (List.mem_append_left _ (List.mem_append_left _ (List.mem_append_left _ (List.mem_append_right _ h))))) (by decide +kernel))) (goodIn_sub (fun _ h => List.mem_append_left _ (List.mem_append_left _ (List.mem_append_left _ (List.mem_append_right _ h)))) (by decide +kernel))) (goodIn_sub (fun _ h => List.mem_append_left _ (List.mem_append_left _ (List.mem_append_right _ h))) (by decide +kernel))
set_option maxRecDepth 20000 in
theorem gL_law_L_unpack : GoodIn wsL_law (va_wsS RL 108 yL_unpack wsL_unpack) := goodIn_app (goodIn_of _ (by decide +kernel)) ggL_law_L_unpack
set_option maxRecDepth 20000 in
theorem ggL_law_X4_unpack : GoodIn wsL_law wsX4_unpack := goodIn_r _ [278, 87, 88, 57, 63, 90, 279, 280, 281, 5, 282, 283, 284, 285, 286, 479, 480, 481, 482, 483, 484, 485, 486, 487, 488, 489, 490, 491, 492, 493, 494, 495, 496, 497, 498, 499] (by decide +kernel) (by decide +kernel)
set_option maxRecDepth 20000 in
theorem gL_law_X4_unpack : GoodIn wsL_law (wsV RL 111 RX4 yX4_unpack wsX4_unpack) := goodIn_app (goodIn_of _ (by decide +kernel)) ggL_law_X4_unpack
set_option maxRecDepth 20000 in
theorem ggL_law_L_load : GoodIn wsL_law wsL_load := goodIn_ca (goodIn_r _ [289, 248, 290, 291, 292, 2, 293, 294, 261, 19, 23, 156, 155, 96, 95, 295, 296, 297, 30, 298, 299, 77, 300, 301, 302, 22, 303, 49, 50, 304, 52, 305, 306, 307, 308, 309, 310, 311, 205, 206, 207, 476, 477, 478, 516, 517, 518, 519, 520, 521, 509, 510, 511, 512, 513, 514, 515] (by decide +kernel) (by decide +kernel)) (goodIn_sub (fun _ h => List.mem_append_left _ (List.mem_append_right _ h)) (by decide +kernel))
set_option maxRecDepth 20000 in
theorem gL_law_L_load : GoodIn wsL_law (va_wsS RL 112 yL_load wsL_load) := goodIn_app (goodIn_of _ (by decide +kernel)) ggL_law_L_load
set_option maxRecDepth 20000 in
theorem ggL_law_X4_load : GoodIn wsL_law wsX4_load := goodIn_r _ [315, 161, 88, 87, 162, 64, 57, 316, 317, 318, 5, 319, 65, 320, 66, 321, 322, 479, 480, 481, 482, 483, 484, 485, 486, 487, 488, 489, 490, 491, 492, 493, 494, 495, 496, 497, 498, 499] (by decide +kernel) (by decide +kernel)
set_option maxRecDepth 20000 in
theorem gL_law_X4_load : GoodIn wsL_law (wsV RL 115 RX4 yX4_load wsX4_load) := goodIn_app (goodIn_of _ (by decide +kernel)) ggL_law_X4_load
set_option maxRecDepth 20000 in
theorem ggL_law_L_loadPacked : GoodIn wsL_law wsL_loadPacked := goodIn_ca (goodIn_r _ [325, 249, 326, 327, 328, 2, 329, 330, 268, 17, 175, 23, 230, 19, 155, 156, 176, 177, 178, 16, 179, 38, 31, 180, 181, 37, 34, 182, 183, 184, 185, 186, 187, 35, 36, 188, 189, 190, 191, 192, 193, 194, 195, 196, 197, 198, 199, 200, 201, 202, 203, 33, 204, 205, 206, 207, 331, 332, 333, 334, 335, 336, 337, 338, 339, 340, 341, 342, 343, 344, 300, 301, 302, 22, 303, 49, 50, 304, 52, 305, 306, 307, 308, 309, 310, 311, 345, 346, 347, 348, 349, 350, 476, 477, 478, 500, 501, 502, 503, 504, 505, 506, 507, 508, 516, 517, 518, 519, 520, 521, 509, 510, 511, 512, 513, 514, 515] (by decide +kernel) (by decide +kernel)) (goodIn_sub (fun _ h => List.mem_append_right _ h) (by decide +kernel))
set_option maxRecDepth 20000 in
theorem gL_law_L_loadPacked : GoodIn wsL_law (va_wsS RL 116 yL_loadPacked wsL_loadPacked) := goodIn_app (goodIn_of _ (by decide +kernel)) ggL_law_L_loadPacked
set_option maxRecDepth 20000 in
theorem ggL_law_X4_loadPacked : GoodIn wsL_law wsX4_loadPacked := goodIn_r _ [354, 87, 161, 88, 217, 212, 64, 58, 355, 356, 357, 5, 358, 213, 214, 215, 216, 90, 59, 62, 60, 61, 57, 218, 219, 220, 221, 222, 316, 317, 318, 319, 65, 320, 66, 321, 322, 359, 360, 361, 362, 363, 364, 365, 366, 367, 368, 89, 369, 370, 371, 372, 373, 374, 375, 376, 377, 162, 479, 480, 481, 482, 483, 484, 485, 486, 487, 488, 489, 490, 491, 492, 493, 494, 495, 496, 497, 498, 499] (by decide +kernel) (by decide +kernel)
set_option maxRecDepth 20000 in
theorem gL_law_X4_loadPacked : GoodIn wsL_law (wsV RL 118 RX4 yX4_loadPacked wsX4_loadPacked) := goodIn_app (goodIn_of _ (by decide +kernel)) ggL_law_X4_loadPacked
set_option maxRecDepth 20000 in
theorem ggL_law_L_run : GoodIn wsL_law wsL_run := goodIn_ca (goodIn_r _ [380, 106, 381, 382, 383, 2, 384, 113, 114, 23, 385, 386, 387, 388, 22, 389, 52, 390, 391, 392, 393, 49, 304, 305, 394, 395, 396, 397, 50, 51, 306, 398, 399, 400, 401, 402, 403, 404, 405, 476, 477, 478, 509, 510, 511, 512, 513, 514, 515] (by decide +kernel) (by decide +kernel)) (goodIn_sub (fun _ h => List.mem_append_left _ (List.mem_append_left _ (List.mem_append_left _ (List.mem_append_left _ (List.mem_append_left _ (List.mem_append_left _ (List.mem_append_right _ h))))))) (by decide +kernel))
set_option maxRecDepth 20000 in
theorem gL_law_L_run : GoodIn wsL_law (va_wsS RL 119 yL_run wsL_run) := goodIn_app (goodIn_of _ (by decide +kernel)) ggL_law_L_run
set_option maxRecDepth 20000 in
theorem ggL_law_X4_run : GoodIn wsL_law wsX4_run := goodIn_r _ [409, 87, 66, 320, 410, 411, 412, 5, 413, 64, 65, 321, 414, 415, 416, 417, 67, 322, 479, 480, 481, 482, 483, 484, 485, 486, 487, 488, 489, 490, 491, 492, 493, 494, 495, 496, 497, 498, 499] (by decide +kernel) (by decide +kernel)
set_option maxRecDepth 20000 in
theorem gL_law_X4_run : GoodIn wsL_law (wsV RL 122 RX4 yX4_run wsX4_run) := goodIn_app (goodIn_of _ (by decide +kernel)) ggL_law_X4_run
set_option maxRecDepth 20000 in
theorem ggL_law_L_look : GoodIn wsL_law wsL_look := goodIn_ca (goodIn_r _ [420, 105, 421, 422, 423, 2, 424, 111, 112, 23, 425, 385, 426, 427, 428, 476, 477, 478, 509, 510, 511, 512, 513, 514, 515] (by decide +kernel) (by decide +kernel)) (goodIn_sub (fun _ h => List.mem_append_left _ (List.mem_append_left _ (List.mem_append_left _ (List.mem_append_left _ (List.mem_append_left _ (List.mem_append_left _ (List.mem_append_left _ (List.mem_append_right _ h)))))))) (by decide +kernel))
set_option maxRecDepth 20000 in
theorem gL_law_L_look : GoodIn wsL_law (va_wsS RL 123 yL_look wsL_look) := goodIn_app (goodIn_of _ (by decide +kernel)) ggL_law_L_look
set_option maxRecDepth 20000 in
theorem ggL_law_X4_look : GoodIn wsL_law wsX4_look := goodIn_r _ [432, 87, 65, 320, 66, 321, 322, 479, 480, 481, 482, 483, 484, 485, 486, 487, 488, 489, 490, 491, 492, 493, 494, 495, 496, 497, 498, 499] (by decide +kernel) (by decide +kernel)
set_option maxRecDepth 20000 in
theorem gL_law_X4_look : GoodIn wsL_law (wsV RL 125 RX4 yX4_look wsX4_look) := goodIn_app (goodIn_of _ (by decide +kernel)) ggL_law_X4_look
set_option maxRecDepth 20000 in
theorem ggL_law_L_memory : GoodIn wsL_law wsL_memory := goodIn_ca (goodIn_r _ [435, 105, 436, 437, 438, 2, 439, 111, 112, 23, 440, 115, 116, 117, 476, 477, 478, 509, 510, 511, 512, 513, 514, 515] (by decide +kernel) (by decide +kernel)) (goodIn_sub (fun _ h => List.mem_append_left _ (List.mem_append_left _ (List.mem_append_left _ (List.mem_append_left _ (List.mem_append_left _ (List.mem_append_left _ (List.mem_append_left _ (List.mem_append_right _ h)))))))) (by decide +kernel))
set_option maxRecDepth 20000 in
theorem gL_law_L_memory : GoodIn wsL_law (va_wsS RL 126 yL_memory wsL_memory) := goodIn_app (goodIn_of _ (by decide +kernel)) ggL_law_L_memory
set_option maxRecDepth 20000 in
theorem ggL_law_X4_memory : GoodIn wsL_law wsX4_memory := goodIn_r _ [444, 87, 64, 126, 127, 5, 128, 479, 480, 481, 482, 483, 484, 485, 486, 487, 488, 489, 490, 491, 492, 493, 494, 495, 496, 497, 498, 499] (by decide +kernel) (by decide +kernel)
set_option maxRecDepth 20000 in
theorem gL_law_X4_memory : GoodIn wsL_law (wsV RL 128 RX4 yX4_memory wsX4_memory) := goodIn_app (goodIn_of _ (by decide +kernel)) ggL_law_X4_memory
set_option maxRecDepth 20000 in
theorem ggL_law_L_out : GoodIn wsL_law wsL_out := goodIn_ca (goodIn_r _ [447, 105, 448, 449, 450, 2, 451, 111, 112, 23, 452, 453, 454, 455, 22, 456, 306, 476, 477, 478, 509, 510, 511, 512, 513, 514, 515] (by decide +kernel) (by decide +kernel)) (goodIn_sub (fun _ h => List.mem_append_left _ (List.mem_append_left _ (List.mem_append_left _ (List.mem_append_left _ (List.mem_append_left _ (List.mem_append_left _ (List.mem_append_left _ (List.mem_append_right _ h)))))))) (by decide +kernel))
set_option maxRecDepth 20000 in
theorem gL_law_L_out : GoodIn wsL_law (va_wsS RL 129 yL_out wsL_out) := goodIn_app (goodIn_of _ (by decide +kernel)) ggL_law_L_out
set_option maxRecDepth 20000 in
theorem ggL_law_X4_out : GoodIn wsL_law wsX4_out := goodIn_r _ [460, 322, 87, 67, 479, 480, 481, 482, 483, 484, 485, 486, 487, 488, 489, 490, 491, 492, 493, 494, 495, 496, 497, 498, 499] (by decide +kernel) (by decide +kernel)
set_option maxRecDepth 20000 in
theorem gL_law_X4_out : GoodIn wsL_law (wsV RL 131 RX4 yX4_out wsX4_out) := goodIn_app (goodIn_of _ (by decide +kernel)) ggL_law_X4_out
set_option maxRecDepth 20000 in
theorem ggL_law_L_apart : GoodIn wsL_law wsL_apart := goodIn_ca (goodIn_ca (goodIn_r _ [463, 248, 249, 464, 465, 466, 2, 467, 294, 261, 330, 268, 19, 17, 155, 95, 23, 440, 295, 296, 297, 30, 298, 299, 77, 176, 177, 178, 16, 179, 38, 31, 180, 181, 37, 34, 182, 183, 184, 185, 186, 187, 35, 36, 188, 189, 190, 191, 192, 193, 194, 195, 196, 197, 198, 199, 200, 201, 202, 203, 33, 204, 205, 206, 207, 331, 332, 333, 334, 335, 336, 337, 338, 339, 340, 341, 342, 343, 350, 468, 469, 470, 471, 43, 476, 477, 478, 516, 517, 518, 519, 520, 521, 509, 510, 511, 512, 513, 514, 515, 500, 501, 502, 503, 504, 505, 506, 507, 508] (by decide +kernel) (by decide +kernel)) (goodIn_sub (fun _ h => List.mem_append_left _ (List.mem_append_right _ h)) (by decide +kernel))) (goodIn_sub (fun _ h => List.mem_append_right _ h) (by decide +kernel))
set_option maxRecDepth 20000 in
theorem gL_law_L_apart : GoodIn wsL_law (va_wsS RL 132 yL_apart wsL_apart) := goodIn_app (goodIn_of _ (by decide +kernel)) ggL_law_L_apart
set_option maxRecDepth 20000 in
theorem ggL_law_X4_apart : GoodIn wsL_law wsX4_apart := goodIn_r _ [475, 161, 88, 87, 57, 217, 64, 355, 356, 357, 5, 358, 213, 214, 215, 216, 90, 59, 62, 212, 60, 58, 61, 218, 219, 220, 221, 222, 479, 480, 481, 482, 483, 484, 485, 486, 487, 488, 489, 490, 491, 492, 493, 494, 495, 496, 497, 498, 499] (by decide +kernel) (by decide +kernel)
set_option maxRecDepth 20000 in
theorem gL_law_X4_apart : GoodIn wsL_law (wsV RL 134 RX4 yX4_apart wsX4_apart) := goodIn_app (goodIn_of _ (by decide +kernel)) ggL_law_X4_apart
theorem dL_law_0 : decode cL_law 0 = .ok (.new 8, 3) := by decide +kernel
theorem dL_law_3 : decode cL_law 3 = .ok (.dup, 1) := by decide +kernel
theorem dL_law_4 : decode cL_law 4 = .ok (.invokespecial 60, 3) := by decide +kernel
theorem dL_law_7 : decode cL_law 7 = .ok (.astore_n 1, 1) := by decide +kernel
theorem dL_law_8 : decode cL_law 8 = .ok (.new 61, 3) := by decide +kernel
theorem dL_law_11 : decode cL_law 11 = .ok (.dup, 1) := by decide +kernel
theorem dL_law_12 : decode cL_law 12 = .ok (.invokespecial 63, 3) := by decide +kernel
theorem dL_law_15 : decode cL_law 15 = .ok (.astore_n 2, 1) := by decide +kernel
theorem dL_law_16 : decode cL_law 16 = .ok (.iconst 1, 1) := by decide +kernel
theorem dL_law_17 : decode cL_law 17 = .ok (.newarray .long, 2) := by decide +kernel
theorem dL_law_19 : decode cL_law 19 = .ok (.astore_n 3, 1) := by decide +kernel
theorem dL_law_20 : decode cL_law 20 = .ok (.iconst 0, 1) := by decide +kernel
theorem dL_law_21 : decode cL_law 21 = .ok (.istore 4, 2) := by decide +kernel
theorem dL_law_23 : decode cL_law 23 = .ok (.iload 4, 2) := by decide +kernel
theorem dL_law_25 : decode cL_law 25 = .ok (.aload_n 0, 1) := by decide +kernel
theorem dL_law_26 : decode cL_law 26 = .ok (.arraylength, 1) := by decide +kernel
theorem dL_law_27 : decode cL_law 27 = .ok (.iconst 4, 1) := by decide +kernel
theorem dL_law_28 : decode cL_law 28 = .ok (.isub, 1) := by decide +kernel
theorem dL_law_29 : decode cL_law 29 = .ok (.if_icmp .gt 822, 3) := by decide +kernel
theorem dL_law_32 : decode cL_law 32 = .ok (.aload_n 0, 1) := by decide +kernel
theorem dL_law_33 : decode cL_law 33 = .ok (.iload 4, 2) := by decide +kernel
theorem dL_law_35 : decode cL_law 35 = .ok (.iaload, 1) := by decide +kernel
theorem dL_law_36 : decode cL_law 36 = .ok (.bipush 31, 2) := by decide +kernel
theorem dL_law_38 : decode cL_law 38 = .ok (.iand, 1) := by decide +kernel
theorem dL_law_39 : decode cL_law 39 = .ok (.tableswitch 806 0 16 #[81, 150, 187, 235, 271, 319, 332, 345, 401, 414, 458, 482, 526, 594, 650, 706, 762], 81) := by decide +kernel
theorem dL_law_120 : decode cL_law 120 = .ok (.aload_n 1, 1) := by decide +kernel
theorem dL_law_121 : decode cL_law 121 = .ok (.aload_n 0, 1) := by decide +kernel
theorem dL_law_122 : decode cL_law 122 = .ok (.iload 4, 2) := by decide +kernel
theorem dL_law_124 : decode cL_law 124 = .ok (.iconst 1, 1) := by decide +kernel
theorem dL_law_125 : decode cL_law 125 = .ok (.iadd, 1) := by decide +kernel
theorem dL_law_126 : decode cL_law 126 = .ok (.iaload, 1) := by decide +kernel
theorem dL_law_127 : decode cL_law 127 = .ok (.i2l, 1) := by decide +kernel
theorem dL_law_128 : decode cL_law 128 = .ok (.bipush 32, 2) := by decide +kernel
theorem dL_law_130 : decode cL_law 130 = .ok (.lshl, 1) := by decide +kernel
theorem dL_law_131 : decode cL_law 131 = .ok (.aload_n 0, 1) := by decide +kernel
theorem dL_law_132 : decode cL_law 132 = .ok (.iload 4, 2) := by decide +kernel
theorem dL_law_134 : decode cL_law 134 = .ok (.iconst 2, 1) := by decide +kernel
theorem dL_law_135 : decode cL_law 135 = .ok (.iadd, 1) := by decide +kernel
theorem dL_law_136 : decode cL_law 136 = .ok (.iaload, 1) := by decide +kernel
theorem dL_law_137 : decode cL_law 137 = .ok (.i2l, 1) := by decide +kernel
theorem dL_law_138 : decode cL_law 138 = .ok (.ldc2_w 64, 3) := by decide +kernel
theorem dL_law_141 : decode cL_law 141 = .ok (.land, 1) := by decide +kernel
theorem dL_law_142 : decode cL_law 142 = .ok (.lor, 1) := by decide +kernel
theorem dL_law_143 : decode cL_law 143 = .ok (.aload_n 0, 1) := by decide +kernel
theorem dL_law_144 : decode cL_law 144 = .ok (.iload 4, 2) := by decide +kernel
theorem dL_law_146 : decode cL_law 146 = .ok (.iconst 3, 1) := by decide +kernel
theorem dL_law_147 : decode cL_law 147 = .ok (.iadd, 1) := by decide +kernel
theorem dL_law_148 : decode cL_law 148 = .ok (.iaload, 1) := by decide +kernel
theorem dL_law_149 : decode cL_law 149 = .ok (.invokevirtual 66, 3) := by decide +kernel
theorem dL_law_152 : decode cL_law 152 = .ok (.aload_n 2, 1) := by decide +kernel
theorem dL_law_153 : decode cL_law 153 = .ok (.aload_n 0, 1) := by decide +kernel
theorem dL_law_154 : decode cL_law 154 = .ok (.iload 4, 2) := by decide +kernel
theorem dL_law_156 : decode cL_law 156 = .ok (.iconst 1, 1) := by decide +kernel
theorem dL_law_157 : decode cL_law 157 = .ok (.iadd, 1) := by decide +kernel
theorem dL_law_158 : decode cL_law 158 = .ok (.iaload, 1) := by decide +kernel
theorem dL_law_159 : decode cL_law 159 = .ok (.i2l, 1) := by decide +kernel
theorem dL_law_160 : decode cL_law 160 = .ok (.bipush 32, 2) := by decide +kernel
theorem dL_law_162 : decode cL_law 162 = .ok (.lshl, 1) := by decide +kernel
theorem dL_law_163 : decode cL_law 163 = .ok (.aload_n 0, 1) := by decide +kernel
theorem dL_law_164 : decode cL_law 164 = .ok (.iload 4, 2) := by decide +kernel
theorem dL_law_166 : decode cL_law 166 = .ok (.iconst 2, 1) := by decide +kernel
theorem dL_law_167 : decode cL_law 167 = .ok (.iadd, 1) := by decide +kernel
theorem dL_law_168 : decode cL_law 168 = .ok (.iaload, 1) := by decide +kernel
theorem dL_law_169 : decode cL_law 169 = .ok (.i2l, 1) := by decide +kernel
theorem dL_law_170 : decode cL_law 170 = .ok (.ldc2_w 64, 3) := by decide +kernel
theorem dL_law_173 : decode cL_law 173 = .ok (.land, 1) := by decide +kernel
theorem dL_law_174 : decode cL_law 174 = .ok (.lor, 1) := by decide +kernel
theorem dL_law_175 : decode cL_law 175 = .ok (.aload_n 0, 1) := by decide +kernel
theorem dL_law_176 : decode cL_law 176 = .ok (.iload 4, 2) := by decide +kernel
theorem dL_law_178 : decode cL_law 178 = .ok (.iconst 3, 1) := by decide +kernel
theorem dL_law_179 : decode cL_law 179 = .ok (.iadd, 1) := by decide +kernel
theorem dL_law_180 : decode cL_law 180 = .ok (.iaload, 1) := by decide +kernel
theorem dL_law_181 : decode cL_law 181 = .ok (.invokevirtual 70, 3) := by decide +kernel
theorem dL_law_184 : decode cL_law 184 = .ok (.if_icmp .eq 661, 3) := by decide +kernel
theorem dL_law_187 : decode cL_law 187 = .ok (.iconst 0, 1) := by decide +kernel
theorem dL_law_188 : decode cL_law 188 = .ok (.ireturn, 1) := by decide +kernel
theorem dL_law_189 : decode cL_law 189 = .ok (.aload_n 1, 1) := by decide +kernel
theorem dL_law_190 : decode cL_law 190 = .ok (.aload_n 0, 1) := by decide +kernel
theorem dL_law_191 : decode cL_law 191 = .ok (.iload 4, 2) := by decide +kernel
theorem dL_law_193 : decode cL_law 193 = .ok (.iconst 1, 1) := by decide +kernel
theorem dL_law_194 : decode cL_law 194 = .ok (.iadd, 1) := by decide +kernel
theorem dL_law_195 : decode cL_law 195 = .ok (.iaload, 1) := by decide +kernel
theorem dL_law_196 : decode cL_law 196 = .ok (.aload_n 0, 1) := by decide +kernel
theorem dL_law_197 : decode cL_law 197 = .ok (.iload 4, 2) := by decide +kernel
theorem dL_law_199 : decode cL_law 199 = .ok (.iconst 2, 1) := by decide +kernel
theorem dL_law_200 : decode cL_law 200 = .ok (.iadd, 1) := by decide +kernel
theorem dL_law_201 : decode cL_law 201 = .ok (.iaload, 1) := by decide +kernel
theorem dL_law_202 : decode cL_law 202 = .ok (.invokevirtual 71, 3) := by decide +kernel
theorem dL_law_205 : decode cL_law 205 = .ok (.aload_n 2, 1) := by decide +kernel
theorem dL_law_206 : decode cL_law 206 = .ok (.aload_n 0, 1) := by decide +kernel
theorem dL_law_207 : decode cL_law 207 = .ok (.iload 4, 2) := by decide +kernel
theorem dL_law_209 : decode cL_law 209 = .ok (.iconst 1, 1) := by decide +kernel
theorem dL_law_210 : decode cL_law 210 = .ok (.iadd, 1) := by decide +kernel
theorem dL_law_211 : decode cL_law 211 = .ok (.iaload, 1) := by decide +kernel
theorem dL_law_212 : decode cL_law 212 = .ok (.aload_n 0, 1) := by decide +kernel
theorem dL_law_213 : decode cL_law 213 = .ok (.iload 4, 2) := by decide +kernel
theorem dL_law_215 : decode cL_law 215 = .ok (.iconst 2, 1) := by decide +kernel
theorem dL_law_216 : decode cL_law 216 = .ok (.iadd, 1) := by decide +kernel
theorem dL_law_217 : decode cL_law 217 = .ok (.iaload, 1) := by decide +kernel
theorem dL_law_218 : decode cL_law 218 = .ok (.invokevirtual 75, 3) := by decide +kernel
theorem dL_law_221 : decode cL_law 221 = .ok (.if_icmp .eq 624, 3) := by decide +kernel
theorem dL_law_224 : decode cL_law 224 = .ok (.iconst 0, 1) := by decide +kernel
theorem dL_law_225 : decode cL_law 225 = .ok (.ireturn, 1) := by decide +kernel
theorem dL_law_226 : decode cL_law 226 = .ok (.aload_n 1, 1) := by decide +kernel
theorem dL_law_227 : decode cL_law 227 = .ok (.aload_n 0, 1) := by decide +kernel
theorem dL_law_228 : decode cL_law 228 = .ok (.iload 4, 2) := by decide +kernel
theorem dL_law_230 : decode cL_law 230 = .ok (.iconst 1, 1) := by decide +kernel
theorem dL_law_231 : decode cL_law 231 = .ok (.iadd, 1) := by decide +kernel
theorem dL_law_232 : decode cL_law 232 = .ok (.iaload, 1) := by decide +kernel
theorem dL_law_233 : decode cL_law 233 = .ok (.aload_n 0, 1) := by decide +kernel
theorem dL_law_234 : decode cL_law 234 = .ok (.iload 4, 2) := by decide +kernel
theorem dL_law_236 : decode cL_law 236 = .ok (.iconst 2, 1) := by decide +kernel
theorem dL_law_237 : decode cL_law 237 = .ok (.iadd, 1) := by decide +kernel
theorem dL_law_238 : decode cL_law 238 = .ok (.iaload, 1) := by decide +kernel
theorem dL_law_239 : decode cL_law 239 = .ok (.invokestatic 76, 3) := by decide +kernel
theorem dL_law_242 : decode cL_law 242 = .ok (.istore 5, 2) := by decide +kernel
theorem dL_law_244 : decode cL_law 244 = .ok (.aload_n 2, 1) := by decide +kernel
theorem dL_law_245 : decode cL_law 245 = .ok (.aload_n 0, 1) := by decide +kernel
theorem dL_law_246 : decode cL_law 246 = .ok (.iload 4, 2) := by decide +kernel
theorem dL_law_248 : decode cL_law 248 = .ok (.iconst 1, 1) := by decide +kernel
theorem dL_law_249 : decode cL_law 249 = .ok (.iadd, 1) := by decide +kernel
theorem dL_law_250 : decode cL_law 250 = .ok (.iaload, 1) := by decide +kernel
theorem dL_law_251 : decode cL_law 251 = .ok (.aload_n 0, 1) := by decide +kernel
theorem dL_law_252 : decode cL_law 252 = .ok (.iload 4, 2) := by decide +kernel
theorem dL_law_254 : decode cL_law 254 = .ok (.iconst 2, 1) := by decide +kernel
theorem dL_law_255 : decode cL_law 255 = .ok (.iadd, 1) := by decide +kernel
theorem dL_law_256 : decode cL_law 256 = .ok (.iaload, 1) := by decide +kernel
theorem dL_law_257 : decode cL_law 257 = .ok (.invokevirtual 81, 3) := by decide +kernel
theorem dL_law_260 : decode cL_law 260 = .ok (.aload_n 2, 1) := by decide +kernel
theorem dL_law_261 : decode cL_law 261 = .ok (.invokevirtual 82, 3) := by decide +kernel
theorem dL_law_264 : decode cL_law 264 = .ok (.iload 5, 2) := by decide +kernel
theorem dL_law_266 : decode cL_law 266 = .ok (.if_icmp .eq 5, 3) := by decide +kernel
theorem dL_law_269 : decode cL_law 269 = .ok (.iconst 0, 1) := by decide +kernel
theorem dL_law_270 : decode cL_law 270 = .ok (.ireturn, 1) := by decide +kernel
theorem dL_law_271 : decode cL_law 271 = .ok (.goto 574, 3) := by decide +kernel
theorem dL_law_274 : decode cL_law 274 = .ok (.aload_n 1, 1) := by decide +kernel
theorem dL_law_275 : decode cL_law 275 = .ok (.aload_n 0, 1) := by decide +kernel
theorem dL_law_276 : decode cL_law 276 = .ok (.iload 4, 2) := by decide +kernel
theorem dL_law_278 : decode cL_law 278 = .ok (.iconst 1, 1) := by decide +kernel
theorem dL_law_279 : decode cL_law 279 = .ok (.iadd, 1) := by decide +kernel
theorem dL_law_280 : decode cL_law 280 = .ok (.iaload, 1) := by decide +kernel
theorem dL_law_281 : decode cL_law 281 = .ok (.invokestatic 85, 3) := by decide +kernel
theorem dL_law_284 : decode cL_law 284 = .ok (.istore 5, 2) := by decide +kernel
theorem dL_law_286 : decode cL_law 286 = .ok (.aload_n 2, 1) := by decide +kernel
theorem dL_law_287 : decode cL_law 287 = .ok (.aload_n 0, 1) := by decide +kernel
theorem dL_law_288 : decode cL_law 288 = .ok (.iload 4, 2) := by decide +kernel
theorem dL_law_290 : decode cL_law 290 = .ok (.iconst 1, 1) := by decide +kernel
theorem dL_law_291 : decode cL_law 291 = .ok (.iadd, 1) := by decide +kernel
theorem dL_law_292 : decode cL_law 292 = .ok (.iaload, 1) := by decide +kernel
theorem dL_law_293 : decode cL_law 293 = .ok (.invokevirtual 88, 3) := by decide +kernel
theorem dL_law_296 : decode cL_law 296 = .ok (.aload_n 2, 1) := by decide +kernel
theorem dL_law_297 : decode cL_law 297 = .ok (.invokevirtual 82, 3) := by decide +kernel
theorem dL_law_300 : decode cL_law 300 = .ok (.iload 5, 2) := by decide +kernel
theorem dL_law_302 : decode cL_law 302 = .ok (.if_icmp .eq 5, 3) := by decide +kernel
theorem dL_law_305 : decode cL_law 305 = .ok (.iconst 0, 1) := by decide +kernel
theorem dL_law_306 : decode cL_law 306 = .ok (.ireturn, 1) := by decide +kernel
theorem dL_law_307 : decode cL_law 307 = .ok (.goto 538, 3) := by decide +kernel
theorem dL_law_310 : decode cL_law 310 = .ok (.aload_n 1, 1) := by decide +kernel
theorem dL_law_311 : decode cL_law 311 = .ok (.aload_n 0, 1) := by decide +kernel
theorem dL_law_312 : decode cL_law 312 = .ok (.iload 4, 2) := by decide +kernel
theorem dL_law_314 : decode cL_law 314 = .ok (.iconst 1, 1) := by decide +kernel
theorem dL_law_315 : decode cL_law 315 = .ok (.iadd, 1) := by decide +kernel
theorem dL_law_316 : decode cL_law 316 = .ok (.iaload, 1) := by decide +kernel
theorem dL_law_317 : decode cL_law 317 = .ok (.aload_n 0, 1) := by decide +kernel
theorem dL_law_318 : decode cL_law 318 = .ok (.iload 4, 2) := by decide +kernel
theorem dL_law_320 : decode cL_law 320 = .ok (.iconst 2, 1) := by decide +kernel
theorem dL_law_321 : decode cL_law 321 = .ok (.iadd, 1) := by decide +kernel
theorem dL_law_322 : decode cL_law 322 = .ok (.iaload, 1) := by decide +kernel
theorem dL_law_323 : decode cL_law 323 = .ok (.invokestatic 89, 3) := by decide +kernel
theorem dL_law_326 : decode cL_law 326 = .ok (.istore 5, 2) := by decide +kernel
theorem dL_law_328 : decode cL_law 328 = .ok (.aload_n 2, 1) := by decide +kernel
theorem dL_law_329 : decode cL_law 329 = .ok (.aload_n 0, 1) := by decide +kernel
theorem dL_law_330 : decode cL_law 330 = .ok (.iload 4, 2) := by decide +kernel
theorem dL_law_332 : decode cL_law 332 = .ok (.iconst 1, 1) := by decide +kernel
theorem dL_law_333 : decode cL_law 333 = .ok (.iadd, 1) := by decide +kernel
theorem dL_law_334 : decode cL_law 334 = .ok (.iaload, 1) := by decide +kernel
theorem dL_law_335 : decode cL_law 335 = .ok (.aload_n 0, 1) := by decide +kernel
theorem dL_law_336 : decode cL_law 336 = .ok (.iload 4, 2) := by decide +kernel
theorem dL_law_338 : decode cL_law 338 = .ok (.iconst 2, 1) := by decide +kernel
theorem dL_law_339 : decode cL_law 339 = .ok (.iadd, 1) := by decide +kernel
theorem dL_law_340 : decode cL_law 340 = .ok (.iaload, 1) := by decide +kernel
theorem dL_law_341 : decode cL_law 341 = .ok (.invokevirtual 91, 3) := by decide +kernel
theorem dL_law_344 : decode cL_law 344 = .ok (.aload_n 2, 1) := by decide +kernel
theorem dL_law_345 : decode cL_law 345 = .ok (.invokevirtual 82, 3) := by decide +kernel
theorem dL_law_348 : decode cL_law 348 = .ok (.iload 5, 2) := by decide +kernel
theorem dL_law_350 : decode cL_law 350 = .ok (.if_icmp .eq 5, 3) := by decide +kernel
theorem dL_law_353 : decode cL_law 353 = .ok (.iconst 0, 1) := by decide +kernel
theorem dL_law_354 : decode cL_law 354 = .ok (.ireturn, 1) := by decide +kernel
theorem dL_law_355 : decode cL_law 355 = .ok (.goto 490, 3) := by decide +kernel
theorem dL_law_358 : decode cL_law 358 = .ok (.aload_n 1, 1) := by decide +kernel
theorem dL_law_359 : decode cL_law 359 = .ok (.invokevirtual 92, 3) := by decide +kernel
theorem dL_law_362 : decode cL_law 362 = .ok (.aload_n 2, 1) := by decide +kernel
theorem dL_law_363 : decode cL_law 363 = .ok (.invokevirtual 95, 3) := by decide +kernel
theorem dL_law_366 : decode cL_law 366 = .ok (.if_icmp .eq 479, 3) := by decide +kernel
theorem dL_law_369 : decode cL_law 369 = .ok (.iconst 0, 1) := by decide +kernel
theorem dL_law_370 : decode cL_law 370 = .ok (.ireturn, 1) := by decide +kernel
theorem dL_law_371 : decode cL_law 371 = .ok (.aload_n 1, 1) := by decide +kernel
theorem dL_law_372 : decode cL_law 372 = .ok (.invokevirtual 96, 3) := by decide +kernel
theorem dL_law_375 : decode cL_law 375 = .ok (.aload_n 2, 1) := by decide +kernel
theorem dL_law_376 : decode cL_law 376 = .ok (.invokevirtual 99, 3) := by decide +kernel
theorem dL_law_379 : decode cL_law 379 = .ok (.if_icmp .eq 466, 3) := by decide +kernel
theorem dL_law_382 : decode cL_law 382 = .ok (.iconst 0, 1) := by decide +kernel
theorem dL_law_383 : decode cL_law 383 = .ok (.ireturn, 1) := by decide +kernel
theorem dL_law_384 : decode cL_law 384 = .ok (.aload_n 1, 1) := by decide +kernel
theorem dL_law_385 : decode cL_law 385 = .ok (.aload_n 0, 1) := by decide +kernel
theorem dL_law_386 : decode cL_law 386 = .ok (.iload 4, 2) := by decide +kernel
theorem dL_law_388 : decode cL_law 388 = .ok (.iconst 1, 1) := by decide +kernel
theorem dL_law_389 : decode cL_law 389 = .ok (.iadd, 1) := by decide +kernel
theorem dL_law_390 : decode cL_law 390 = .ok (.iaload, 1) := by decide +kernel
theorem dL_law_391 : decode cL_law 391 = .ok (.aload_n 3, 1) := by decide +kernel
theorem dL_law_392 : decode cL_law 392 = .ok (.invokestatic 100, 3) := by decide +kernel
theorem dL_law_395 : decode cL_law 395 = .ok (.istore 5, 2) := by decide +kernel
theorem dL_law_397 : decode cL_law 397 = .ok (.aload_n 2, 1) := by decide +kernel
theorem dL_law_398 : decode cL_law 398 = .ok (.aload_n 0, 1) := by decide +kernel
theorem dL_law_399 : decode cL_law 399 = .ok (.iload 4, 2) := by decide +kernel
theorem dL_law_401 : decode cL_law 401 = .ok (.iconst 1, 1) := by decide +kernel
theorem dL_law_402 : decode cL_law 402 = .ok (.iadd, 1) := by decide +kernel
theorem dL_law_403 : decode cL_law 403 = .ok (.iaload, 1) := by decide +kernel
theorem dL_law_404 : decode cL_law 404 = .ok (.invokevirtual 103, 3) := by decide +kernel
theorem dL_law_407 : decode cL_law 407 = .ok (.istore 6, 2) := by decide +kernel
theorem dL_law_409 : decode cL_law 409 = .ok (.aload_n 2, 1) := by decide +kernel
theorem dL_law_410 : decode cL_law 410 = .ok (.invokevirtual 82, 3) := by decide +kernel
theorem dL_law_413 : decode cL_law 413 = .ok (.iload 5, 2) := by decide +kernel
theorem dL_law_415 : decode cL_law 415 = .ok (.if_icmp .eq 5, 3) := by decide +kernel
theorem dL_law_418 : decode cL_law 418 = .ok (.iconst 0, 1) := by decide +kernel
theorem dL_law_419 : decode cL_law 419 = .ok (.ireturn, 1) := by decide +kernel
theorem dL_law_420 : decode cL_law 420 = .ok (.iload 5, 2) := by decide +kernel
theorem dL_law_422 : decode cL_law 422 = .ok (.ifCond .ne 15, 3) := by decide +kernel
theorem dL_law_425 : decode cL_law 425 = .ok (.aload_n 3, 1) := by decide +kernel
theorem dL_law_426 : decode cL_law 426 = .ok (.iconst 0, 1) := by decide +kernel
theorem dL_law_427 : decode cL_law 427 = .ok (.laload, 1) := by decide +kernel
theorem dL_law_428 : decode cL_law 428 = .ok (.iload 6, 2) := by decide +kernel
theorem dL_law_430 : decode cL_law 430 = .ok (.i2l, 1) := by decide +kernel
theorem dL_law_431 : decode cL_law 431 = .ok (.lcmp, 1) := by decide +kernel
theorem dL_law_432 : decode cL_law 432 = .ok (.ifCond .eq 5, 3) := by decide +kernel
theorem dL_law_435 : decode cL_law 435 = .ok (.iconst 0, 1) := by decide +kernel
theorem dL_law_436 : decode cL_law 436 = .ok (.ireturn, 1) := by decide +kernel
theorem dL_law_437 : decode cL_law 437 = .ok (.goto 408, 3) := by decide +kernel
theorem dL_law_440 : decode cL_law 440 = .ok (.aload_n 1, 1) := by decide +kernel
theorem dL_law_441 : decode cL_law 441 = .ok (.invokevirtual 104, 3) := by decide +kernel
theorem dL_law_444 : decode cL_law 444 = .ok (.aload_n 2, 1) := by decide +kernel
theorem dL_law_445 : decode cL_law 445 = .ok (.invokevirtual 107, 3) := by decide +kernel
theorem dL_law_448 : decode cL_law 448 = .ok (.if_icmp .eq 397, 3) := by decide +kernel
theorem dL_law_451 : decode cL_law 451 = .ok (.iconst 0, 1) := by decide +kernel
theorem dL_law_452 : decode cL_law 452 = .ok (.ireturn, 1) := by decide +kernel
theorem dL_law_453 : decode cL_law 453 = .ok (.aload_n 1, 1) := by decide +kernel
theorem dL_law_454 : decode cL_law 454 = .ok (.aload_n 3, 1) := by decide +kernel
theorem dL_law_455 : decode cL_law 455 = .ok (.invokestatic 108, 3) := by decide +kernel
theorem dL_law_458 : decode cL_law 458 = .ok (.istore 5, 2) := by decide +kernel
theorem dL_law_460 : decode cL_law 460 = .ok (.aload_n 2, 1) := by decide +kernel
theorem dL_law_461 : decode cL_law 461 = .ok (.invokevirtual 111, 3) := by decide +kernel
theorem dL_law_464 : decode cL_law 464 = .ok (.istore 6, 2) := by decide +kernel
theorem dL_law_466 : decode cL_law 466 = .ok (.aload_n 2, 1) := by decide +kernel
theorem dL_law_467 : decode cL_law 467 = .ok (.invokevirtual 82, 3) := by decide +kernel
theorem dL_law_470 : decode cL_law 470 = .ok (.iload 5, 2) := by decide +kernel
theorem dL_law_472 : decode cL_law 472 = .ok (.if_icmp .eq 5, 3) := by decide +kernel
theorem dL_law_475 : decode cL_law 475 = .ok (.iconst 0, 1) := by decide +kernel
theorem dL_law_476 : decode cL_law 476 = .ok (.ireturn, 1) := by decide +kernel
theorem dL_law_477 : decode cL_law 477 = .ok (.iload 5, 2) := by decide +kernel
theorem dL_law_479 : decode cL_law 479 = .ok (.ifCond .ne 15, 3) := by decide +kernel
theorem dL_law_482 : decode cL_law 482 = .ok (.aload_n 3, 1) := by decide +kernel
theorem dL_law_483 : decode cL_law 483 = .ok (.iconst 0, 1) := by decide +kernel
theorem dL_law_484 : decode cL_law 484 = .ok (.laload, 1) := by decide +kernel
theorem dL_law_485 : decode cL_law 485 = .ok (.iload 6, 2) := by decide +kernel
theorem dL_law_487 : decode cL_law 487 = .ok (.i2l, 1) := by decide +kernel
theorem dL_law_488 : decode cL_law 488 = .ok (.lcmp, 1) := by decide +kernel
theorem dL_law_489 : decode cL_law 489 = .ok (.ifCond .eq 5, 3) := by decide +kernel
theorem dL_law_492 : decode cL_law 492 = .ok (.iconst 0, 1) := by decide +kernel
theorem dL_law_493 : decode cL_law 493 = .ok (.ireturn, 1) := by decide +kernel
theorem dL_law_494 : decode cL_law 494 = .ok (.goto 351, 3) := by decide +kernel
theorem dL_law_497 : decode cL_law 497 = .ok (.aload_n 1, 1) := by decide +kernel
theorem dL_law_498 : decode cL_law 498 = .ok (.invokestatic 112, 3) := by decide +kernel
theorem dL_law_501 : decode cL_law 501 = .ok (.istore 5, 2) := by decide +kernel
theorem dL_law_503 : decode cL_law 503 = .ok (.aload_n 2, 1) := by decide +kernel
theorem dL_law_504 : decode cL_law 504 = .ok (.invokevirtual 115, 3) := by decide +kernel
theorem dL_law_507 : decode cL_law 507 = .ok (.aload_n 2, 1) := by decide +kernel
theorem dL_law_508 : decode cL_law 508 = .ok (.invokevirtual 82, 3) := by decide +kernel
theorem dL_law_511 : decode cL_law 511 = .ok (.iload 5, 2) := by decide +kernel
theorem dL_law_513 : decode cL_law 513 = .ok (.if_icmp .eq 5, 3) := by decide +kernel
theorem dL_law_516 : decode cL_law 516 = .ok (.iconst 0, 1) := by decide +kernel
theorem dL_law_517 : decode cL_law 517 = .ok (.ireturn, 1) := by decide +kernel
theorem dL_law_518 : decode cL_law 518 = .ok (.goto 327, 3) := by decide +kernel
theorem dL_law_521 : decode cL_law 521 = .ok (.aload_n 1, 1) := by decide +kernel
theorem dL_law_522 : decode cL_law 522 = .ok (.aload_n 3, 1) := by decide +kernel
theorem dL_law_523 : decode cL_law 523 = .ok (.invokestatic 116, 3) := by decide +kernel
theorem dL_law_526 : decode cL_law 526 = .ok (.istore 5, 2) := by decide +kernel
theorem dL_law_528 : decode cL_law 528 = .ok (.aload_n 2, 1) := by decide +kernel
theorem dL_law_529 : decode cL_law 529 = .ok (.invokevirtual 118, 3) := by decide +kernel
theorem dL_law_532 : decode cL_law 532 = .ok (.istore 6, 2) := by decide +kernel
theorem dL_law_534 : decode cL_law 534 = .ok (.aload_n 2, 1) := by decide +kernel
theorem dL_law_535 : decode cL_law 535 = .ok (.invokevirtual 82, 3) := by decide +kernel
theorem dL_law_538 : decode cL_law 538 = .ok (.iload 5, 2) := by decide +kernel
theorem dL_law_540 : decode cL_law 540 = .ok (.if_icmp .eq 5, 3) := by decide +kernel
theorem dL_law_543 : decode cL_law 543 = .ok (.iconst 0, 1) := by decide +kernel
theorem dL_law_544 : decode cL_law 544 = .ok (.ireturn, 1) := by decide +kernel
theorem dL_law_545 : decode cL_law 545 = .ok (.iload 5, 2) := by decide +kernel
theorem dL_law_547 : decode cL_law 547 = .ok (.ifCond .ne 15, 3) := by decide +kernel
theorem dL_law_550 : decode cL_law 550 = .ok (.aload_n 3, 1) := by decide +kernel
theorem dL_law_551 : decode cL_law 551 = .ok (.iconst 0, 1) := by decide +kernel
theorem dL_law_552 : decode cL_law 552 = .ok (.laload, 1) := by decide +kernel
theorem dL_law_553 : decode cL_law 553 = .ok (.iload 6, 2) := by decide +kernel
theorem dL_law_555 : decode cL_law 555 = .ok (.i2l, 1) := by decide +kernel
theorem dL_law_556 : decode cL_law 556 = .ok (.lcmp, 1) := by decide +kernel
theorem dL_law_557 : decode cL_law 557 = .ok (.ifCond .eq 5, 3) := by decide +kernel
theorem dL_law_560 : decode cL_law 560 = .ok (.iconst 0, 1) := by decide +kernel
theorem dL_law_561 : decode cL_law 561 = .ok (.ireturn, 1) := by decide +kernel
theorem dL_law_562 : decode cL_law 562 = .ok (.goto 283, 3) := by decide +kernel
theorem dL_law_565 : decode cL_law 565 = .ok (.aload_n 1, 1) := by decide +kernel
theorem dL_law_566 : decode cL_law 566 = .ok (.aload_n 0, 1) := by decide +kernel
theorem dL_law_567 : decode cL_law 567 = .ok (.iload 4, 2) := by decide +kernel
theorem dL_law_569 : decode cL_law 569 = .ok (.iconst 1, 1) := by decide +kernel
theorem dL_law_570 : decode cL_law 570 = .ok (.iadd, 1) := by decide +kernel
theorem dL_law_571 : decode cL_law 571 = .ok (.iaload, 1) := by decide +kernel
theorem dL_law_572 : decode cL_law 572 = .ok (.aload_n 0, 1) := by decide +kernel
theorem dL_law_573 : decode cL_law 573 = .ok (.iload 4, 2) := by decide +kernel
theorem dL_law_575 : decode cL_law 575 = .ok (.iconst 2, 1) := by decide +kernel
theorem dL_law_576 : decode cL_law 576 = .ok (.iadd, 1) := by decide +kernel
theorem dL_law_577 : decode cL_law 577 = .ok (.iaload, 1) := by decide +kernel
theorem dL_law_578 : decode cL_law 578 = .ok (.aload_n 3, 1) := by decide +kernel
theorem dL_law_579 : decode cL_law 579 = .ok (.invokestatic 119, 3) := by decide +kernel
theorem dL_law_582 : decode cL_law 582 = .ok (.istore 5, 2) := by decide +kernel
theorem dL_law_584 : decode cL_law 584 = .ok (.aload_n 2, 1) := by decide +kernel
theorem dL_law_585 : decode cL_law 585 = .ok (.aload_n 0, 1) := by decide +kernel
theorem dL_law_586 : decode cL_law 586 = .ok (.iload 4, 2) := by decide +kernel
theorem dL_law_588 : decode cL_law 588 = .ok (.iconst 1, 1) := by decide +kernel
theorem dL_law_589 : decode cL_law 589 = .ok (.iadd, 1) := by decide +kernel
theorem dL_law_590 : decode cL_law 590 = .ok (.iaload, 1) := by decide +kernel
theorem dL_law_591 : decode cL_law 591 = .ok (.aload_n 0, 1) := by decide +kernel
theorem dL_law_592 : decode cL_law 592 = .ok (.iload 4, 2) := by decide +kernel
theorem dL_law_594 : decode cL_law 594 = .ok (.iconst 2, 1) := by decide +kernel
theorem dL_law_595 : decode cL_law 595 = .ok (.iadd, 1) := by decide +kernel
theorem dL_law_596 : decode cL_law 596 = .ok (.iaload, 1) := by decide +kernel
theorem dL_law_597 : decode cL_law 597 = .ok (.invokevirtual 122, 3) := by decide +kernel
theorem dL_law_600 : decode cL_law 600 = .ok (.istore 6, 2) := by decide +kernel
theorem dL_law_602 : decode cL_law 602 = .ok (.aload_n 2, 1) := by decide +kernel
theorem dL_law_603 : decode cL_law 603 = .ok (.invokevirtual 82, 3) := by decide +kernel
theorem dL_law_606 : decode cL_law 606 = .ok (.iload 5, 2) := by decide +kernel
theorem dL_law_608 : decode cL_law 608 = .ok (.if_icmp .eq 5, 3) := by decide +kernel
theorem dL_law_611 : decode cL_law 611 = .ok (.iconst 0, 1) := by decide +kernel
theorem dL_law_612 : decode cL_law 612 = .ok (.ireturn, 1) := by decide +kernel
theorem dL_law_613 : decode cL_law 613 = .ok (.iload 5, 2) := by decide +kernel
theorem dL_law_615 : decode cL_law 615 = .ok (.ifCond .ne 15, 3) := by decide +kernel
theorem dL_law_618 : decode cL_law 618 = .ok (.aload_n 3, 1) := by decide +kernel
theorem dL_law_619 : decode cL_law 619 = .ok (.iconst 0, 1) := by decide +kernel
theorem dL_law_620 : decode cL_law 620 = .ok (.laload, 1) := by decide +kernel
theorem dL_law_621 : decode cL_law 621 = .ok (.iload 6, 2) := by decide +kernel
theorem dL_law_623 : decode cL_law 623 = .ok (.i2l, 1) := by decide +kernel
theorem dL_law_624 : decode cL_law 624 = .ok (.lcmp, 1) := by decide +kernel
theorem dL_law_625 : decode cL_law 625 = .ok (.ifCond .eq 5, 3) := by decide +kernel
theorem dL_law_628 : decode cL_law 628 = .ok (.iconst 0, 1) := by decide +kernel
theorem dL_law_629 : decode cL_law 629 = .ok (.ireturn, 1) := by decide +kernel
theorem dL_law_630 : decode cL_law 630 = .ok (.goto 215, 3) := by decide +kernel
theorem dL_law_633 : decode cL_law 633 = .ok (.aload_n 1, 1) := by decide +kernel
theorem dL_law_634 : decode cL_law 634 = .ok (.aload_n 0, 1) := by decide +kernel
theorem dL_law_635 : decode cL_law 635 = .ok (.iload 4, 2) := by decide +kernel
theorem dL_law_637 : decode cL_law 637 = .ok (.iconst 1, 1) := by decide +kernel
theorem dL_law_638 : decode cL_law 638 = .ok (.iadd, 1) := by decide +kernel
theorem dL_law_639 : decode cL_law 639 = .ok (.iaload, 1) := by decide +kernel
theorem dL_law_640 : decode cL_law 640 = .ok (.aload_n 3, 1) := by decide +kernel
theorem dL_law_641 : decode cL_law 641 = .ok (.invokestatic 123, 3) := by decide +kernel
theorem dL_law_644 : decode cL_law 644 = .ok (.istore 5, 2) := by decide +kernel
theorem dL_law_646 : decode cL_law 646 = .ok (.aload_n 2, 1) := by decide +kernel
theorem dL_law_647 : decode cL_law 647 = .ok (.aload_n 0, 1) := by decide +kernel
theorem dL_law_648 : decode cL_law 648 = .ok (.iload 4, 2) := by decide +kernel
theorem dL_law_650 : decode cL_law 650 = .ok (.iconst 1, 1) := by decide +kernel
theorem dL_law_651 : decode cL_law 651 = .ok (.iadd, 1) := by decide +kernel
theorem dL_law_652 : decode cL_law 652 = .ok (.iaload, 1) := by decide +kernel
theorem dL_law_653 : decode cL_law 653 = .ok (.invokevirtual 125, 3) := by decide +kernel
theorem dL_law_656 : decode cL_law 656 = .ok (.istore 6, 2) := by decide +kernel
theorem dL_law_658 : decode cL_law 658 = .ok (.aload_n 2, 1) := by decide +kernel
theorem dL_law_659 : decode cL_law 659 = .ok (.invokevirtual 82, 3) := by decide +kernel
theorem dL_law_662 : decode cL_law 662 = .ok (.iload 5, 2) := by decide +kernel
theorem dL_law_664 : decode cL_law 664 = .ok (.if_icmp .eq 5, 3) := by decide +kernel
theorem dL_law_667 : decode cL_law 667 = .ok (.iconst 0, 1) := by decide +kernel
theorem dL_law_668 : decode cL_law 668 = .ok (.ireturn, 1) := by decide +kernel
theorem dL_law_669 : decode cL_law 669 = .ok (.iload 5, 2) := by decide +kernel
theorem dL_law_671 : decode cL_law 671 = .ok (.ifCond .ne 15, 3) := by decide +kernel
theorem dL_law_674 : decode cL_law 674 = .ok (.aload_n 3, 1) := by decide +kernel
theorem dL_law_675 : decode cL_law 675 = .ok (.iconst 0, 1) := by decide +kernel
theorem dL_law_676 : decode cL_law 676 = .ok (.laload, 1) := by decide +kernel
theorem dL_law_677 : decode cL_law 677 = .ok (.iload 6, 2) := by decide +kernel
theorem dL_law_679 : decode cL_law 679 = .ok (.i2l, 1) := by decide +kernel
theorem dL_law_680 : decode cL_law 680 = .ok (.lcmp, 1) := by decide +kernel
theorem dL_law_681 : decode cL_law 681 = .ok (.ifCond .eq 5, 3) := by decide +kernel
theorem dL_law_684 : decode cL_law 684 = .ok (.iconst 0, 1) := by decide +kernel
theorem dL_law_685 : decode cL_law 685 = .ok (.ireturn, 1) := by decide +kernel
theorem dL_law_686 : decode cL_law 686 = .ok (.goto 159, 3) := by decide +kernel
theorem dL_law_689 : decode cL_law 689 = .ok (.aload_n 1, 1) := by decide +kernel
theorem dL_law_690 : decode cL_law 690 = .ok (.aload_n 0, 1) := by decide +kernel
theorem dL_law_691 : decode cL_law 691 = .ok (.iload 4, 2) := by decide +kernel
theorem dL_law_693 : decode cL_law 693 = .ok (.iconst 1, 1) := by decide +kernel
theorem dL_law_694 : decode cL_law 694 = .ok (.iadd, 1) := by decide +kernel
theorem dL_law_695 : decode cL_law 695 = .ok (.iaload, 1) := by decide +kernel
theorem dL_law_696 : decode cL_law 696 = .ok (.aload_n 3, 1) := by decide +kernel
theorem dL_law_697 : decode cL_law 697 = .ok (.invokestatic 126, 3) := by decide +kernel
theorem dL_law_700 : decode cL_law 700 = .ok (.istore 5, 2) := by decide +kernel
theorem dL_law_702 : decode cL_law 702 = .ok (.aload_n 2, 1) := by decide +kernel
theorem dL_law_703 : decode cL_law 703 = .ok (.aload_n 0, 1) := by decide +kernel
theorem dL_law_704 : decode cL_law 704 = .ok (.iload 4, 2) := by decide +kernel
theorem dL_law_706 : decode cL_law 706 = .ok (.iconst 1, 1) := by decide +kernel
theorem dL_law_707 : decode cL_law 707 = .ok (.iadd, 1) := by decide +kernel
theorem dL_law_708 : decode cL_law 708 = .ok (.iaload, 1) := by decide +kernel
theorem dL_law_709 : decode cL_law 709 = .ok (.invokevirtual 128, 3) := by decide +kernel
theorem dL_law_712 : decode cL_law 712 = .ok (.istore 6, 2) := by decide +kernel
theorem dL_law_714 : decode cL_law 714 = .ok (.aload_n 2, 1) := by decide +kernel
theorem dL_law_715 : decode cL_law 715 = .ok (.invokevirtual 82, 3) := by decide +kernel
theorem dL_law_718 : decode cL_law 718 = .ok (.iload 5, 2) := by decide +kernel
theorem dL_law_720 : decode cL_law 720 = .ok (.if_icmp .eq 5, 3) := by decide +kernel
theorem dL_law_723 : decode cL_law 723 = .ok (.iconst 0, 1) := by decide +kernel
theorem dL_law_724 : decode cL_law 724 = .ok (.ireturn, 1) := by decide +kernel
theorem dL_law_725 : decode cL_law 725 = .ok (.iload 5, 2) := by decide +kernel
theorem dL_law_727 : decode cL_law 727 = .ok (.ifCond .ne 15, 3) := by decide +kernel
theorem dL_law_730 : decode cL_law 730 = .ok (.aload_n 3, 1) := by decide +kernel
theorem dL_law_731 : decode cL_law 731 = .ok (.iconst 0, 1) := by decide +kernel
theorem dL_law_732 : decode cL_law 732 = .ok (.laload, 1) := by decide +kernel
theorem dL_law_733 : decode cL_law 733 = .ok (.iload 6, 2) := by decide +kernel
theorem dL_law_735 : decode cL_law 735 = .ok (.i2l, 1) := by decide +kernel
theorem dL_law_736 : decode cL_law 736 = .ok (.lcmp, 1) := by decide +kernel
theorem dL_law_737 : decode cL_law 737 = .ok (.ifCond .eq 5, 3) := by decide +kernel
theorem dL_law_740 : decode cL_law 740 = .ok (.iconst 0, 1) := by decide +kernel
theorem dL_law_741 : decode cL_law 741 = .ok (.ireturn, 1) := by decide +kernel
theorem dL_law_742 : decode cL_law 742 = .ok (.goto 103, 3) := by decide +kernel
theorem dL_law_745 : decode cL_law 745 = .ok (.aload_n 1, 1) := by decide +kernel
theorem dL_law_746 : decode cL_law 746 = .ok (.aload_n 0, 1) := by decide +kernel
theorem dL_law_747 : decode cL_law 747 = .ok (.iload 4, 2) := by decide +kernel
theorem dL_law_749 : decode cL_law 749 = .ok (.iconst 1, 1) := by decide +kernel
theorem dL_law_750 : decode cL_law 750 = .ok (.iadd, 1) := by decide +kernel
theorem dL_law_751 : decode cL_law 751 = .ok (.iaload, 1) := by decide +kernel
theorem dL_law_752 : decode cL_law 752 = .ok (.aload_n 3, 1) := by decide +kernel
theorem dL_law_753 : decode cL_law 753 = .ok (.invokestatic 129, 3) := by decide +kernel
theorem dL_law_756 : decode cL_law 756 = .ok (.istore 5, 2) := by decide +kernel
theorem dL_law_758 : decode cL_law 758 = .ok (.aload_n 2, 1) := by decide +kernel
theorem dL_law_759 : decode cL_law 759 = .ok (.aload_n 0, 1) := by decide +kernel
theorem dL_law_760 : decode cL_law 760 = .ok (.iload 4, 2) := by decide +kernel
theorem dL_law_762 : decode cL_law 762 = .ok (.iconst 1, 1) := by decide +kernel
theorem dL_law_763 : decode cL_law 763 = .ok (.iadd, 1) := by decide +kernel
theorem dL_law_764 : decode cL_law 764 = .ok (.iaload, 1) := by decide +kernel
theorem dL_law_765 : decode cL_law 765 = .ok (.invokevirtual 131, 3) := by decide +kernel
theorem dL_law_768 : decode cL_law 768 = .ok (.istore 6, 2) := by decide +kernel
theorem dL_law_770 : decode cL_law 770 = .ok (.aload_n 2, 1) := by decide +kernel
theorem dL_law_771 : decode cL_law 771 = .ok (.invokevirtual 82, 3) := by decide +kernel
theorem dL_law_774 : decode cL_law 774 = .ok (.iload 5, 2) := by decide +kernel
theorem dL_law_776 : decode cL_law 776 = .ok (.if_icmp .eq 5, 3) := by decide +kernel
theorem dL_law_779 : decode cL_law 779 = .ok (.iconst 0, 1) := by decide +kernel
theorem dL_law_780 : decode cL_law 780 = .ok (.ireturn, 1) := by decide +kernel
theorem dL_law_781 : decode cL_law 781 = .ok (.iload 5, 2) := by decide +kernel
theorem dL_law_783 : decode cL_law 783 = .ok (.ifCond .ne 15, 3) := by decide +kernel
theorem dL_law_786 : decode cL_law 786 = .ok (.aload_n 3, 1) := by decide +kernel
theorem dL_law_787 : decode cL_law 787 = .ok (.iconst 0, 1) := by decide +kernel
theorem dL_law_788 : decode cL_law 788 = .ok (.laload, 1) := by decide +kernel
theorem dL_law_789 : decode cL_law 789 = .ok (.iload 6, 2) := by decide +kernel
theorem dL_law_791 : decode cL_law 791 = .ok (.i2l, 1) := by decide +kernel
theorem dL_law_792 : decode cL_law 792 = .ok (.lcmp, 1) := by decide +kernel
theorem dL_law_793 : decode cL_law 793 = .ok (.ifCond .eq 5, 3) := by decide +kernel
theorem dL_law_796 : decode cL_law 796 = .ok (.iconst 0, 1) := by decide +kernel
theorem dL_law_797 : decode cL_law 797 = .ok (.ireturn, 1) := by decide +kernel
theorem dL_law_798 : decode cL_law 798 = .ok (.goto 47, 3) := by decide +kernel
theorem dL_law_801 : decode cL_law 801 = .ok (.aload_n 1, 1) := by decide +kernel
theorem dL_law_802 : decode cL_law 802 = .ok (.aload_n 3, 1) := by decide +kernel
theorem dL_law_803 : decode cL_law 803 = .ok (.invokestatic 132, 3) := by decide +kernel
theorem dL_law_806 : decode cL_law 806 = .ok (.istore 5, 2) := by decide +kernel
theorem dL_law_808 : decode cL_law 808 = .ok (.aload_n 2, 1) := by decide +kernel
theorem dL_law_809 : decode cL_law 809 = .ok (.invokevirtual 134, 3) := by decide +kernel
theorem dL_law_812 : decode cL_law 812 = .ok (.istore 6, 2) := by decide +kernel
theorem dL_law_814 : decode cL_law 814 = .ok (.aload_n 2, 1) := by decide +kernel
theorem dL_law_815 : decode cL_law 815 = .ok (.invokevirtual 82, 3) := by decide +kernel
theorem dL_law_818 : decode cL_law 818 = .ok (.iload 5, 2) := by decide +kernel
theorem dL_law_820 : decode cL_law 820 = .ok (.if_icmp .eq 5, 3) := by decide +kernel
theorem dL_law_823 : decode cL_law 823 = .ok (.iconst 0, 1) := by decide +kernel
theorem dL_law_824 : decode cL_law 824 = .ok (.ireturn, 1) := by decide +kernel
theorem dL_law_825 : decode cL_law 825 = .ok (.iload 5, 2) := by decide +kernel
theorem dL_law_827 : decode cL_law 827 = .ok (.ifCond .ne 15, 3) := by decide +kernel
theorem dL_law_830 : decode cL_law 830 = .ok (.aload_n 3, 1) := by decide +kernel
theorem dL_law_831 : decode cL_law 831 = .ok (.iconst 0, 1) := by decide +kernel
theorem dL_law_832 : decode cL_law 832 = .ok (.laload, 1) := by decide +kernel
theorem dL_law_833 : decode cL_law 833 = .ok (.iload 6, 2) := by decide +kernel
theorem dL_law_835 : decode cL_law 835 = .ok (.i2l, 1) := by decide +kernel
theorem dL_law_836 : decode cL_law 836 = .ok (.lcmp, 1) := by decide +kernel
theorem dL_law_837 : decode cL_law 837 = .ok (.ifCond .eq 5, 3) := by decide +kernel
theorem dL_law_840 : decode cL_law 840 = .ok (.iconst 0, 1) := by decide +kernel
theorem dL_law_841 : decode cL_law 841 = .ok (.ireturn, 1) := by decide +kernel
theorem dL_law_842 : decode cL_law 842 = .ok (.goto 3, 3) := by decide +kernel
theorem dL_law_845 : decode cL_law 845 = .ok (.iinc 4 4, 3) := by decide +kernel
theorem dL_law_848 : decode cL_law 848 = .ok (.goto (-825), 3) := by decide +kernel
theorem dL_law_851 : decode cL_law 851 = .ok (.iconst 1, 1) := by decide +kernel
theorem dL_law_852 : decode cL_law 852 = .ok (.ireturn, 1) := by decide +kernel
end
section
/-! numbers: an int as the Int that it shows -/
section ZN
def iZ (z : Int) : Int32 := Int32.ofInt z
theorem iZ_toInt {z : Int} (h1 : -2147483648 ≤ z) (h2 : z < 2147483648) : (iZ z).toInt = z := by
  show (Int32.ofInt z).toInt = z
  exact Int32.toInt_ofInt_of_le (by omega) (by omega)
theorem iZ_of (x : Int32) : iZ x.toInt = x := Int32.ofInt_toInt x
theorem iZ_rng (x : Int32) : -2147483648 ≤ x.toInt ∧ x.toInt < 2147483648 := by
  have h1 := Int32.le_toInt x
  have h2 := Int32.toInt_lt x
  omega
theorem iZ_add (a b : Int) : iZ a + iZ b = iZ (a + b) := (Int32.ofInt_add a b).symm
theorem iZ_sub (a b : Int) : iZ a - iZ b = iZ (a - b) := (Int32.ofInt_sub a b).symm
theorem iZ_mul (a b : Int) : iZ a * iZ b = iZ (a * b) := (Int32.ofInt_mul a b).symm
theorem iZ_nI (n : Nat) : iZ (n : Int) = nI n := Int32.ofInt_eq_ofNat
abbrev rg (z : Int) : Prop := -2147483648 ≤ z ∧ z < 2147483648
theorem iZ_inj {a b : Int} (ha : rg a) (hb : rg b) : iZ a = iZ b ↔ a = b := by
  constructor
  · intro h
    rw [← iZ_toInt ha.1 ha.2, ← iZ_toInt hb.1 hb.2, h]
  · intro h
    rw [h]
theorem iZ_le {a b : Int} (ha : rg a) (hb : rg b) : iZ a ≤ iZ b ↔ a ≤ b := by
  rw [Int32.le_iff_toInt_le, iZ_toInt ha.1 ha.2, iZ_toInt hb.1 hb.2]
theorem iZ_lt {a b : Int} (ha : rg a) (hb : rg b) : iZ a < iZ b ↔ a < b := by
  rw [Int32.lt_iff_toInt_lt, iZ_toInt ha.1 ha.2, iZ_toInt hb.1 hb.2]
theorem iZ_cl {z : Int} {k : Nat} (hk : z = k) (h : k < 2147483648) : (iZ z).toNatClampNeg = k := by
  subst hk
  show (iZ (k : Int)).toInt.toNat = k
  rw [iZ_toInt (by omega) (by omega)]
  rfl
theorem iZ_in {z : Int} {k n : Nat} (hk : z = k) (hn : k < n) (h : k < 2147483648) : vp_in (iZ z) n := by
  rw [vp_in_iff, hk, iZ_toInt (by omega) (by omega)]
  omega
theorem iZ_and (z : Int) (k : Nat) {m : Int32} (hk : k ≤ 31) (hm : m.toBitVec.toNat = 2 ^ k - 1) : iZ z &&& m = iZ (z % 2 ^ k) := by
  rw [pk_and _ k hm]
  have e : (iZ z).toBitVec.toNat = (z % 2 ^ 32).toNat := by
    show (BitVec.ofInt 32 z).toNat = _
    rw [BitVec.toNat_ofInt]
    rfl
  rw [e, ← iZ_nI]
  congr 1
  have h2 : (2 : Int) ^ k ∣ 2 ^ 32 := by
    have : (2 : Int) ^ 32 = 2 ^ k * 2 ^ (32 - k) := by rw [← Int.pow_add]; congr 1; omega
    exact ⟨_, this⟩
  have h3 : 0 ≤ z % 2 ^ 32 := Int.emod_nonneg _ (by decide)
  rw [Int.natCast_emod, Int.toNat_of_nonneg h3]
  have h4 : ((2 ^ k : Nat) : Int) = 2 ^ k := by simp
  rw [h4, Int.emod_emod_of_dvd _ h2]
theorem iZ_and255 (z : Int) : iZ z &&& iZ 255 = iZ (z % 256) := iZ_and z 8 (by decide) (by decide)
theorem iZ_and7 (z : Int) : iZ z &&& iZ 7 = iZ (z % 8) := iZ_and z 3 (by decide) (by decide)
theorem iZ_shr {z : Int} (h : rg z) (s : Int32) (k : Nat) (hs : ((s &&& 31).toBitVec.smod 32).toNat = k) : iZ z >>> (s &&& 31) = iZ (z / 2 ^ k) := by
  have h1 := pk_shr (iZ z) (s &&& 31) k hs
  rw [iZ_toInt h.1 h.2, Int.shiftRight_eq_div_pow] at h1
  rw [← iZ_of (iZ z >>> (s &&& 31)), h1]
  congr 1
/-- rows of Ints -/
def upZ (g : Nat → Int) (k : Nat) (v : Int) : Nat → Int := fun j => if j = k then v else g j
theorem upZ_s (g : Nat → Int) (k : Nat) (v : Int) : upZ g k v k = v := if_pos rfl
theorem upZ_n (g : Nat → Int) {k j : Nat} (v : Int) (h : j ≠ k) : upZ g k v j = g j := if_neg h
theorem upZ_at (g : Nat → Int) (k j : Nat) (v : Int) : upZ g k v j = if j = k then v else g j := rfl
def cpZ (f g : Nat → Int) (sp dp n : Nat) : Nat → Int := fun k => if dp ≤ k ∧ k < dp + n then f (sp + (k - dp)) else g k
end ZN
abbrev aI (cI : ClassId) (q n : Nat) (g : Nat → Int) : Nat × va_E := (q, .inl (cI, n, .inl (fun j => iZ (g j))))
/-- the cells of the system's objects -/
abbrev oM (q a b c : Nat) (pl st sp po : Int) : Nat × va_E := (q, .inr (0, [.ref a, .ref b, .ref c, .int (iZ pl), .int (iZ st), .int (iZ sp), .int (iZ po)]))
abbrev oK (q pr sr : Nat) (ln gp ed : Int) (co mk di al : Nat) : Nat × va_E := (q, .inr (1, [.ref pr, .ref sr, .int (iZ ln), .int (iZ gp), .int (iZ ed), .ref co, .ref mk, .ref di, .ref al]))
abbrev oP (q by_ op : Nat) (n org ent ed : Int) : Nat × va_E := (q, .inr (2, [.ref by_, .ref op, .int (iZ n), .int (iZ org), .int (iZ ent), .int (iZ ed)]))
abbrev oS (q pk pr mc : Nat) : Nat × va_E := (q, .inr (3, [.ref pk, .ref pr, .ref mc]))
/-- what holds of the heap between two instructions -/
def Hp (G : va_G) (cI : ClassId) (A : Nat → Prop) (s : State) (H : Heap) (locs : List Loc) (ws : va_W) : Prop :=
  va_P G vwCl ws H ∧ va_D A ws ∧ va_S A s.heap H locs ∧ va_K G vwCl [(cI, .int)] s ∧ ∀ q : Nat, s.heap.size ≤ q → A q
def zB (G : va_G) (cI : ClassId) (A : Nat → Prop) (w : va_W) (t : State) : Prop := va_P G vwCl w t.heap ∧ va_K G vwCl [(cI, .int)] t ∧ va_D A w
def zPre (G : va_G) (cI : ClassId) (W0 : va_W) (sz : Nat) (av : List Value) : Array Value → State → Prop :=
  va_Pc av (fun U => U.heap.size = sz ∧ va_P G vwCl W0 U.heap ∧ va_K G vwCl [(cI, .int)] U ∧ va_D (fun _ => True) W0)
section ZW
variable {p : Program} {l : Launch} {e : Env} {R : Room} {s : State} {m : MethodId} {args : Array Value} {below : List Frame} {meth : Method} {c : Code} {H : Heap} {locs : List Loc} {cells slots : Nat} {Q : State → Prop}
variable {cc : ByteArray} {pc : Nat} {ls : Array Slot} {rest : List Value} {G : va_G} {cI : ClassId} {A : Nat → Prop} {ws : va_W}
theorem z_iconst (hx : p.tables.exec = Jvm.exec) (hb : c.code = cc) {n : Int} (hdg : decode cc pc = .ok (.iconst n, 1)) (k : W p l e R s m args below meth c H locs cells slots Q (F0 m (pc + 1) ls (.int (iZ n) :: rest))) : W p l e R s m args below meth c H locs cells slots Q (F0 m pc ls rest) := lv_iconst hx hb hdg rfl k
theorem z_bipush (hx : p.tables.exec = Jvm.exec) (hb : c.code = cc) {n : Int} (hdg : decode cc pc = .ok (.bipush n, 2)) (hn : (Int8.ofInt n).toInt32 = iZ n) (k : W p l e R s m args below meth c H locs cells slots Q (F0 m (pc + 2) ls (.int (iZ n) :: rest))) : W p l e R s m args below meth c H locs cells slots Q (F0 m pc ls rest) := lv_bipush hx hb hdg hn k
theorem z_sipush (hx : p.tables.exec = Jvm.exec) (hb : c.code = cc) {n : Int} (hdg : decode cc pc = .ok (.sipush n, 3)) (hn : (Int16.ofInt n).toInt32 = iZ n) (k : W p l e R s m args below meth c H locs cells slots Q (F0 m (pc + 3) ls (.int (iZ n) :: rest))) : W p l e R s m args below meth c H locs cells slots Q (F0 m pc ls rest) := lv_sipush hx hb hdg hn k
theorem z_iadd (hx : p.tables.exec = Jvm.exec) (hb : c.code = cc) {a b : Int} (z : Int) (hz : a + b = z) (hdg : decode cc pc = .ok (.iadd, 1)) (k : W p l e R s m args below meth c H locs cells slots Q (F0 m (pc + 1) ls (.int (iZ z) :: rest))) : W p l e R s m args below meth c H locs cells slots Q (F0 m pc ls (.int (iZ b) :: .int (iZ a) :: rest)) := lv_iadd hx hb hdg (by rw [iZ_add, hz]; exact k)
theorem z_isub (hx : p.tables.exec = Jvm.exec) (hb : c.code = cc) {a b : Int} (z : Int) (hz : a - b = z) (hdg : decode cc pc = .ok (.isub, 1)) (k : W p l e R s m args below meth c H locs cells slots Q (F0 m (pc + 1) ls (.int (iZ z) :: rest))) : W p l e R s m args below meth c H locs cells slots Q (F0 m pc ls (.int (iZ b) :: .int (iZ a) :: rest)) := lv_isub hx hb hdg (by rw [iZ_sub, hz]; exact k)
theorem z_imul (hx : p.tables.exec = Jvm.exec) (hb : c.code = cc) {a b : Int} (z : Int) (hz : a * b = z) (hdg : decode cc pc = .ok (.imul, 1)) (k : W p l e R s m args below meth c H locs cells slots Q (F0 m (pc + 1) ls (.int (iZ z) :: rest))) : W p l e R s m args below meth c H locs cells slots Q (F0 m pc ls (.int (iZ b) :: .int (iZ a) :: rest)) := lv_imul hx hb hdg (by rw [iZ_mul, hz]; exact k)
/-- 'and' and shifts: the number is said with its proof -/
theorem z_iand (hx : p.tables.exec = Jvm.exec) (hb : c.code = cc) {a b : Int} (z : Int) (hz : iZ a &&& iZ b = iZ z) (hdg : decode cc pc = .ok (.iand, 1)) (k : W p l e R s m args below meth c H locs cells slots Q (F0 m (pc + 1) ls (.int (iZ z) :: rest))) : W p l e R s m args below meth c H locs cells slots Q (F0 m pc ls (.int (iZ b) :: .int (iZ a) :: rest)) := lv_iand hx hb hdg (by rw [hz]; exact k)
theorem z_ishr (hx : p.tables.exec = Jvm.exec) (hb : c.code = cc) {a b : Int} (z : Int) (hz : iZ a >>> (iZ b &&& 31) = iZ z) (hdg : decode cc pc = .ok (.ishr, 1)) (k : W p l e R s m args below meth c H locs cells slots Q (F0 m (pc + 1) ls (.int (iZ z) :: rest))) : W p l e R s m args below meth c H locs cells slots Q (F0 m pc ls (.int (iZ b) :: .int (iZ a) :: rest)) := lv_ishr hx hb hdg (by rw [hz]; exact k)
/-- the top said otherwise -/
theorem z_top {a : Int} (z : Int) (hz : a = z) (k : W p l e R s m args below meth c H locs cells slots Q (F0 m pc ls (.int (iZ z) :: rest))) : W p l e R s m args below meth c H locs cells slots Q (F0 m pc ls (.int (iZ a) :: rest)) := by rw [hz]; exact k
theorem z_iinc (hx : p.tables.exec = Jvm.exec) (hb : c.code = cc) {i nL k : Nat} {n a : Int} (z : Int) (hz : a + n = z) {lv lv' : List (Nat × Value)} (hdg : decode cc pc = .ok (.iinc i n, 3)) (h : lv_has ls nL lv) (hk : lv[k]? = some (i, .int (iZ a))) (hn : i < nL) (hl : (i, Value.int (iZ z)) :: lv.filter (fun q => !(q.1 == i) && !(q.1 + 1 == i && q.2.category == 2)) = lv')
    (kk : ∀ ls' : Array Slot, lv_has ls' nL lv' → W p l e R s m args below meth c H locs cells slots Q (F0 m (pc + 3) ls' rest)) : W p l e R s m args below meth c H locs cells slots Q (F0 m pc ls rest) := lv_iinc (v := iZ z) (k := k) (x := iZ a) hx hb hdg h hk (by show iZ a + iZ n = iZ z; rw [iZ_add, hz]) hn hl kk
theorem z_if_eq (hx : p.tables.exec = Jvm.exec) (hb : c.code = cc) {a : Int} {off : Int} {tgt : Nat} (hdg : decode cc pc = .ok (.ifCond .eq off, 3)) (ht : (pc : Int) + off = (tgt : Int)) (hr : rg a) (k1 : a = 0 → W p l e R s m args below meth c H locs cells slots Q (F0 m tgt ls rest)) (k2 : a ≠ 0 → W p l e R s m args below meth c H locs cells slots Q (F0 m (pc + 3) ls rest)) : W p l e R s m args below meth c H locs cells slots Q (F0 m pc ls (.int (iZ a) :: rest)) :=
  lv_if_eq hx hb hdg ht (fun h => k1 ((iZ_inj hr ⟨by decide, by decide⟩).mp h)) (fun h => k2 (fun q => h ((iZ_inj hr ⟨by decide, by decide⟩).mpr q)))
theorem z_if_ne (hx : p.tables.exec = Jvm.exec) (hb : c.code = cc) {a : Int} {off : Int} {tgt : Nat} (hdg : decode cc pc = .ok (.ifCond .ne off, 3)) (ht : (pc : Int) + off = (tgt : Int)) (hr : rg a) (k1 : a ≠ 0 → W p l e R s m args below meth c H locs cells slots Q (F0 m tgt ls rest)) (k2 : a = 0 → W p l e R s m args below meth c H locs cells slots Q (F0 m (pc + 3) ls rest)) : W p l e R s m args below meth c H locs cells slots Q (F0 m pc ls (.int (iZ a) :: rest)) :=
  lv_if_ne hx hb hdg ht (fun h => k1 (fun q => h ((iZ_inj hr ⟨by decide, by decide⟩).mpr q))) (fun h => k2 ((iZ_inj hr ⟨by decide, by decide⟩).mp h))
theorem z_if_lt (hx : p.tables.exec = Jvm.exec) (hb : c.code = cc) {a : Int} {off : Int} {tgt : Nat} (hdg : decode cc pc = .ok (.ifCond .lt off, 3)) (ht : (pc : Int) + off = (tgt : Int)) (hr : rg a) (k1 : a < 0 → W p l e R s m args below meth c H locs cells slots Q (F0 m tgt ls rest)) (k2 : 0 ≤ a → W p l e R s m args below meth c H locs cells slots Q (F0 m (pc + 3) ls rest)) : W p l e R s m args below meth c H locs cells slots Q (F0 m pc ls (.int (iZ a) :: rest)) :=
  lv_if_lt hx hb hdg ht (fun h => k1 ((iZ_lt hr (b := 0) ⟨by decide, by decide⟩).mp h)) (fun h => k2 (Int.not_lt.mp fun q => h ((iZ_lt hr (b := 0) ⟨by decide, by decide⟩).mpr q)))
theorem z_if_ge (hx : p.tables.exec = Jvm.exec) (hb : c.code = cc) {a : Int} {off : Int} {tgt : Nat} (hdg : decode cc pc = .ok (.ifCond .ge off, 3)) (ht : (pc : Int) + off = (tgt : Int)) (hr : rg a) (k1 : 0 ≤ a → W p l e R s m args below meth c H locs cells slots Q (F0 m tgt ls rest)) (k2 : a < 0 → W p l e R s m args below meth c H locs cells slots Q (F0 m (pc + 3) ls rest)) : W p l e R s m args below meth c H locs cells slots Q (F0 m pc ls (.int (iZ a) :: rest)) :=
  lv_if_ge hx hb hdg ht (fun h => k1 ((iZ_le (a := 0) ⟨by decide, by decide⟩ hr).mp h)) (fun h => k2 (Int.not_le.mp fun q => h ((iZ_le (a := 0) ⟨by decide, by decide⟩ hr).mpr q)))
theorem z_if_gt (hx : p.tables.exec = Jvm.exec) (hb : c.code = cc) {a : Int} {off : Int} {tgt : Nat} (hdg : decode cc pc = .ok (.ifCond .gt off, 3)) (ht : (pc : Int) + off = (tgt : Int)) (hr : rg a) (k1 : 0 < a → W p l e R s m args below meth c H locs cells slots Q (F0 m tgt ls rest)) (k2 : a ≤ 0 → W p l e R s m args below meth c H locs cells slots Q (F0 m (pc + 3) ls rest)) : W p l e R s m args below meth c H locs cells slots Q (F0 m pc ls (.int (iZ a) :: rest)) :=
  lv_if_gt hx hb hdg ht (fun h => k1 ((iZ_lt (a := 0) ⟨by decide, by decide⟩ hr).mp h)) (fun h => k2 (Int.not_lt.mp fun q => h ((iZ_lt (a := 0) ⟨by decide, by decide⟩ hr).mpr q)))
theorem z_if_le (hx : p.tables.exec = Jvm.exec) (hb : c.code = cc) {a : Int} {off : Int} {tgt : Nat} (hdg : decode cc pc = .ok (.ifCond .le off, 3)) (ht : (pc : Int) + off = (tgt : Int)) (hr : rg a) (k1 : a ≤ 0 → W p l e R s m args below meth c H locs cells slots Q (F0 m tgt ls rest)) (k2 : 0 < a → W p l e R s m args below meth c H locs cells slots Q (F0 m (pc + 3) ls rest)) : W p l e R s m args below meth c H locs cells slots Q (F0 m pc ls (.int (iZ a) :: rest)) :=
  lv_if_le hx hb hdg ht (fun h => k1 ((iZ_le hr (b := 0) ⟨by decide, by decide⟩).mp h)) (fun h => k2 (Int.not_le.mp fun q => h ((iZ_le hr (b := 0) ⟨by decide, by decide⟩).mpr q)))
theorem z_icmp_eq (hx : p.tables.exec = Jvm.exec) (hb : c.code = cc) {a b : Int} {off : Int} {tgt : Nat} (hdg : decode cc pc = .ok (.if_icmp .eq off, 3)) (ht : (pc : Int) + off = (tgt : Int)) (hr : rg a ∧ rg b) (k1 : a = b → W p l e R s m args below meth c H locs cells slots Q (F0 m tgt ls rest)) (k2 : a ≠ b → W p l e R s m args below meth c H locs cells slots Q (F0 m (pc + 3) ls rest)) : W p l e R s m args below meth c H locs cells slots Q (F0 m pc ls (.int (iZ b) :: .int (iZ a) :: rest)) :=
  lv_icmp_eq hx hb hdg ht (fun h => k1 ((iZ_inj hr.1 hr.2).mp h)) (fun h => k2 (fun q => h ((iZ_inj hr.1 hr.2).mpr q)))
theorem z_icmp_ne (hx : p.tables.exec = Jvm.exec) (hb : c.code = cc) {a b : Int} {off : Int} {tgt : Nat} (hdg : decode cc pc = .ok (.if_icmp .ne off, 3)) (ht : (pc : Int) + off = (tgt : Int)) (hr : rg a ∧ rg b) (k1 : a ≠ b → W p l e R s m args below meth c H locs cells slots Q (F0 m tgt ls rest)) (k2 : a = b → W p l e R s m args below meth c H locs cells slots Q (F0 m (pc + 3) ls rest)) : W p l e R s m args below meth c H locs cells slots Q (F0 m pc ls (.int (iZ b) :: .int (iZ a) :: rest)) :=
  lv_icmp_ne hx hb hdg ht (fun h => k1 (fun q => h ((iZ_inj hr.1 hr.2).mpr q))) (fun h => k2 ((iZ_inj hr.1 hr.2).mp h))
theorem z_icmp_lt (hx : p.tables.exec = Jvm.exec) (hb : c.code = cc) {a b : Int} {off : Int} {tgt : Nat} (hdg : decode cc pc = .ok (.if_icmp .lt off, 3)) (ht : (pc : Int) + off = (tgt : Int)) (hr : rg a ∧ rg b) (k1 : a < b → W p l e R s m args below meth c H locs cells slots Q (F0 m tgt ls rest)) (k2 : b ≤ a → W p l e R s m args below meth c H locs cells slots Q (F0 m (pc + 3) ls rest)) : W p l e R s m args below meth c H locs cells slots Q (F0 m pc ls (.int (iZ b) :: .int (iZ a) :: rest)) :=
  lv_icmp_lt hx hb hdg ht (fun h => k1 ((iZ_lt hr.1 hr.2).mp h)) (fun h => k2 (Int.not_lt.mp fun q => h ((iZ_lt hr.1 hr.2).mpr q)))
theorem z_icmp_ge (hx : p.tables.exec = Jvm.exec) (hb : c.code = cc) {a b : Int} {off : Int} {tgt : Nat} (hdg : decode cc pc = .ok (.if_icmp .ge off, 3)) (ht : (pc : Int) + off = (tgt : Int)) (hr : rg a ∧ rg b) (k1 : b ≤ a → W p l e R s m args below meth c H locs cells slots Q (F0 m tgt ls rest)) (k2 : a < b → W p l e R s m args below meth c H locs cells slots Q (F0 m (pc + 3) ls rest)) : W p l e R s m args below meth c H locs cells slots Q (F0 m pc ls (.int (iZ b) :: .int (iZ a) :: rest)) :=
  lv_icmp_ge hx hb hdg ht (fun h => k1 ((iZ_le hr.2 hr.1).mp h)) (fun h => k2 (Int.not_le.mp fun q => h ((iZ_le hr.2 hr.1).mpr q)))
theorem z_icmp_gt (hx : p.tables.exec = Jvm.exec) (hb : c.code = cc) {a b : Int} {off : Int} {tgt : Nat} (hdg : decode cc pc = .ok (.if_icmp .gt off, 3)) (ht : (pc : Int) + off = (tgt : Int)) (hr : rg a ∧ rg b) (k1 : b < a → W p l e R s m args below meth c H locs cells slots Q (F0 m tgt ls rest)) (k2 : a ≤ b → W p l e R s m args below meth c H locs cells slots Q (F0 m (pc + 3) ls rest)) : W p l e R s m args below meth c H locs cells slots Q (F0 m pc ls (.int (iZ b) :: .int (iZ a) :: rest)) :=
  lv_icmp_gt hx hb hdg ht (fun h => k1 ((iZ_lt hr.2 hr.1).mp h)) (fun h => k2 (Int.not_lt.mp fun q => h ((iZ_lt hr.2 hr.1).mpr q)))
theorem z_icmp_le (hx : p.tables.exec = Jvm.exec) (hb : c.code = cc) {a b : Int} {off : Int} {tgt : Nat} (hdg : decode cc pc = .ok (.if_icmp .le off, 3)) (ht : (pc : Int) + off = (tgt : Int)) (hr : rg a ∧ rg b) (k1 : a ≤ b → W p l e R s m args below meth c H locs cells slots Q (F0 m tgt ls rest)) (k2 : b < a → W p l e R s m args below meth c H locs cells slots Q (F0 m (pc + 3) ls rest)) : W p l e R s m args below meth c H locs cells slots Q (F0 m pc ls (.int (iZ b) :: .int (iZ a) :: rest)) :=
  lv_icmp_le hx hb hdg ht (fun h => k1 ((iZ_le hr.1 hr.2).mp h)) (fun h => k2 (Int.not_le.mp fun q => h ((iZ_le hr.1 hr.2).mpr q)))
/-- fields -/
theorem z_get (hx : p.tables.exec = Jvm.exec) (hb : c.code = cc) {own C : String} {T : u_T} {N ci index : Nat} {Ts : List Cond} {a : Nat} (hts : ∀ w ∈ Ts, w.before args s = true) (hin : ∀ w ∈ u_ws C T N, w ∈ Ts) (hown : s.vm.findClass own = some m.cls) (hp : Hp G cI A s H locs ws) (q0 : Nat) {fs : List Value} (he : ws[q0]? = some (a, .inr (ci, fs))) (hc : vwCl[ci]? = some (C, T, N)) (k : Nat) (hk : k < N) (hlink : (Cond.fieldLink own index (T k).1 (T k).2.1 (T k).2.2.1).before args s = true) {v : Value} (hv : fs[k]? = some v) (hdg : decode cc pc = .ok (.getfield index, 3))
    (kk : W p l e R s m args below meth c H locs cells slots Q (F0 m (pc + 3) ls (v :: rest))) : W p l e R s m args below meth c H locs cells slots Q (F0 m pc ls (.ref a :: rest)) :=
  va_get (ref := (T k).1) hx hb hts hin hown hp.2.2.2.1 hp.1 q0 he hc k hk hlink (fun _ h => h) hv hdg kk
theorem z_put (hx : p.tables.exec = Jvm.exec) (hb : c.code = cc) {own C : String} {T : u_T} {N ci index : Nat} {Ts : List Cond} {a : Nat} (hts : ∀ w ∈ Ts, w.before args s = true) (hin : ∀ w ∈ u_ws C T N, w ∈ Ts) (ty0 : Nat → FieldType) (hty : ∀ k, k < N → parseFieldDescriptor (T k).2.2.1 = some (ty0 k)) (hnm : ∀ a, a < N → ∀ b, b < N → a ≠ b → (T a).2.1 ≠ (T b).2.1) (hown : s.vm.findClass own = some m.cls) (hp : Hp G cI A s H locs ws) (q0 : Nat) {fs : List Value} (he : ws[q0]? = some (a, .inr (ci, fs))) (hc : vwCl[ci]? = some (C, T, N)) (k : Nat) (hk : k < N) (hlink : (Cond.fieldLink own index (T k).1 (T k).2.1 (T k).2.2.1).before args s = true) (hfin : (T k).2.2.2 = false) {v : Value} (hn : narrow (ty0 k) v = v) (hfit : fits (ty0 k) v = true) (hl : k < fs.length)
    (hdg : decode cc pc = .ok (.putfield index, 3)) {ws' : va_W} (hw : ws.set q0 (a, .inr (ci, fs.set k v)) = ws') (kk : ∀ (H1 : Heap) (locs1 : List Loc), Hp G cI A s H1 locs1 ws' → W p l e R s m args below meth c H1 locs1 cells slots Q (F0 m (pc + 3) ls rest)) : W p l e R s m args below meth c H locs cells slots Q (F0 m pc ls (v :: .ref a :: rest)) := by
  subst hw
  exact va_put (ref := (T k).1) hx hb hts hin ty0 hty hnm hown hp.2.2.2.1 hp.1 hp.2.1 hp.2.2.1 q0 he hc k hk hlink (fun _ h => h) hfin (hty k hk) hn hfit hl hdg (fun H1 locs1 hP hD hS => kk H1 locs1 ⟨hP, hD, hS, hp.2.2.2.1, hp.2.2.2.2⟩)
theorem z_putF (hx : p.tables.exec = Jvm.exec) (hb : c.code = cc) {own C : String} {T : u_T} {N ci index : Nat} {Ts : List Cond} {a : Nat} (hts : ∀ w ∈ Ts, w.before args s = true) (hin : ∀ w ∈ u_ws C T N, w ∈ Ts) (ty0 : Nat → FieldType) (hty : ∀ k, k < N → parseFieldDescriptor (T k).2.2.1 = some (ty0 k)) (hnm : ∀ a, a < N → ∀ b, b < N → a ≠ b → (T a).2.1 ≠ (T b).2.1) (hown : s.vm.findClass own = some m.cls) (hp : Hp G cI A s H locs ws) (q0 : Nat) {fs : List Value} (he : ws[q0]? = some (a, .inr (ci, fs))) (hc : vwCl[ci]? = some (C, T, N)) (k : Nat) (hk : k < N) (hlink : (Cond.fieldLink own index (T k).1 (T k).2.1 (T k).2.2.1).before args s = true) (hfin : (T k).2.2.2 = true) (hin2 : meth.name = "<init>") (hdecl : (T k).1 = own) {v : Value} (hn : narrow (ty0 k) v = v) (hfit : fits (ty0 k) v = true) (hl : k < fs.length)
    (hdg : decode cc pc = .ok (.putfield index, 3)) {ws' : va_W} (hw : ws.set q0 (a, .inr (ci, fs.set k v)) = ws') (kk : ∀ (H1 : Heap) (locs1 : List Loc), Hp G cI A s H1 locs1 ws' → W p l e R s m args below meth c H1 locs1 cells slots Q (F0 m (pc + 3) ls rest)) : W p l e R s m args below meth c H locs cells slots Q (F0 m pc ls (v :: .ref a :: rest)) := by
  subst hw
  exact va_putF (ref := (T k).1) hx hb hts hin ty0 hty hnm hown hp.2.2.2.1 hp.1 hp.2.1 hp.2.2.1 q0 he hc k hk hlink (fun _ h => h) hfin hin2 hdecl (hty k hk) hn hfit hl hdg (fun H1 locs1 hP hD hS => kk H1 locs1 ⟨hP, hD, hS, hp.2.2.2.1, hp.2.2.2.2⟩)
/-- rows of ints -/
theorem z_iald (hx : p.tables.exec = Jvm.exec) (hb : c.code = cc) (hp : Hp G cI A s H locs ws) (q0 : Nat) {a n : Nat} {g : Nat → Int} (he : ws[q0]? = some (aI cI a n g)) {i : Int} (k : Nat) (hk : i = k ∧ k < n ∧ k < 2147483648) (hdg : decode cc pc = .ok (.iaload, 1)) (z : Int) (hz : g k = z)
    (kk : W p l e R s m args below meth c H locs cells slots Q (F0 m (pc + 1) ls (.int (iZ z) :: rest))) : W p l e R s m args below meth c H locs cells slots Q (F0 m pc ls (.int (iZ i) :: .ref a :: rest)) := by
  refine va_iald hx hb hp.2.2.2.1 hp.1 q0 0 he rfl (iZ_in hk.1 hk.2.1 hk.2.2) hdg ?_
  rw [iZ_cl hk.1 hk.2.2]
  show W p l e R s m args below meth c H locs cells slots Q (F0 m (pc + 1) ls (.int (iZ (g k)) :: rest))
  rw [hz]
  exact kk
theorem z_iast (hx : p.tables.exec = Jvm.exec) (hb : c.code = cc) (hp : Hp G cI A s H locs ws) (q0 : Nat) {a n : Nat} {g : Nat → Int} (he : ws[q0]? = some (aI cI a n g)) {i v : Int} (k : Nat) (hk : i = k ∧ k < n ∧ k < 2147483648) (hdg : decode cc pc = .ok (.iastore, 1)) {ws' : va_W} (hw : ws.set q0 (aI cI a n (upZ g k v)) = ws')
    (kk : ∀ (H1 : Heap) (locs1 : List Loc), Hp G cI A s H1 locs1 ws' → W p l e R s m args below meth c H1 locs1 cells slots Q (F0 m (pc + 1) ls rest)) : W p l e R s m args below meth c H locs cells slots Q (F0 m pc ls (.int (iZ v) :: .int (iZ i) :: .ref a :: rest)) := by
  subst hw
  have e : (fun j => iZ (upZ g k v j)) = upd (fun j => iZ (g j)) k (iZ v) := by
    funext j
    by_cases h : j = k
    · subst h; simp [upZ, upd]
    · simp [upZ, upd, h]
  refine va_iast hx hb hp.2.2.2.1 hp.1 hp.2.1 hp.2.2.1 q0 0 he rfl (iZ_in hk.1 hk.2.1 hk.2.2) hdg (fun H1 locs1 hP hD hS => kk H1 locs1 ⟨?_, ?_, hS, hp.2.2.2.1, hp.2.2.2.2⟩)
  · rw [iZ_cl hk.1 hk.2.2] at hP
    show va_P G vwCl (ws.set q0 (a, .inl (cI, n, .inl (fun j => iZ (upZ g k v j))))) H1
    rw [e]; exact hP
  · rw [iZ_cl hk.1 hk.2.2] at hD
    show va_D A (ws.set q0 (a, .inl (cI, n, .inl (fun j => iZ (upZ g k v j)))))
    rw [e]; exact hD
/-- an array's row said otherwise, where it shows the same -/
theorem z_alike (hp : Hp G cI A s H locs ws) (q0 : Nat) {a n : Nat} {g : Nat → Int} (he : ws[q0]? = some (aI cI a n g)) (g' : Nat → Int) (hg : ∀ j, j < n → g' j = g j) {ws' : va_W} (hw : ws.set q0 (aI cI a n g') = ws') : Hp G cI A s H locs ws' := by
  subst hw
  refine ⟨hp.1.set hp.2.1 he ?_ (fun _ _ => rfl), hp.2.1.set he, hp.2.2⟩
  have h1 := hp.1 q0 _ he
  show H[a]? = some (vp_cell cI (n, .inl (fun j => iZ (g' j))))
  rw [show H[a]? = some (vp_cell cI (n, .inl (fun j => iZ (g j)))) from h1]
  congr 1
  rw [vp_cell_i, vp_cell_i]
  unfold arrV
  congr 1
  apply Array.ext
  · simp
  · intro i h1 h2
    simp at h1 h2 ⊢
    rw [hg i (by omega)]
/-- 'new' -/
theorem z_new (hx : p.tables.exec = Jvm.exec) (hb : c.code = cc) {own C : String} {T : u_T} {N ci index : Nat} {Ts : List Cond} (hts : ∀ w ∈ Ts, w.before args s = true) (hin : ∀ w ∈ u_ws C T N, w ∈ Ts) (ty : Nat → FieldType) (hty : ∀ k, k < N → parseFieldDescriptor (T k).2.2.1 = some (ty k)) (hown : s.vm.findClass own = some m.cls) (hcl : (Cond.classLink own index C).before args s = true) (hinst : (Cond.instantiable C N).before args s = true) (hini : (Cond.initialized C).before args s = true)
    (hp : Hp G cI A s H locs ws) (hc : vwCl[ci]? = some (C, T, N)) {fs : List Value} (hfs : ∀ j, j < N → defaultValue (ty j) = vp_V fs j) (hcells : cells + 1 ≤ R.cells) (hslots : slots + N ≤ R.slots) (hdg : decode cc pc = .ok (.new index, 3))
    (kk : ∀ (q : Nat) (H1 : Heap), Hp G cI A s H1 locs (ws ++ [(q, .inr (ci, fs))]) → W p l e R s m args below meth c H1 locs (cells + 1) (slots + N) Q (F0 m (pc + 3) ls (.ref q :: rest))) : W p l e R s m args below meth c H locs cells slots Q (F0 m pc ls rest) :=
  va_new hx hb hts hin ty hty hown hcl hinst hini hp.2.2.2.1 hp.1 hp.2.1 hp.2.2.1 hp.2.2.2.2 hc hfs hcells hslots hdg (fun q H1 hP hD hS => kk q H1 ⟨hP, hD, hS, hp.2.2.2.1, hp.2.2.2.2⟩)
/-- 'new int[n]' -/
theorem z_newa (hx : p.tables.exec = Jvm.exec) (hb : c.code = cc) (n : Nat) (hac : (Cond.arrayClass .int).before args s = true) (hp : Hp G cI A s H locs ws) (hn : n < 2147483648) (hbytes : n * componentBytes .int ≤ 536870912) (hz : iZ (n : Int) = iZ (n : Int)) (hcells : cells + 1 ≤ R.cells) (hslots : slots + n ≤ R.slots) (hdg : decode cc pc = .ok (.newarray .int, 2))
    (kk : ∀ (q : Nat) (H1 : Heap), Hp G cI A s H1 locs (ws ++ [aI cI q n (fun _ => 0)]) → W p l e R s m args below meth c H1 locs (cells + 1) (slots + n) Q (F0 m (pc + 2) ls (.ref q :: rest))) : W p l e R s m args below meth c H locs cells slots Q (F0 m pc ls (.int (iZ (n : Int)) :: rest)) := by
  refine va_newa (atype := .int) (ty := .int) (a0 := (n, .inl (fun _ => iZ 0))) hx hb hac rfl hp.2.2.2.1 hp.1 hp.2.1 hp.2.2.1 hp.2.2.2.2 (fun cA => rfl) ?_ (iZ_cl rfl hn) hbytes hcells hslots hdg (fun q cA H1 hK hP hD hS => kk q H1 ?_)
  · intro h
    have h2 := (iZ_lt (b := 0) ⟨by omega, by omega⟩ ⟨by decide, by decide⟩).mp h
    omega
  · have h1 : s.vm.findClass ("[" ++ (FieldType.int).toString) = some cI := (hp.2.2.2.1.2 0 (cI, .int) rfl).2
    have h2 : s.vm.findClass ("[" ++ (FieldType.int).toString) = some cA := (hK.2 1 (cA, .int) rfl).2
    cases Option.some.inj (h1.symm.trans h2)
    exact ⟨hP, hD, hS, hp.2.2.2.1, hp.2.2.2.2⟩
/-- System.arraycopy between rows of ints -/
theorem z_copy (hx : p.tables.exec = Jvm.exec) (hb : c.code = cc) (hml : c.maxLocals = ls.size) {own : String} {index : Nat} (hown : s.vm.findClass own = some m.cls) (hlink : (Cond.methodLink own index arraycopyName).before args s = true) (hnat : (Cond.native arraycopyName).before args s = true) (hstat : (Cond.static arraycopyName).before args s = true) (hini : (Cond.initialized "java/lang/System").before args s = true)
    (hp : Hp G cI A s H locs ws) (q0 q1 : Nat) {a0 a n0 n1 : Nat} {f g : Nat → Int} (ha0 : ws[q0]? = some (aI cI a0 n0 f)) (ha1 : ws[q1]? = some (aI cI a n1 g)) {sp' dp' n' : Int} (sp dp n : Nat) (h1 : sp' = sp ∧ sp < 1073741824) (h2 : dp' = dp ∧ dp < 1073741824) (h3 : n' = n ∧ n < 1073741824) (h4 : sp + n ≤ n0 ∧ dp + n ≤ n1)
    (hframes : 1 ≤ R.frames) (hlocals : (rest.map fun v => v.category).sum + (nativeFrameWords "java/lang/System" "arraycopy" 5 + 11) ≤ R.locals) (hdg : decode cc pc = .ok (.invokestatic index, 3)) {ws' : va_W} (hw : ws.set q1 (aI cI a n1 (cpZ f g sp dp n)) = ws')
    (kk : ∀ (H1 : Heap) (locs1 : List Loc), Hp G cI A s H1 locs1 ws' → W p l e R s m args below meth c H1 locs1 cells slots Q (F0 m (pc + 3) ls rest)) : W p l e R s m args below meth c H locs cells slots Q (F0 m pc ls (.int (iZ n') :: .int (iZ dp') :: .ref a :: .int (iZ sp') :: .ref a0 :: rest)) := by
  subst hw
  have c1 : (iZ sp').toNatClampNeg = sp := iZ_cl h1.1 (by omega)
  have c2 : (iZ dp').toNatClampNeg = dp := iZ_cl h2.1 (by omega)
  have c3 : (iZ n').toNatClampNeg = n := iZ_cl h3.1 (by omega)
  have ng : ∀ {z : Int} {k : Nat}, z = k → k < 1073741824 → ¬ iZ z < 0 := by
    intro z k hz hk h
    have h2 := (iZ_lt (b := 0) ⟨by omega, by omega⟩ ⟨by decide, by decide⟩).mp h
    omega
  have e : (fun j => iZ (cpZ f g sp dp n j)) = va_cpy (fun j => iZ (f j)) (fun j => iZ (g j)) sp dp n := by
    funext j
    unfold cpZ va_cpy
    split <;> rfl
  refine va_copyi hx hb hml hown hlink hnat hstat hini hp.2.2.2.1 hp.1 hp.2.1 hp.2.2.1 q0 q1 0 0 ha0 ha1 rfl rfl rfl (ng h1.1 h1.2) (ng h2.1 h2.2) (ng h3.1 h3.2) (by rw [c1, c3]; exact h4.1) (by rw [c2, c3]; exact h4.2) (fun i hi => rfl) hframes hlocals hdg (fun H1 locs1 hP hD hS => kk H1 locs1 ⟨?_, ?_, hS, hp.2.2.2.1, hp.2.2.2.2⟩)
  · rw [c1, c2, c3] at hP
    show va_P G vwCl (ws.set q1 (a, .inl (cI, n1, .inl (fun j => iZ (cpZ f g sp dp n j))))) H1
    rw [e]; exact hP
  · rw [c1, c2, c3] at hD
    show va_D A (ws.set q1 (a, .inl (cI, n1, .inl (fun j => iZ (cpZ f g sp dp n j)))))
    rw [e]; exact hD
theorem z_mmax (hx : p.tables.exec = Jvm.exec) (hb : c.code = cc) (hml : c.maxLocals = ls.size) {own : String} {index : Nat} (hown : s.vm.findClass own = some m.cls) (hlink : (Cond.methodLink own index Lib.Math.max.name).before args s = true) (hstat : (Cond.static Lib.Math.max.name).before args s = true) (hini : (Cond.initialized "java/lang/Math").before args s = true) (hcode : (Cond.code Lib.Math.max.name Lib.Math.max.code 2 (some .int)).before args s = true)
    (hframes : 1 ≤ R.frames) (hlocals : (rest.map fun v => v.category).sum + 13 ≤ R.locals) (hc : cells ≤ R.cells) (hs : slots ≤ R.slots) {a b : Int} (z : Int) (hr : rg a ∧ rg b) (hz : z = max a b) (hdg : decode cc pc = .ok (.invokestatic index, 3))
    (kk : W p l e R s m args below meth c H locs cells slots Q (F0 m (pc + 3) ls (.int (iZ z) :: rest))) : W p l e R s m args below meth c H locs cells slots Q (F0 m pc ls (.int (iZ b) :: .int (iZ a) :: rest)) := by
  refine va_mmax hx hb hml hown hlink hstat hini hcode hframes hlocals hc hs hdg ?_
  have e : (if iZ a < iZ b then iZ b else iZ a) = iZ z := by
    by_cases h : a < b
    · rw [if_pos ((iZ_lt hr.1 hr.2).mpr h)]; congr 1; omega
    · rw [if_neg (fun q => h ((iZ_lt hr.1 hr.2).mp q))]; congr 1; omega
  rw [e]; exact kk
theorem z_mmin (hx : p.tables.exec = Jvm.exec) (hb : c.code = cc) (hml : c.maxLocals = ls.size) {own : String} {index : Nat} (hown : s.vm.findClass own = some m.cls) (hlink : (Cond.methodLink own index Lib.Math.min.name).before args s = true) (hstat : (Cond.static Lib.Math.min.name).before args s = true) (hini : (Cond.initialized "java/lang/Math").before args s = true) (hcode : (Cond.code Lib.Math.min.name Lib.Math.min.code 2 (some .int)).before args s = true)
    (hframes : 1 ≤ R.frames) (hlocals : (rest.map fun v => v.category).sum + 13 ≤ R.locals) (hc : cells ≤ R.cells) (hs : slots ≤ R.slots) {a b : Int} (z : Int) (hr : rg a ∧ rg b) (hz : z = min a b) (hdg : decode cc pc = .ok (.invokestatic index, 3))
    (kk : W p l e R s m args below meth c H locs cells slots Q (F0 m (pc + 3) ls (.int (iZ z) :: rest))) : W p l e R s m args below meth c H locs cells slots Q (F0 m pc ls (.int (iZ b) :: .int (iZ a) :: rest)) := by
  refine va_mmin hx hb hml hown hlink hstat hini hcode hframes hlocals hc hs hdg ?_
  have e : (if iZ b < iZ a then iZ b else iZ a) = iZ z := by
    by_cases h : b < a
    · rw [if_pos ((iZ_lt hr.2 hr.1).mpr h)]; congr 1; omega
    · rw [if_neg (fun q => h ((iZ_lt hr.2 hr.1).mp q))]; congr 1; omega
  rw [e]; exact kk
theorem z_cst {v : Int32} (z : Int) (hz : v = iZ z) (k : W p l e R s m args below meth c H locs cells slots Q (F0 m pc ls (.int (iZ z) :: rest))) : W p l e R s m args below meth c H locs cells slots Q (F0 m pc ls (.int v :: rest)) := by rw [hz]; exact k
theorem z_tsI (hx : p.tables.exec = Jvm.exec) (hb : c.code = cc) {dflt lo hi : Int} {offs : Array Int} {len : Nat} {z : Int} (off : Int) {tgt : Nat} (hdg : decode cc pc = .ok (.tableswitch dflt lo hi offs, len)) (hr : rg z) (h1 : lo ≤ z) (h2 : z ≤ hi) (ho : offs[(z - lo).toNat]? = some off) (ht : (pc : Int) + off = (tgt : Int))
    (k : W p l e R s m args below meth c H locs cells slots Q (F0 m tgt ls rest)) : W p l e R s m args below meth c H locs cells slots Q (F0 m pc ls (.int (iZ z) :: rest)) := by
  refine lv_tableIn (off := off) (tgt := tgt) hx hb hdg ?_ ?_ ?_ ht k
  · rw [iZ_toInt hr.1 hr.2]; omega
  · rw [iZ_toInt hr.1 hr.2]; omega
  · rw [iZ_toInt hr.1 hr.2]; exact ho
theorem z_tsO (hx : p.tables.exec = Jvm.exec) (hb : c.code = cc) {dflt lo hi : Int} {offs : Array Int} {len : Nat} {z : Int} {tgt : Nat} (hdg : decode cc pc = .ok (.tableswitch dflt lo hi offs, len)) (hr : rg z) (h : z < lo ∨ hi < z) (ht : (pc : Int) + dflt = (tgt : Int))
    (k : W p l e R s m args below meth c H locs cells slots Q (F0 m tgt ls rest)) : W p l e R s m args below meth c H locs cells slots Q (F0 m pc ls (.int (iZ z) :: rest)) := by
  refine lv_tableOut (tgt := tgt) hx hb hdg ?_ ht k
  rw [iZ_toInt hr.1 hr.2]; exact h
end ZW
end
section
/-! a method's entry, its end, and calls -/
def nRT : String := "java/lang/RuntimeException"
def nEX : String := "java/lang/Exception"
def nTH : String := "java/lang/Throwable"
abbrev nOB : String := "java/lang/IndexOutOfBoundsException"
abbrev nIA : String := "java/lang/IllegalArgumentException"
abbrev nNS : String := "java/util/NoSuchElementException"
abbrev nIS : String := "java/lang/IllegalStateException"
abbrev nUO : String := "java/lang/UnsupportedOperationException"
/-- the stub's row, as the tables have it -/
def stubL : List Int := [17, 0, 18, 0, 83, 1, 65, 1, 147, 50, 163, 26, 84, 1, 100, 2, 65, 1, 66, 1, 67, 255, 147, 4, 128, 12, 67, 130, 84, 1, 65, 1, 38, 2, 118, 4, 84, 6, 100, 2, 70, 1, 66, 1, 67, 255, 147, 4, 128, 36, 17, 0, 18, 0, 20, 0, 22, 0, 128, 0]
def stubZ (j : Nat) : Int := stubL.getD j 0
/-- words of the exceptions that the tables alone decide -/
def zE (U : State) : Prop := (va_Nw (.declares ⟨"java/lang/RuntimeException", "<init>", "()V"⟩) U ∧ va_Nw (.declares ⟨"java/lang/Exception", "<init>", "()V"⟩) U ∧ va_Nw (.declares ⟨"java/lang/Throwable", "<init>", "()V"⟩) U) ∧
  (∀ X ∈ [nOB, nIA, nNS, nIS, nUO], va_Nw (.castable X X) U) ∧
  (va_Nc nIA nOB U ∧ va_Nc nIS nNS U ∧ va_Nc nIA nNS U ∧ va_Nc nUO nNS U ∧ va_Nc nIA nIS U ∧ va_Nc nUO nIS U ∧ va_Nc nUO nIA U)
def zU (A : Nat → Prop) (U : State) (H : Heap) : Prop := vx_Zq Bundle.tN "UNASSIGNED_STACK" Bundle.steD A U H ∧ vx_Zq Bundle.tN "SUPPRESSED_SENTINEL" Bundle.listD A U H
def zT (t : Nat) (A : Nat → Prop) (U : State) (H : Heap) : Prop := va_Z "SelfOpener$Machine" "STUB" "[I" (.ref t) A U H ∧ va_T .int t 60 (fun j => .int (iZ (stubZ j))) A U H
/-- what the start gives beside the world: carried along -/
def zC (t : Nat) (A : Nat → Prop) (U : State) (H : Heap) : Prop := zE U ∧ zU A U H ∧ zT t A U H
section ZC
variable {t : Nat} {A B : Nat → Prop} {U s : State} {H H1 : Heap}
theorem zE.moved (hW : s.WarmedH U.vm) (h : zE s) : zE U := by
  obtain ⟨⟨h1, h2, h3⟩, h4, h5, h6, h7, h8, h9, h10, h11⟩ := h
  have al := hW.alike
  exact ⟨⟨h1.warmD hW, h2.warmD hW, h3.warmD hW⟩, fun X hX => (h4 X hX).warmC hW, h5.moved al, h6.moved al, h7.moved al, h8.moved al, h9.moved al, h10.moved al, h11.moved al⟩
theorem zE.same (hv : s.vm = U.vm) (h : zE s) : zE U := by
  obtain ⟨⟨h1, h2, h3⟩, h4, h5, h6, h7, h8, h9, h10, h11⟩ := h
  have al : s.vm.Alike U.vm := by rw [hv]; exact Vm.Alike.refl _
  exact ⟨⟨h1.same rfl hv, h2.same rfl hv, h3.same rfl hv⟩, fun X hX => (h4 X hX).same rfl hv, h5.moved al, h6.moved al, h7.moved al, h8.moved al, h9.moved al, h10.moved al, h11.moved al⟩
theorem zU.moved (hv : s.vm.Alike U.vm) (h : zU A s H) : zU A U H := ⟨vx_Zq.moved hv h.1, vx_Zq.moved hv h.2⟩
theorem zU.kept (hq : ∀ a : Nat, a < H.size → ¬ A a → H1[a]? = H[a]?) (h : zU A U H) : zU A U H1 := ⟨vx_Zq.kept h.1 hq, vx_Zq.kept h.2 hq⟩
theorem zU.narrow (hAB : ∀ q, B q → A q) (h : zU A U H) : zU B U H := ⟨vx_Zq.narrow h.1 hAB, vx_Zq.narrow h.2 hAB⟩
theorem zT.moved (hv : s.vm.Alike U.vm) (h : zT t A s H) : zT t A U H := ⟨va_Z.moved hv h.1, va_T.moved hv h.2⟩
theorem zT.kept (hq : ∀ a : Nat, a < H.size → ¬ A a → H1[a]? = H[a]?) (h : zT t A U H) : zT t A U H1 := ⟨va_Z.kept h.1 hq, va_T.kept h.2 hq⟩
theorem zT.narrow (hAB : ∀ q, B q → A q) (h : zT t A U H) : zT t B U H := ⟨va_Z.narrow h.1 hAB, va_T.narrow h.2 hAB⟩
/-- at a call: to the callee's start -/
theorem zC.go (h : zC t A s s.heap) {locs : List Loc} (hS : va_S A s.heap H locs) (hAB : ∀ q, B q → A q) (hU : U.heap = H) (hW : s.WarmedH U.vm) : zC t B U U.heap := by
  rw [hU]
  exact ⟨h.1.moved hW, ((h.2.1.kept hS.2.1).narrow hAB).moved hW.alike, ((h.2.2.kept hS.2.1).narrow hAB).moved hW.alike⟩
end ZC
def zPreC (t : Nat) (G : va_G) (cI : ClassId) (W0 : va_W) (sz : Nat) (av : List Value) : Array Value → State → Prop :=
  va_Pc av (fun U => (U.heap.size = sz ∧ va_P G vwCl W0 U.heap ∧ va_K G vwCl [(cI, .int)] U ∧ va_D (fun _ => True) W0) ∧ zC t (va_A W0 sz) U U.heap)
theorem zPre_blind {G : va_G} {cI : ClassId} {W0 : va_W} {sz : Nat} {av : List Value} : FrameBlind (zPre G cI W0 sz av) := fun _ U g mk q => by
  obtain ⟨q0, q1, qP, qK, qD⟩ := q
  exact ⟨q0, q1, qP, va_K.moved (u := U) (U := U.calling g mk _) (Vm.Alike.refl U.vm) qK, qD⟩
theorem zPreC_blind {t : Nat} {G : va_G} {cI : ClassId} {W0 : va_W} {sz : Nat} {av : List Value} : FrameBlind (zPreC t G cI W0 sz av) := fun _ U g mk q => by
  obtain ⟨q0, ⟨q1, qP, qK, qD⟩, h1, h2, h3⟩ := q
  exact ⟨q0, ⟨q1, qP, va_K.moved (u := U) (U := U.calling g mk _) (Vm.Alike.refl U.vm) qK, qD⟩, zE.same (s := U) (U := U.calling g mk _) rfl h1, h2.moved (U := U.calling g mk _) (Vm.Alike.refl U.vm), h3.moved (U := U.calling g mk _) (Vm.Alike.refl U.vm)⟩
section ZM
variable {l : Launch} {y : MethodName} {ws ws' : List Cond} {rm : Room} {cc : ByteArray} {maxL : Nat} {ty : FieldType} {G : va_G} {cI : ClassId} {W0 : va_W} {av : List Value} {sz : Nat} {S : Type} {W1 : S → va_W} {mc ms : Nat}
/-- a method that returns an int (or a boolean) -/
theorem zm_i {post : Int32 → S → Prop} (hy : plainName y.cls = true) (hw : ws = Cond.code y cc maxL (some ty) :: ws') (hlen : (lg_sl av).length ≤ maxL)
    (body : ∀ (p : Program) (e : Env) (s : State) (m : MethodId) (args : Array Value) (below : List Frame) (meth : Method) (c : Code) (A : Nat → Prop) (Q : State → Prop) (ls : Array Slot), s.heap.size = sz → p.tables.exec = Jvm.exec → c.code = cc → c.maxLocals = maxL → s.vm.findClass y.cls = some m.cls → (∀ w ∈ ws, w.before args s = true) →
      (∀ (H : Heap) (locs : List Loc) (cells slots : Nat) (ls : Array Slot) (pc : Nat) (z : Int) (u : S), post (iZ z) u → Hp G cI A s H locs (W1 u) → decode cc pc = .ok (.ireturn, 1) → narrow ty (.int (iZ z)) = .int (iZ z) → cells ≤ mc → slots ≤ ms → W p l e rm s m args below meth c H locs cells slots Q (F0 m pc ls [.int (iZ z)])) →
      Hp G cI A s s.heap [] W0 → lv_has ls maxL (lv_args 0 av) → W p l e rm s m args below meth c s.heap [] 0 0 Q (F0 m 0 ls [])) :
    Met l y ws rm (zPre G cI W0 sz av) (va_Qi post (fun u t => zB G cI (va_A W0 sz) (W1 u) t) (va_A W0 sz)) mc ms (va_A W0 sz) := by
  refine Met.ofW (cc := cc) (maxL := maxL) (ret := some ty) hy hw ?_
  intro p e s m args below meth c s₁ B hml hv
  obtain ⟨rfl, hsz, hP, hK, hD0⟩ := hv
  subst hsz
  have hl := lv_entry av (n := maxL) hlen
  rw [lg_entry_eq]
  generalize (lg_sl av ++ List.replicate (maxL - (lg_sl av).length) Slot.unset).toArray = ls at hl ⊢
  refine body p e s m _ below meth c (va_A W0 s.heap.size) _ ls rfl B.exec B.bytes hml (findClass_of_methodNamed B.named) (atoms_spec (ws := ws) B.pre) ?_ ⟨hP, hD0.self, va_S.rf, hK, fun q h => Or.inr h⟩ hl
  intro H locs cells slots ls' pc z u hpost hp hdg hn hc hs
  refine W.widen hc hs ?_
  exact W.zret B.exec B.bytes B.returns hn (fun t ht hW => ⟨⟨iZ z, u, rfl, hpost, by rw [ht]; exact hp.1, va_K.moved hW.alike hp.2.2.2.1, hp.2.1⟩, hp.2.2.1.F ht⟩) hp.2.2.1.2.2 hdg B.notSynchronized
theorem zm_v {post : S → Prop} (hy : plainName y.cls = true) (hw : ws = Cond.code y cc maxL none :: ws') (hlen : (lg_sl av).length ≤ maxL)
    (body : ∀ (p : Program) (e : Env) (s : State) (m : MethodId) (args : Array Value) (below : List Frame) (meth : Method) (c : Code) (A : Nat → Prop) (Q : State → Prop) (ls : Array Slot), s.heap.size = sz → p.tables.exec = Jvm.exec → c.code = cc → c.maxLocals = maxL → s.vm.findClass y.cls = some m.cls → (∀ w ∈ ws, w.before args s = true) → meth.name = y.name →
      (∀ (H : Heap) (locs : List Loc) (cells slots : Nat) (ls : Array Slot) (pc : Nat) (u : S), post u → Hp G cI A s H locs (W1 u) → decode cc pc = .ok (.return_, 1) → cells ≤ mc → slots ≤ ms → W p l e rm s m args below meth c H locs cells slots Q (F0 m pc ls [])) →
      Hp G cI A s s.heap [] W0 → lv_has ls maxL (lv_args 0 av) → W p l e rm s m args below meth c s.heap [] 0 0 Q (F0 m 0 ls [])) :
    Met l y ws rm (zPre G cI W0 sz av) (va_Qv post (fun u t => zB G cI (va_A W0 sz) (W1 u) t) (va_A W0 sz)) mc ms (va_A W0 sz) := by
  refine Met.ofW (cc := cc) (maxL := maxL) (ret := none) hy hw ?_
  intro p e s m args below meth c s₁ B hml hv
  obtain ⟨rfl, hsz, hP, hK, hD0⟩ := hv
  subst hsz
  have hl := lv_entry av (n := maxL) hlen
  rw [lg_entry_eq]
  generalize (lg_sl av ++ List.replicate (maxL - (lg_sl av).length) Slot.unset).toArray = ls at hl ⊢
  refine body p e s m _ below meth c (va_A W0 s.heap.size) _ ls rfl B.exec B.bytes hml (findClass_of_methodNamed B.named) (atoms_spec (ws := ws) B.pre) (name_of_methodNamed B.named B.method).1 ?_ ⟨hP, hD0.self, va_S.rf, hK, fun q h => Or.inr h⟩ hl
  intro H locs cells slots ls' pc u hpost hp hdg hc hs
  refine W.widen hc hs ?_
  exact W.vret B.exec B.bytes B.returns (fun t ht hW => ⟨⟨u, rfl, hpost, by rw [ht]; exact hp.1, va_K.moved hW.alike hp.2.2.2.1, hp.2.1⟩, hp.2.2.1.F ht⟩) hp.2.2.1.2.2 hdg B.notSynchronized
/-- the same, with what the start gives -/
theorem zm_cv {t : Nat} {post : S → Prop} (hy : plainName y.cls = true) (hw : ws = Cond.code y cc maxL none :: ws') (hlen : (lg_sl av).length ≤ maxL)
    (body : ∀ (p : Program) (e : Env) (s : State) (m : MethodId) (args : Array Value) (below : List Frame) (meth : Method) (c : Code) (A : Nat → Prop) (Q : State → Prop) (ls : Array Slot), s.heap.size = sz → p.tables.exec = Jvm.exec → c.code = cc → c.maxLocals = maxL → s.vm.findClass y.cls = some m.cls → (∀ w ∈ ws, w.before args s = true) → zC t A s s.heap →
      (∀ (H : Heap) (locs : List Loc) (cells slots : Nat) (ls : Array Slot) (pc : Nat) (u : S), post u → Hp G cI A s H locs (W1 u) → decode cc pc = .ok (.return_, 1) → cells ≤ mc → slots ≤ ms → W p l e rm s m args below meth c H locs cells slots Q (F0 m pc ls [])) →
      Hp G cI A s s.heap [] W0 → lv_has ls maxL (lv_args 0 av) → W p l e rm s m args below meth c s.heap [] 0 0 Q (F0 m 0 ls [])) :
    Met l y ws rm (zPreC t G cI W0 sz av) (va_Qv post (fun u t => zB G cI (va_A W0 sz) (W1 u) t) (va_A W0 sz)) mc ms (va_A W0 sz) := by
  refine Met.ofW (cc := cc) (maxL := maxL) (ret := none) hy hw ?_
  intro p e s m args below meth c s₁ B hml hv
  obtain ⟨rfl, ⟨hsz, hP, hK, hD0⟩, hC⟩ := hv
  subst hsz
  have hl := lv_entry av (n := maxL) hlen
  rw [lg_entry_eq]
  generalize (lg_sl av ++ List.replicate (maxL - (lg_sl av).length) Slot.unset).toArray = ls at hl ⊢
  refine body p e s m _ below meth c (va_A W0 s.heap.size) _ ls rfl B.exec B.bytes hml (findClass_of_methodNamed B.named) (atoms_spec (ws := ws) B.pre) hC ?_ ⟨hP, hD0.self, va_S.rf, hK, fun q h => Or.inr h⟩ hl
  intro H locs cells slots ls' pc u hpost hp hdg hc hs
  refine W.widen hc hs ?_
  exact W.vret B.exec B.bytes B.returns (fun t ht hW => ⟨⟨u, rfl, hpost, by rw [ht]; exact hp.1, va_K.moved hW.alike hp.2.2.2.1, hp.2.1⟩, hp.2.2.1.F ht⟩) hp.2.2.1.2.2 hdg B.notSynchronized
/-- a throw of 'new X()', for a method without a table -/
abbrev zThr (l : Launch) (p : Program) (e : Env) (rm : Room) (s : State) (m : MethodId) (args : Array Value) (below : List Frame) (meth : Method) (c : Code) (Q : State → Prop) (G : va_G) (cI : ClassId) (A : Nat → Prop) (own : String) (cc : ByteArray) (maxL mc ms : Nat) {SX : Type} (px : String → SX → Prop) (WX : SX → va_W) : Prop :=
  ∀ (H : Heap) (locs : List Loc) (cells slots : Nat) (ls : Array Slot) (pc : Nat) (rest : List Value) (X : String) (ik ic : Nat) (u : SX), px X u → Hp G cI A s H locs (WX u) → ls.size = maxL → X ∈ [nOB, nIA, nNS, nIS, nUO] →
    (Cond.classLink own ik X).before args s = true → (Cond.initialized X).before args s = true → (∀ w ∈ (vx_at0 own ic X ["java/lang/RuntimeException", "java/lang/Exception"]).filter goodWord, w.before args s = true) →
    (∀ w ∈ (vx_at0 own ic X ["java/lang/RuntimeException", "java/lang/Exception"]).filter (fun w => !goodWord w), w ∈ [Cond.declares ⟨"java/lang/RuntimeException", "<init>", "()V"⟩, .declares ⟨"java/lang/Exception", "<init>", "()V"⟩, .declares ⟨"java/lang/Throwable", "<init>", "()V"⟩, .castable X X]) →
    (∀ w ∈ Cond.classLink own ik X :: Cond.initialized X :: vx_at0 own ic X ["java/lang/RuntimeException", "java/lang/Exception"], vx_ot w = true) →
    decode cc pc = .ok (.new ik, 3) → decode cc (pc + 3) = .ok (.dup, 1) → decode cc (pc + 4) = .ok (.invokespecial ic, 3) → decode cc (pc + 7) = .ok (.athrow, 1) →
    (rest.map fun v => v.category).sum ≤ 8 → 5 < rm.frames → 89 ≤ rm.locals → cells + 1 ≤ mc → slots + 6 ≤ ms → W p l e rm s m args below meth c H locs cells slots Q (F0 m pc ls rest)
/-- what a callee threw goes on -/
abbrev zOut (l : Launch) (p : Program) (e : Env) (rm : Room) (s : State) (m : MethodId) (args : Array Value) (below : List Frame) (meth : Method) (c : Code) (Q : State → Prop) (G : va_G) (cI : ClassId) (A : Nat → Prop) (mc ms : Nat) {SX : Type} (px : String → SX → Prop) (WX : SX → va_W) : Prop :=
  ∀ (H : Heap) (locs : List Loc) (cells slots : Nat) (ls : Array Slot) (pc : Nat) (rest : List Value) (X : String) (ce : Cell) (q : Addr) (u : SX), px X u → Hp G cI A s H locs (WX u) → H[q]? = some ce → ce.vm = .none → s.vm.findClass X = some ce.cls → cells ≤ mc → slots ≤ ms → vx_W p l e rm s m args below meth c H locs cells slots Q (F0 m pc ls rest) q
theorem z_thr {p : Program} {e : Env} {s : State} {m : MethodId} {args : Array Value} {below : List Frame} {meth : Method} {c : Code} {A : Nat → Prop} {own : String} {t : Nat} {Qc : Array Value → State → Outcome → State → Prop} {SX : Type} {px : String → SX → Prop} {WX : SX → va_W}
    (hx : p.tables.exec = Jvm.exec) (hb : c.code = cc) (hml : c.maxLocals = maxL) (hst : l.stackTraces = false) (hown : s.vm.findClass own = some m.cls) (hout : ∀ x ∈ c.exceptionTable.toList, False) (hlocks : meth.locks = false) (hC : zC t A s s.heap) (hrc : rm.cells = mc) (hrs : rm.slots = ms) :
    zThr l p e rm s m args below meth c (vx_MQ below Qc (vx_X (fun _ => True) (fun X (u : SX) t => px X u ∧ zB G cI A (WX u) t) A) args s mc ms A) G cI A own cc maxL mc ms px WX := by
  intro H locs cells slots ls pc rest X ik ic u hpx hp hls hX hk hini hg hng hot d0 d3 d4 d7 hr hRf hRl hc hs
  have hfit : Bundle.fit X = true := by
    simp only [List.mem_cons, List.not_mem_nil, or_false] at hX
    rcases hX with rfl | rfl | rfl | rfl | rfl <;> decide +kernel
  have hat : ∀ w ∈ vx_at0 own ic X ["java/lang/RuntimeException", "java/lang/Exception"], w.before args s = true :=
    vx_hat hg hng (vx_c (hC.1.1.1.use rfl) (vx_c (hC.1.1.2.1.use rfl) (vx_c (hC.1.1.2.2.use rfl) (vx_c ((hC.1.2.1 X hX).use rfl) vx_n))))
  refine vx_throw0 (names := ["java/lang/RuntimeException", "java/lang/Exception"]) (A := A) hx hb hst hown hfit (by decide +kernel) hk hini hat hot hC.2.1.1 hC.2.1.2 hp.2.2.1 (by rw [hls, hml]) d0 d3 d4 d7 (fun x h => (hout x h).elim) ?_ ?_ ?_ ?_ hlocks ?_ hp.2.2.1.2.2 hc hs
  · show 5 < rm.frames
    exact hRf
  · show _ + (13 * 3 + 42) ≤ rm.locals
    omega
  · rw [hrc]; exact hc
  · rw [hrs]; exact hs
  · intro t' hal h1 h2
    refine ⟨u, trivial, ⟨hpx, hp.1.kept (fun k q hk => h2 q.1 (hp.1 k q hk).lt), va_K.moved hal hp.2.2.2.1, hp.2.1⟩, ?_, ?_⟩
    · exact Nat.le_trans hp.2.2.1.1 h1
    · intro q g1 g2
      rw [h2 q (Nat.lt_of_lt_of_le g1 hp.2.2.1.1)]
      exact hp.2.2.1.2.1 q g1 g2
theorem z_out {p : Program} {e : Env} {s : State} {m : MethodId} {args : Array Value} {below : List Frame} {meth : Method} {c : Code} {A : Nat → Prop} {Qc : Array Value → State → Outcome → State → Prop} {SX : Type} {px : String → SX → Prop} {WX : SX → va_W}
    (hout : ∀ x ∈ c.exceptionTable.toList, False) (hlocks : meth.locks = false) :
    zOut l p e rm s m args below meth c (vx_MQ below Qc (vx_X (fun _ => True) (fun X (u : SX) t => px X u ∧ zB G cI A (WX u) t) A) args s mc ms A) G cI A mc ms px WX := by
  intro H locs cells slots ls pc rest X ce q u hpx hp hce hcv hcl hc hs
  exact vx_out (fun x h => (hout x h).elim) hlocks hce hcv hcl (fun t' ht hal => ⟨u, trivial, ⟨hpx, by rw [ht]; exact hp.1, va_K.moved hal hp.2.2.2.1, hp.2.1⟩, hp.2.2.1.F ht⟩) hp.2.2.1.2.2 hc hs
/-- a method without a table, that returns an int or throws -/
theorem zm_xi {t : Nat} {post : Int32 → S → Prop} {SX : Type} {px : String → SX → Prop} {WX : SX → va_W} (hst : l.stackTraces = false) (hrc : rm.cells = mc) (hrs : rm.slots = ms) (hy : plainName y.cls = true) (hw : ws = Cond.code y cc maxL (some ty) :: ws') (hlen : (lg_sl av).length ≤ maxL)
    (body : ∀ (p : Program) (e : Env) (s : State) (m : MethodId) (args : Array Value) (below : List Frame) (meth : Method) (c : Code) (A : Nat → Prop) (Q : State → Prop) (ls : Array Slot), s.heap.size = sz → p.tables.exec = Jvm.exec → c.code = cc → c.maxLocals = maxL → s.vm.findClass y.cls = some m.cls → (∀ w ∈ ws, w.before args s = true) → zC t A s s.heap →
      (∀ (H : Heap) (locs : List Loc) (cells slots : Nat) (ls : Array Slot) (pc : Nat) (z : Int) (u : S), post (iZ z) u → Hp G cI A s H locs (W1 u) → decode cc pc = .ok (.ireturn, 1) → narrow ty (.int (iZ z)) = .int (iZ z) → cells ≤ mc → slots ≤ ms → W p l e rm s m args below meth c H locs cells slots Q (F0 m pc ls [.int (iZ z)])) →
      zThr l p e rm s m args below meth c Q G cI A y.cls cc maxL mc ms px WX → zOut l p e rm s m args below meth c Q G cI A mc ms px WX →
      Hp G cI A s s.heap [] W0 → lv_has ls maxL (lv_args 0 av) → W p l e rm s m args below meth c s.heap [] 0 0 Q (F0 m 0 ls [])) :
    vx_Met l y ws rm (zPreC t G cI W0 sz av) (va_Qi post (fun u t => zB G cI (va_A W0 sz) (W1 u) t) (va_A W0 sz)) (vx_X (fun _ => True) (fun X (u : SX) t => px X u ∧ zB G cI (va_A W0 sz) (WX u) t) (va_A W0 sz)) mc ms (va_A W0 sz) := by
  refine vx_ofW (cc := cc) (maxL := maxL) (ret := some ty) hy hw ?_
  intro p e s m args below meth c s₁ B hml hout hv
  obtain ⟨rfl, ⟨hsz, hP, hK, hD0⟩, hC⟩ := hv
  subst hsz
  have hl := lv_entry av (n := maxL) hlen
  rw [lg_entry_eq]
  generalize (lg_sl av ++ List.replicate (maxL - (lg_sl av).length) Slot.unset).toArray = ls at hl ⊢
  refine body p e s m _ below meth c (va_A W0 s.heap.size) _ ls rfl B.exec B.bytes hml (findClass_of_methodNamed B.named) (atoms_spec (ws := ws) B.pre) hC ?_ (z_thr B.exec B.bytes hml hst (findClass_of_methodNamed B.named) hout B.notSynchronized hC hrc hrs) (z_out hout B.notSynchronized) ⟨hP, hD0.self, va_S.rf, hK, fun q h => Or.inr h⟩ hl
  intro H locs cells slots ls' pc z u hpost hp hdg hn hc hs
  refine vx_ret (W.widen hc hs ?_)
  exact W.zret B.exec B.bytes B.returns hn (fun t ht hW => ⟨⟨iZ z, u, rfl, hpost, by rw [ht]; exact hp.1, va_K.moved hW.alike hp.2.2.2.1, hp.2.1⟩, hp.2.2.1.F ht⟩) hp.2.2.1.2.2 hdg B.notSynchronized
theorem zm_xv {t : Nat} {post : S → Prop} {SX : Type} {px : String → SX → Prop} {WX : SX → va_W} (hst : l.stackTraces = false) (hrc : rm.cells = mc) (hrs : rm.slots = ms) (hy : plainName y.cls = true) (hw : ws = Cond.code y cc maxL none :: ws') (hlen : (lg_sl av).length ≤ maxL)
    (body : ∀ (p : Program) (e : Env) (s : State) (m : MethodId) (args : Array Value) (below : List Frame) (meth : Method) (c : Code) (A : Nat → Prop) (Q : State → Prop) (ls : Array Slot), s.heap.size = sz → p.tables.exec = Jvm.exec → c.code = cc → c.maxLocals = maxL → s.vm.findClass y.cls = some m.cls → (∀ w ∈ ws, w.before args s = true) → zC t A s s.heap →
      (∀ (H : Heap) (locs : List Loc) (cells slots : Nat) (ls : Array Slot) (pc : Nat) (u : S), post u → Hp G cI A s H locs (W1 u) → decode cc pc = .ok (.return_, 1) → cells ≤ mc → slots ≤ ms → W p l e rm s m args below meth c H locs cells slots Q (F0 m pc ls [])) →
      zThr l p e rm s m args below meth c Q G cI A y.cls cc maxL mc ms px WX → zOut l p e rm s m args below meth c Q G cI A mc ms px WX →
      Hp G cI A s s.heap [] W0 → lv_has ls maxL (lv_args 0 av) → W p l e rm s m args below meth c s.heap [] 0 0 Q (F0 m 0 ls [])) :
    vx_Met l y ws rm (zPreC t G cI W0 sz av) (va_Qv post (fun u t => zB G cI (va_A W0 sz) (W1 u) t) (va_A W0 sz)) (vx_X (fun _ => True) (fun X (u : SX) t => px X u ∧ zB G cI (va_A W0 sz) (WX u) t) (va_A W0 sz)) mc ms (va_A W0 sz) := by
  refine vx_ofW (cc := cc) (maxL := maxL) (ret := none) hy hw ?_
  intro p e s m args below meth c s₁ B hml hout hv
  obtain ⟨rfl, ⟨hsz, hP, hK, hD0⟩, hC⟩ := hv
  subst hsz
  have hl := lv_entry av (n := maxL) hlen
  rw [lg_entry_eq]
  generalize (lg_sl av ++ List.replicate (maxL - (lg_sl av).length) Slot.unset).toArray = ls at hl ⊢
  refine body p e s m _ below meth c (va_A W0 s.heap.size) _ ls rfl B.exec B.bytes hml (findClass_of_methodNamed B.named) (atoms_spec (ws := ws) B.pre) hC ?_ (z_thr B.exec B.bytes hml hst (findClass_of_methodNamed B.named) hout B.notSynchronized hC hrc hrs) (z_out hout B.notSynchronized) ⟨hP, hD0.self, va_S.rf, hK, fun q h => Or.inr h⟩ hl
  intro H locs cells slots ls' pc u hpost hp hdg hc hs
  refine vx_ret (W.widen hc hs ?_)
  exact W.vret B.exec B.bytes B.returns (fun t ht hW => ⟨⟨u, rfl, hpost, by rw [ht]; exact hp.1, va_K.moved hW.alike hp.2.2.2.1, hp.2.1⟩, hp.2.2.1.F ht⟩) hp.2.2.1.2.2 hdg B.notSynchronized
end ZM
section ZK
variable {p : Program} {l : Launch} {e : Env} {R : Room} {s : State} {m : MethodId} {args : Array Value} {below : List Frame} {meth : Method} {c : Code} {H : Heap} {locs : List Loc} {cells slots : Nat} {Q : State → Prop}
variable {cc : ByteArray} {own : String} {Ts : List Cond} {pc : Nat} {ls : Array Slot} {st0 rest As : List Value} {G : va_G} {cI : ClassId} {A : Nat → Prop} {wl W0 wr : va_W}
theorem z_fm {α : Type} {ws ws' : List α} {is : List Nat} (h : is.map (fun i => ws[i]?) = ws'.map some) : is.filterMap (fun i => ws[i]?) = ws' := by
  have e : is.filterMap (fun i => ws[i]?) = (is.map (fun i => ws[i]?)).filterMap id := by
    rw [List.filterMap_map]; rfl
  rw [e, h, List.filterMap_map]
  simp
theorem z_pre (hp : Hp G cI A s H locs wl) (isC : List Nat) (hC : isC.map (fun i => wl[i]?) = W0.map some) (hn : va_nd isC = true) (av : List Value) : ∀ U : State, U.heap = H → s.WarmedH U.vm → zPre G cI W0 H.size av av.toArray U := fun U hU hW =>
  ⟨rfl, by rw [hU], by rw [hU]; exact hp.1.sub isC (z_fm hC), va_K.moved hW.alike hp.2.2.2.1, (hp.2.1.sub isC hn hC).weaken (fun _ _ _ _ => trivial)⟩
theorem z_preC {t : Nat} (hC0 : zC t A s s.heap) (hp : Hp G cI A s H locs wl) (isC : List Nat) (hC : isC.map (fun i => wl[i]?) = W0.map some) (hn : va_nd isC = true) (av : List Value) : ∀ U : State, U.heap = H → s.WarmedH U.vm → zPreC t G cI W0 H.size av av.toArray U := fun U hU hW =>
  ⟨rfl, ⟨by rw [hU], by rw [hU]; exact hp.1.sub isC (z_fm hC), va_K.moved hW.alike hp.2.2.2.1, (hp.2.1.sub isC hn hC).weaken (fun _ _ _ _ => trivial)⟩, hC0.go hp.2.2.1 (va_free hp.2.1 hp.2.2.1 hp.2.2.2.2 isC hC) hU hW⟩
theorem z_after {W1 wl2 : va_W} {t : State} {H1 : Heap} {locs1 : List Loc} (hp : Hp G cI A s H locs wl) (isC isR ord : List Nat) (hC : isC.map (fun i => wl[i]?) = W0.map some) (hR : isR.map (fun i => wl[i]?) = wr.map some) (hk : va_nd isR = true ∧ (∀ i ∈ isR, i ∉ isC) ∧ va_nd ord = true) (hord : ord.map (fun i => (wr ++ W1)[i]?) = wl2.map some)
    (hB : zB G cI (va_A W0 H.size) W1 t) (ht : t.heap = H1) (hk1 : ∀ q : Nat, q < H.size → ¬ va_A W0 H.size q → H1[q]? = H[q]?) (hS : va_S A s.heap H1 locs1) : Hp G cI A s H1 locs1 wl2 := by
  obtain ⟨hP, hD⟩ := va_join (wr := wr) (w1 := W1) hp.1 hp.2.1 isC isR hC hR hk.1 hk.2.1 hk1 (va_free hp.2.1 hp.2.2.1 hp.2.2.2.2 isC hC) (by rw [← ht]; exact hB.1) hB.2.2
  exact ⟨hP.sub ord (z_fm hord), hD.sub ord hk.2.2 hord, hS, hp.2.2.2.1, hp.2.2.2.2⟩
variable {y : MethodName} {bytes : ByteArray} {maxL mc ms n index nL : Nat} {ret : Option FieldType} {wsY : List Cond} {rmY : Room} {C : String} {b : Addr} {Pc : Array Value → State → Prop} {S SX : Type} {W1 wl2 : S → va_W} {WX wlX : SX → va_W}
/-- virtual calls -/
theorem zc_i {post : Int32 → S → Prop} (hx : p.tables.exec = Jvm.exec) (hb : c.code = cc) (hml : c.maxLocals = nL) (hown : s.vm.findClass own = some m.cls) (hts : ∀ w ∈ Ts, w.before args s = true) (hp : Hp G cI A s H locs wl)
    (hM : Met l y wsY rmY Pc (va_Qi post (fun u t => zB G cI (va_A W0 H.size) (W1 u) t) (va_A W0 H.size)) mc ms (va_A W0 H.size)) (hbl : FrameBlind Pc) (hpre : ∀ U : State, U.heap = H → s.WarmedH U.vm → Pc (Value.ref b :: As).toArray U)
    (cw : CallW R s args own C index y bytes maxL ret wsY rmY mc ms n) (isC isR ord : List Nat) (hC : isC.map (fun i => wl[i]?) = W0.map some) (hR : isR.map (fun i => wl[i]?) = wr.map some) (hk : va_nd isR = true ∧ (∀ i ∈ isR, i ∉ isC) ∧ va_nd ord = true) (hord : ∀ u : S, ord.map (fun i => (wr ++ W1 u)[i]?) = (wl2 u).map some)
    (q0 ci : Nat) {q : vw_C} {fs : List Value} (hc : vwCl[ci]? = some q) (he : wl[q0]? = some (b, .inr (ci, fs))) (hqC : q.1 = C) (hn : As.length = n) (hls : ls.size = nL) (hst : st0 = As.reverse ++ .ref b :: rest) (hW : (rest.map fun v => v.category).sum ≤ 8) (hdg : decode cc pc = .ok (.invokevirtual index, 3)) (hf : cells + mc ≤ R.cells ∧ slots + ms ≤ R.slots)
    (kk : ∀ (r : Int32) (u : S) (H1 : Heap) (locs1 : List Loc), post r u → Hp G cI A s H1 locs1 (wl2 u) → W p l e R s m args below meth c H1 locs1 (cells + mc) (slots + ms) Q (F0 m (pc + 3) ls (.int r :: rest))) : W p l e R s m args below meth c H locs cells slots Q (F0 m pc ls st0) := by
  subst hqC
  have hFc := va_free hp.2.1 hp.2.2.1 hp.2.2.2.2 isC hC
  refine va_calli (va_runV (As := As) (rest := rest) ⟨hx, hb, hml, hown, hts⟩ hM cw ⟨hbl, va_recv hp.2.2.2.1 hp.1 hc he, hpre⟩ rfl hn hls hst (lv_room hW) hdg hf) hp.2.2.1 (fun q _ h => hFc q h) hFc (fun r u t H1 locs1 ht hvm hw hB hz1 hk1 hS => kk r u H1 locs1 hw (z_after hp isC isR ord hC hR hk (hord u) hB ht hk1 hS))
theorem zc_v {post : S → Prop} (hx : p.tables.exec = Jvm.exec) (hb : c.code = cc) (hml : c.maxLocals = nL) (hown : s.vm.findClass own = some m.cls) (hts : ∀ w ∈ Ts, w.before args s = true) (hp : Hp G cI A s H locs wl)
    (hM : Met l y wsY rmY Pc (va_Qv post (fun u t => zB G cI (va_A W0 H.size) (W1 u) t) (va_A W0 H.size)) mc ms (va_A W0 H.size)) (hbl : FrameBlind Pc) (hpre : ∀ U : State, U.heap = H → s.WarmedH U.vm → Pc (Value.ref b :: As).toArray U)
    (cw : CallW R s args own C index y bytes maxL ret wsY rmY mc ms n) (isC isR ord : List Nat) (hC : isC.map (fun i => wl[i]?) = W0.map some) (hR : isR.map (fun i => wl[i]?) = wr.map some) (hk : va_nd isR = true ∧ (∀ i ∈ isR, i ∉ isC) ∧ va_nd ord = true) (hord : ∀ u : S, ord.map (fun i => (wr ++ W1 u)[i]?) = (wl2 u).map some)
    (q0 ci : Nat) {q : vw_C} {fs : List Value} (hc : vwCl[ci]? = some q) (he : wl[q0]? = some (b, .inr (ci, fs))) (hqC : q.1 = C) (hn : As.length = n) (hls : ls.size = nL) (hst : st0 = As.reverse ++ .ref b :: rest) (hW : (rest.map fun v => v.category).sum ≤ 8) (hdg : decode cc pc = .ok (.invokevirtual index, 3)) (hf : cells + mc ≤ R.cells ∧ slots + ms ≤ R.slots)
    (kk : ∀ (u : S) (H1 : Heap) (locs1 : List Loc), post u → Hp G cI A s H1 locs1 (wl2 u) → W p l e R s m args below meth c H1 locs1 (cells + mc) (slots + ms) Q (F0 m (pc + 3) ls rest)) : W p l e R s m args below meth c H locs cells slots Q (F0 m pc ls st0) := by
  subst hqC
  have hFc := va_free hp.2.1 hp.2.2.1 hp.2.2.2.2 isC hC
  refine va_callv (va_runV (As := As) (rest := rest) ⟨hx, hb, hml, hown, hts⟩ hM cw ⟨hbl, va_recv hp.2.2.2.1 hp.1 hc he, hpre⟩ rfl hn hls hst (lv_room hW) hdg hf) hp.2.2.1 (fun q _ h => hFc q h) hFc (fun u t H1 locs1 ht hvm hw hB hz1 hk1 hS => kk u H1 locs1 hw (z_after hp isC isR ord hC hR hk (hord u) hB ht hk1 hS))
/-- a static call that returns an int -/
theorem zs_i {post : Int32 → S → Prop} (hx : p.tables.exec = Jvm.exec) (hb : c.code = cc) (hml : c.maxLocals = nL) (hown : s.vm.findClass own = some m.cls) (hts : ∀ w ∈ Ts, w.before args s = true) (hp : Hp G cI A s H locs wl)
    (hM : Met l y wsY rmY Pc (va_Qi post (fun u t => zB G cI (va_A W0 H.size) (W1 u) t) (va_A W0 H.size)) mc ms (va_A W0 H.size)) (hbl : FrameBlind Pc) (hpre : ∀ U : State, U.heap = H → s.WarmedH U.vm → Pc As.toArray U)
    (cw : CallB R s args own index y bytes maxL ret wsY rmY mc ms n ∧ (Cond.static y).before args s = true) (isC isR ord : List Nat) (hC : isC.map (fun i => wl[i]?) = W0.map some) (hR : isR.map (fun i => wl[i]?) = wr.map some) (hk : va_nd isR = true ∧ (∀ i ∈ isR, i ∉ isC) ∧ va_nd ord = true) (hord : ∀ u : S, ord.map (fun i => (wr ++ W1 u)[i]?) = (wl2 u).map some)
    (hn : As.length = n) (hls : ls.size = nL) (hst : st0 = As.reverse ++ rest) (hW : (rest.map fun v => v.category).sum ≤ 8) (hdg : decode cc pc = .ok (.invokestatic index, 3)) (hf : cells + mc ≤ R.cells ∧ slots + ms ≤ R.slots)
    (kk : ∀ (r : Int32) (u : S) (H1 : Heap) (locs1 : List Loc), post r u → Hp G cI A s H1 locs1 (wl2 u) → W p l e R s m args below meth c H1 locs1 (cells + mc) (slots + ms) Q (F0 m (pc + 3) ls (.int r :: rest))) : W p l e R s m args below meth c H locs cells slots Q (F0 m pc ls st0) := by
  have hFc := va_free hp.2.1 hp.2.2.1 hp.2.2.2.2 isC hC
  refine va_calli (va_runS (As := As) (rest := rest) ⟨hx, hb, hml, hown, hts⟩ hM cw ⟨hbl, hpre⟩ rfl hn hls hst (lv_room hW) hdg hf) hp.2.2.1 (fun q _ h => hFc q h) hFc (fun r u t H1 locs1 ht hvm hw hB hz1 hk1 hS => kk r u H1 locs1 hw (z_after hp isC isR ord hC hR hk (hord u) hB ht hk1 hS))
/-- a static call of a method with a table -/
theorem zt_i {hh : List (Nat × Nat × Nat × Nat)} {post : Int32 → S → Prop} (hx : p.tables.exec = Jvm.exec) (hb : c.code = cc) (hml : c.maxLocals = nL) (hown : s.vm.findClass own = some m.cls) (hts : ∀ w ∈ Ts, w.before args s = true) (hp : Hp G cI A s H locs wl)
    (hM : Met l y wsY rmY Pc (va_Qi post (fun u t => zB G cI (va_A W0 H.size) (W1 u) t) (va_A W0 H.size)) mc ms (va_A W0 H.size)) (hbl : FrameBlind Pc) (hpre : ∀ U : State, U.heap = H → s.WarmedH U.vm → Pc As.toArray U)
    (cw : vx_CSW R s args own index y bytes maxL ret hh wsY rmY mc ms n) (isC isR ord : List Nat) (hC : isC.map (fun i => wl[i]?) = W0.map some) (hR : isR.map (fun i => wl[i]?) = wr.map some) (hk : va_nd isR = true ∧ (∀ i ∈ isR, i ∉ isC) ∧ va_nd ord = true) (hord : ∀ u : S, ord.map (fun i => (wr ++ W1 u)[i]?) = (wl2 u).map some)
    (hn : As.length = n) (hls : ls.size = nL) (hst : st0 = As.reverse ++ rest) (hW : (rest.map fun v => v.category).sum ≤ 8) (hdg : decode cc pc = .ok (.invokestatic index, 3)) (hf : cells + mc ≤ R.cells ∧ slots + ms ≤ R.slots)
    (kk : ∀ (r : Int32) (u : S) (H1 : Heap) (locs1 : List Loc), post r u → Hp G cI A s H1 locs1 (wl2 u) → W p l e R s m args below meth c H1 locs1 (cells + mc) (slots + ms) Q (F0 m (pc + 3) ls (.int r :: rest))) : W p l e R s m args below meth c H locs cells slots Q (F0 m pc ls st0) := by
  have hFc := va_free hp.2.1 hp.2.2.1 hp.2.2.2.2 isC hC
  refine va_calli (vx_runSW (As := As) (rest := rest) ⟨hx, hb, hml, hown, hts⟩ hM cw ⟨hbl, hpre⟩ rfl hn hls hst (lv_room hW) hdg hf) hp.2.2.1 (fun q _ h => hFc q h) hFc (fun r u t H1 locs1 ht hvm hw hB hz1 hk1 hS => kk r u H1 locs1 hw (z_after hp isC isR ord hC hR hk (hord u) hB ht hk1 hS))
/-- a constructor -/
theorem zn_v {post : S → Prop} (hx : p.tables.exec = Jvm.exec) (hb : c.code = cc) (hml : c.maxLocals = nL) (hown : s.vm.findClass own = some m.cls) (hts : ∀ w ∈ Ts, w.before args s = true) (hp : Hp G cI A s H locs wl)
    (hM : Met l y wsY rmY Pc (va_Qv post (fun u t => zB G cI (va_A W0 H.size) (W1 u) t) (va_A W0 H.size)) mc ms (va_A W0 H.size)) (hbl : FrameBlind Pc) (hpre : ∀ U : State, U.heap = H → s.WarmedH U.vm → Pc (Value.ref b :: As).toArray U)
    (cw : CallB R s args own index y bytes maxL none wsY rmY mc ms n ∧ y.name = "<init>" ∧ (Cond.instanceMethod y).before args s = true) (isC isR ord : List Nat) (hC : isC.map (fun i => wl[i]?) = W0.map some) (hR : isR.map (fun i => wl[i]?) = wr.map some) (hk : va_nd isR = true ∧ (∀ i ∈ isR, i ∉ isC) ∧ va_nd ord = true) (hord : ∀ u : S, ord.map (fun i => (wr ++ W1 u)[i]?) = (wl2 u).map some)
    (hn : As.length = n) (hls : ls.size = nL) (hst : st0 = As.reverse ++ .ref b :: rest) (hW : (rest.map fun v => v.category).sum ≤ 8) (hdg : decode cc pc = .ok (.invokespecial index, 3)) (hf : cells + mc ≤ R.cells ∧ slots + ms ≤ R.slots)
    (kk : ∀ (u : S) (H1 : Heap) (locs1 : List Loc), post u → Hp G cI A s H1 locs1 (wl2 u) → W p l e R s m args below meth c H1 locs1 (cells + mc) (slots + ms) Q (F0 m (pc + 3) ls rest)) : W p l e R s m args below meth c H locs cells slots Q (F0 m pc ls st0) := by
  have hFc := va_free hp.2.1 hp.2.2.1 hp.2.2.2.2 isC hC
  refine va_callv (va_runI (As := As) (rest := rest) ⟨hx, hb, hml, hown, hts⟩ hM cw ⟨hbl, hpre⟩ rfl hn hls hst (lv_room hW) hdg hf) hp.2.2.1 (fun q _ h => hFc q h) hFc (fun u t H1 locs1 ht hvm hw hB hz1 hk1 hS => kk u H1 locs1 hw (z_after hp isC isR ord hC hR hk (hord u) hB ht hk1 hS))
/-- virtual calls that may throw -/
theorem zx_i {post : Int32 → S → Prop} {px : String → SX → Prop} (hx : p.tables.exec = Jvm.exec) (hb : c.code = cc) (hml : c.maxLocals = nL) (hown : s.vm.findClass own = some m.cls) (hts : ∀ w ∈ Ts, w.before args s = true) (hp : Hp G cI A s H locs wl)
    (hM : vx_Met l y wsY rmY Pc (va_Qi post (fun u t => zB G cI (va_A W0 H.size) (W1 u) t) (va_A W0 H.size)) (vx_X (fun _ => True) (fun X (u : SX) t => px X u ∧ zB G cI (va_A W0 H.size) (WX u) t) (va_A W0 H.size)) mc ms (va_A W0 H.size)) (hbl : FrameBlind Pc) (hpre : ∀ U : State, U.heap = H → s.WarmedH U.vm → Pc (Value.ref b :: As).toArray U)
    (cw : CallW R s args own C index y bytes maxL ret wsY rmY mc ms n) (isC isR ord : List Nat) (hC : isC.map (fun i => wl[i]?) = W0.map some) (hR : isR.map (fun i => wl[i]?) = wr.map some) (hk : va_nd isR = true ∧ (∀ i ∈ isR, i ∉ isC) ∧ va_nd ord = true) (hord : ∀ u : S, ord.map (fun i => (wr ++ W1 u)[i]?) = (wl2 u).map some) (hordX : ∀ u : SX, ord.map (fun i => (wr ++ WX u)[i]?) = (wlX u).map some)
    (q0 ci : Nat) {q : vw_C} {fs : List Value} (hc : vwCl[ci]? = some q) (he : wl[q0]? = some (b, .inr (ci, fs))) (hqC : q.1 = C) (hn : As.length = n) (hls : ls.size = nL) (hst : st0 = As.reverse ++ .ref b :: rest) (hW : (rest.map fun v => v.category).sum ≤ 8) (hdg : decode cc pc = .ok (.invokevirtual index, 3)) (hf : cells + mc ≤ R.cells ∧ slots + ms ≤ R.slots)
    (kx : ∀ (X : String) (ce : Cell) (q9 : Addr) (u : SX) (H1 : Heap) (locs1 : List Loc), px X u → Hp G cI A s H1 locs1 (wlX u) → H1[q9]? = some ce → ce.vm = .none → s.vm.findClass X = some ce.cls → vx_W p l e R s m args below meth c H1 locs1 (cells + mc) (slots + ms) Q (F0 m pc ls rest) q9)
    (kk : ∀ (r : Int32) (u : S) (H1 : Heap) (locs1 : List Loc), post r u → Hp G cI A s H1 locs1 (wl2 u) → W p l e R s m args below meth c H1 locs1 (cells + mc) (slots + ms) Q (F0 m (pc + 3) ls (.int r :: rest))) : W p l e R s m args below meth c H locs cells slots Q (F0 m pc ls st0) := by
  subst hqC
  have hFc := va_free hp.2.1 hp.2.2.1 hp.2.2.2.2 isC hC
  refine vx_calli (vx_runV (As := As) (rest := rest) ⟨hx, hb, hml, hown, hts⟩ hM cw ⟨hbl, va_recv hp.2.2.2.1 hp.1 hc he, hpre⟩ rfl hn hls hst (lv_room hW) hdg hf) hp.2.2.1 (fun q _ h => hFc q h) hFc (fun q _ h => hFc q h)
    (fun X ce q9 u t H1 locs1 ht hvm _ hB hz1 hk1 hS hce hcv hcl => kx X ce q9 u H1 locs1 hB.1 (z_after hp isC isR ord hC hR hk (hordX u) hB.2 ht hk1 hS) hce hcv hcl)
    (fun r u t H1 locs1 ht hvm hw hB hz1 hk1 hS => kk r u H1 locs1 hw (z_after hp isC isR ord hC hR hk (hord u) hB ht hk1 hS))
theorem zx_v {post : S → Prop} {px : String → SX → Prop} (hx : p.tables.exec = Jvm.exec) (hb : c.code = cc) (hml : c.maxLocals = nL) (hown : s.vm.findClass own = some m.cls) (hts : ∀ w ∈ Ts, w.before args s = true) (hp : Hp G cI A s H locs wl)
    (hM : vx_Met l y wsY rmY Pc (va_Qv post (fun u t => zB G cI (va_A W0 H.size) (W1 u) t) (va_A W0 H.size)) (vx_X (fun _ => True) (fun X (u : SX) t => px X u ∧ zB G cI (va_A W0 H.size) (WX u) t) (va_A W0 H.size)) mc ms (va_A W0 H.size)) (hbl : FrameBlind Pc) (hpre : ∀ U : State, U.heap = H → s.WarmedH U.vm → Pc (Value.ref b :: As).toArray U)
    (cw : CallW R s args own C index y bytes maxL ret wsY rmY mc ms n) (isC isR ord : List Nat) (hC : isC.map (fun i => wl[i]?) = W0.map some) (hR : isR.map (fun i => wl[i]?) = wr.map some) (hk : va_nd isR = true ∧ (∀ i ∈ isR, i ∉ isC) ∧ va_nd ord = true) (hord : ∀ u : S, ord.map (fun i => (wr ++ W1 u)[i]?) = (wl2 u).map some) (hordX : ∀ u : SX, ord.map (fun i => (wr ++ WX u)[i]?) = (wlX u).map some)
    (q0 ci : Nat) {q : vw_C} {fs : List Value} (hc : vwCl[ci]? = some q) (he : wl[q0]? = some (b, .inr (ci, fs))) (hqC : q.1 = C) (hn : As.length = n) (hls : ls.size = nL) (hst : st0 = As.reverse ++ .ref b :: rest) (hW : (rest.map fun v => v.category).sum ≤ 8) (hdg : decode cc pc = .ok (.invokevirtual index, 3)) (hf : cells + mc ≤ R.cells ∧ slots + ms ≤ R.slots)
    (kx : ∀ (X : String) (ce : Cell) (q9 : Addr) (u : SX) (H1 : Heap) (locs1 : List Loc), px X u → Hp G cI A s H1 locs1 (wlX u) → H1[q9]? = some ce → ce.vm = .none → s.vm.findClass X = some ce.cls → vx_W p l e R s m args below meth c H1 locs1 (cells + mc) (slots + ms) Q (F0 m pc ls rest) q9)
    (kk : ∀ (u : S) (H1 : Heap) (locs1 : List Loc), post u → Hp G cI A s H1 locs1 (wl2 u) → W p l e R s m args below meth c H1 locs1 (cells + mc) (slots + ms) Q (F0 m (pc + 3) ls rest)) : W p l e R s m args below meth c H locs cells slots Q (F0 m pc ls st0) := by
  subst hqC
  have hFc := va_free hp.2.1 hp.2.2.1 hp.2.2.2.2 isC hC
  refine vx_callv (vx_runV (As := As) (rest := rest) ⟨hx, hb, hml, hown, hts⟩ hM cw ⟨hbl, va_recv hp.2.2.2.1 hp.1 hc he, hpre⟩ rfl hn hls hst (lv_room hW) hdg hf) hp.2.2.1 (fun q _ h => hFc q h) hFc (fun q _ h => hFc q h)
    (fun X ce q9 u t H1 locs1 ht hvm _ hB hz1 hk1 hS hce hcv hcl => kx X ce q9 u H1 locs1 hB.1 (z_after hp isC isR ord hC hR hk (hordX u) hB.2 ht hk1 hS) hce hcv hcl)
    (fun u t H1 locs1 ht hvm hw hB hz1 hk1 hS => kk u H1 locs1 hw (z_after hp isC isR ord hC hR hk (hord u) hB ht hk1 hS))
end ZK
end
section
abbrev oR (q : Nat) (th n : Int) (pr : Nat) (org ent kn gp ln : Int) (sr le tk di ri op me re : Nat) (pl st sp ou : Int) (ot : Nat) : Nat × va_E := (q, .inr (4, [.int (iZ th), .int (iZ n), .ref pr, .int (iZ org), .int (iZ ent), .int (iZ kn), .int (iZ gp), .int (iZ ln), .ref sr, .ref le, .ref tk, .ref di, .ref ri, .ref op, .ref me, .ref re, .int (iZ pl), .int (iZ st), .int (iZ sp), .int (iZ ou), .ref ot]))
theorem iZ_rem {a : Int} (h0 : 0 ≤ a) (h : a < 2147483648) (d : Nat) (hd0 : 0 < d) (hd : d < 2147483648) : iZ a - iZ a / iZ (d : Int) * iZ (d : Int) = iZ (a % (d : Int)) := by
  obtain ⟨k, rfl⟩ := Int.eq_ofNat_of_zero_le h0
  have e := pk_rem (a := k) (d := d) (by omega) hd0 (by omega)
  rw [← iZ_nI, ← iZ_nI, ← iZ_nI] at e
  rw [e, Int.natCast_emod]
section ZX
variable {p : Program} {l : Launch} {e : Env} {R : Room} {s : State} {m : MethodId} {args : Array Value} {below : List Frame} {meth : Method} {c : Code} {H : Heap} {locs : List Loc} {cells slots : Nat} {Q : State → Prop}
variable {cc : ByteArray} {pc : Nat} {ls : Array Slot} {rest : List Value} {G : va_G} {cI : ClassId} {A : Nat → Prop} {ws : va_W}
theorem z_irem (hx : p.tables.exec = Jvm.exec) (hb : c.code = cc) {a : Int} {d : Int} (z : Int) (hz : 0 ≤ a ∧ a < 2147483648 ∧ 0 < d ∧ d < 2147483648 ∧ z = a % d) (hdg : decode cc pc = .ok (.irem, 1)) (k : W p l e R s m args below meth c H locs cells slots Q (F0 m (pc + 1) ls (.int (iZ z) :: rest))) : W p l e R s m args below meth c H locs cells slots Q (F0 m pc ls (.int (iZ d) :: .int (iZ a) :: rest)) := by
  obtain ⟨h1, h2, h3, h4, rfl⟩ := hz
  obtain ⟨dn, rfl⟩ := Int.eq_ofNat_of_zero_le (show 0 ≤ d by omega)
  refine lv_irem hx hb hdg ?_ ?_
  · intro h
    have := (iZ_inj (b := 0) ⟨by omega, by omega⟩ ⟨by decide, by decide⟩).mp h
    omega
  · rw [iZ_rem h1 h2 dn (by omega) (by omega)]
    exact k
/-- the stub's row is read -/
theorem z_tab {t : Nat} (hx : p.tables.exec = Jvm.exec) (hb : c.code = cc) (hC : zC t A s s.heap) (hp : Hp G cI A s H locs ws) {i : Int} (k : Nat) (hk : i = k ∧ k < 60) (hdg : decode cc pc = .ok (.iaload, 1))
    (kk : W p l e R s m args below meth c H locs cells slots Q (F0 m (pc + 1) ls (.int (iZ (stubZ k)) :: rest))) : W p l e R s m args below meth c H locs cells slots Q (F0 m pc ls (.int (iZ i) :: .ref t :: rest)) :=
  va_ti hx hb hC.2.2.2 hp.2.2.1 (iZ_in hk.1 hk.2 (by omega)) (by rw [iZ_cl hk.1 (by omega)]) hdg kk
end ZX
/-! the machine, in numbers -/
def BB (f : Nat → Int) (n : Nat) : Prop := ∀ j, j < n → 0 ≤ f j ∧ f j < 256
theorem BB_up {f : Nat → Int} {n k : Nat} {v : Int} (h : BB f n) (hv : 0 ≤ v ∧ v < 256) : BB (upZ f k v) n := by
  intro j hj
  unfold upZ
  by_cases e : j = k
  · rw [if_pos e]; exact hv
  · rw [if_neg e]; exact h j hj
def zand (a b : Int) : Int := (iZ a &&& iZ b).toInt
def zshr (a b : Int) : Int := (iZ a >>> (iZ b &&& 31)).toInt
theorem zand_e (a b : Int) : iZ a &&& iZ b = iZ (zand a b) := (iZ_of _).symm
theorem zshr_e (a b : Int) : iZ a >>> (iZ b &&& 31) = iZ (zshr a b) := (iZ_of _).symm
theorem zand_b {a b : Int} (ha : 0 ≤ a ∧ a < 256) (hb : 0 ≤ b ∧ b < 256) : 0 ≤ zand a b ∧ zand a b < 256 := by
  have key : ∀ x : Nat, x < 256 → ∀ y : Nat, y < 256 → (iZ (x : Int) &&& iZ (y : Int)).toInt = ((x &&& y : Nat) : Int) ∧ (x &&& y) < 256 := by
    intro x hx y hy
    have h2 : x &&& y < 256 := Nat.lt_of_le_of_lt Nat.and_le_left hx
    refine ⟨?_, h2⟩
    have e : iZ (x : Int) &&& iZ (y : Int) = iZ ((x &&& y : Nat) : Int) := by
      rw [iZ_nI, iZ_nI, iZ_nI]
      apply Int32.toBitVec_inj.mp
      apply BitVec.eq_of_toNat_eq
      rw [Int32.toBitVec_and, BitVec.toNat_and, pk_tn (by omega), pk_tn (by omega), pk_tn (by omega)]
    rw [e, iZ_toInt (by omega) (by omega)]
  obtain ⟨x, rfl⟩ := Int.eq_ofNat_of_zero_le ha.1
  obtain ⟨y, rfl⟩ := Int.eq_ofNat_of_zero_le hb.1
  obtain ⟨h1, h2⟩ := key x (by omega) y (by omega)
  unfold zand
  rw [h1]
  omega
theorem zshr_k {a : Int} (ha : rg a) : ∀ b : Nat, b < 8 → zshr a b = a / 2 ^ b := by
  intro b hb
  unfold zshr
  have hs : (((iZ (b : Int)) &&& 31).toBitVec.smod 32).toNat = b := by
    rcases (show b = 0 ∨ b = 1 ∨ b = 2 ∨ b = 3 ∨ b = 4 ∨ b = 5 ∨ b = 6 ∨ b = 7 by omega) with h | h | h | h | h | h | h | h <;> subst h <;> decide
  have h1 := pk_shr (iZ a) (iZ (b : Int) &&& 31) b hs
  rw [h1, iZ_toInt ha.1 ha.2, Int.shiftRight_eq_div_pow]
  simp
theorem zshr_4 {a : Int} (ha : rg a) : iZ a >>> (iZ 4 &&& 31) = iZ (a / 16) := by
  rw [zshr_e]
  exact congrArg iZ (zshr_k ha 4 (by decide))
theorem zshr_b {a b : Int} (ha : 0 ≤ a ∧ a < 256) (hb : 0 ≤ b ∧ b < 8) : 0 ≤ zshr a b ∧ zshr a b < 256 := by
  obtain ⟨y, rfl⟩ := Int.eq_ofNat_of_zero_le hb.1
  rw [zshr_k ⟨by omega, by omega⟩ y (by omega)]
  have h2 : (0 : Int) < 2 ^ y := Int.pow_pos (by decide)
  have h3 : (0 : Int) ≤ a / 2 ^ y := Int.ediv_nonneg ha.1 (by omega)
  have h4 : a / 2 ^ y ≤ a := Int.ediv_le_self _ ha.1
  omega
/-- what a step of kind k makes, with r the register's number and y the second byte; pl is the place behind the step -/
def aVal (mem regs : Nat → Int) (k : Int) (r : Nat) (y : Int) : Int :=
  if k = 1 then y else if k = 2 then regs (y % 8).toNat else if k = 3 then (regs r + regs (y % 8).toNat) % 256 else if k = 4 then (regs r + y) % 256 else if k = 5 then mem (regs (y % 8).toNat).toNat else if k = 7 then (regs r - regs (y % 8).toNat) % 256 else if k = 12 then zand (regs r) (regs (y % 8).toNat) else zshr (regs r) (y % 8)
def aMem (mem regs : Nat → Int) (k : Int) (r : Nat) (y : Int) : Nat → Int := if k = 6 then upZ mem (regs (y % 8).toNat).toNat (regs r) else mem
def aRegs (mem regs : Nat → Int) (k : Int) (r : Nat) (y : Int) : Nat → Int := if (1 ≤ k ∧ k ≤ 5) ∨ k = 7 ∨ k = 12 ∨ k = 13 then upZ regs r (aVal mem regs k r y) else regs
def aKept (regs kept : Nat → Int) (k : Int) (r : Nat) (po : Int) : Nat → Int := if k = 14 then upZ kept (po % 32).toNat (regs r) else kept
def aPl (regs : Nat → Int) (k : Int) (r : Nat) (y pl : Int) : Int := if k = 8 then y else if k = 9 then (if regs r = 0 then y else pl) else if k = 10 then (if 127 < regs r then y else pl) else if k = 11 then regs r else pl
def aSt (k st : Int) : Int := if k = 0 then 1 else if k = 15 then 2 else st
def aPo (k po : Int) : Int := if k = 14 then po + 1 else po
theorem aVal_b {mem regs : Nat → Int} {k : Int} {r : Nat} {y : Int} (hm : BB mem 256) (hg : BB regs 8) (hr : r < 8) (hy : 0 ≤ y ∧ y < 256) : 0 ≤ aVal mem regs k r y ∧ aVal mem regs k r y < 256 := by
  have h1 := hg r hr
  have h2 := hg (y % 8).toNat (by omega)
  have h3 := hm (regs (y % 8).toNat).toNat (by omega)
  have h4 := zand_b h1 h2
  have h5 := zshr_b (b := y % 8) h1 (by omega)
  unfold aVal
  repeat' split
  all_goals omega
theorem aMem_b {mem regs : Nat → Int} {k : Int} {r : Nat} {y : Int} (hm : BB mem 256) (hg : BB regs 8) (hr : r < 8) : BB (aMem mem regs k r y) 256 := by
  unfold aMem
  split
  · exact BB_up hm (hg r hr)
  · exact hm
theorem aRegs_b {mem regs : Nat → Int} {k : Int} {r : Nat} {y : Int} (hm : BB mem 256) (hg : BB regs 8) (hr : r < 8) (hy : 0 ≤ y ∧ y < 256) : BB (aRegs mem regs k r y) 8 := by
  unfold aRegs
  split
  · exact BB_up hg (aVal_b hm hg hr hy)
  · exact hg
theorem aKept_b {regs kept : Nat → Int} {k : Int} {r : Nat} {po : Int} (hk : BB kept 32) (hg : BB regs 8) (hr : r < 8) : BB (aKept regs kept k r po) 32 := by
  unfold aKept
  split
  · exact BB_up hk (hg r hr)
  · exact hk
theorem aPl_b {regs : Nat → Int} {k : Int} {r : Nat} {y pl : Int} (hg : BB regs 8) (hr : r < 8) (hy : 0 ≤ y ∧ y < 256) (hp : 0 ≤ pl ∧ pl < 256) : 0 ≤ aPl regs k r y pl ∧ aPl regs k r y pl < 256 := by
  have h1 := hg r hr
  unfold aPl
  repeat' split
  all_goals omega
/-- the machine's numbers: memory, registers, what is kept, place, state, steps, how many were put out -/
abbrev MS : Type := (Nat → Int) × (Nat → Int) × (Nat → Int) × Int × Int × Int × Int
def mx (u : MS) : Int := u.1 u.2.2.2.1.toNat
def my (u : MS) : Int := u.1 ((u.2.2.2.1 + 1) % 256).toNat
def mstep (u : MS) : MS :=
  (aMem u.1 u.2.1 (mx u / 16) (mx u % 8).toNat (my u), aRegs u.1 u.2.1 (mx u / 16) (mx u % 8).toNat (my u), aKept u.2.1 u.2.2.1 (mx u / 16) (mx u % 8).toNat u.2.2.2.2.2.2, aPl u.2.1 (mx u / 16) (mx u % 8).toNat (my u) ((u.2.2.2.1 + 2) % 256), aSt (mx u / 16) u.2.2.2.2.1, u.2.2.2.2.2.1 + 1, aPo (mx u / 16) u.2.2.2.2.2.2)
/-- what is always so of them; b bounds the counters -/
def MB (u : MS) (b : Int) : Prop := BB u.1 256 ∧ BB u.2.1 8 ∧ BB u.2.2.1 32 ∧ (0 ≤ u.2.2.2.1 ∧ u.2.2.2.1 < 256) ∧ (0 ≤ u.2.2.2.2.1 ∧ u.2.2.2.2.1 ≤ 2) ∧ (0 ≤ u.2.2.2.2.2.1 ∧ u.2.2.2.2.2.1 ≤ b) ∧ (0 ≤ u.2.2.2.2.2.2 ∧ u.2.2.2.2.2.2 ≤ b)
theorem mstep_b {u : MS} {b : Int} (h : MB u b) : MB (mstep u) (b + 1) := by
  obtain ⟨mem, regs, kept, pl, st, sp, po⟩ := u
  obtain ⟨h1, h2, h3, h4, h5, h6, h7⟩ := h
  dsimp only at h1 h2 h3 h4 h5 h6 h7
  have hxb : 0 ≤ mem pl.toNat ∧ mem pl.toNat < 256 := h1 _ (by omega)
  have hyb : 0 ≤ mem ((pl + 1) % 256).toNat ∧ mem ((pl + 1) % 256).toNat < 256 := h1 _ (by omega)
  have hr : (mem pl.toNat % 8).toNat < 8 := by omega
  refine ⟨aMem_b h1 h2 hr, aRegs_b h1 h2 hr hyb, aKept_b h3 h2 hr, aPl_b h2 hr hyb (by omega), ?_, ?_, ?_⟩
  · show 0 ≤ aSt _ _ ∧ aSt _ _ ≤ 2
    unfold aSt
    repeat' split
    all_goals omega
  · show 0 ≤ sp + 1 ∧ sp + 1 ≤ b + 1
    omega
  · show 0 ≤ aPo _ po ∧ aPo _ po ≤ b + 1
    unfold aPo
    repeat' split
    all_goals omega
/-- at most n steps, as long as it runs and isn't there: how many, and the machine behind them -/
def mrun (til : Int) : Nat → MS → Nat × MS
  | 0, u => (0, u)
  | n + 1, u => if u.2.2.2.2.1 = 0 ∧ u.2.2.2.1 ≠ til then ((mrun til n (mstep u)).1 + 1, (mrun til n (mstep u)).2) else (0, u)
theorem mrun_le (til : Int) : ∀ (n : Nat) (u : MS), (mrun til n u).1 ≤ n := by
  intro n
  induction n with
  | zero => intro u; exact Nat.le_refl _
  | succ n ih =>
    intro u
    unfold mrun
    split
    · exact Nat.succ_le_succ (ih _)
    · exact Nat.zero_le _
theorem mrun_b (til : Int) : ∀ (n : Nat) (u : MS) (b : Int), MB u b → MB (mrun til n u).2 (b + n) := by
  intro n
  induction n with
  | zero => intro u b h; simpa [mrun] using h
  | succ n ih =>
    intro u b h
    unfold mrun
    split
    · have := ih (mstep u) (b + 1) (mstep_b h)
      have e : b + 1 + (n : Int) = b + ((n + 1 : Nat) : Int) := by omega
      rw [e] at this
      exact this
    · obtain ⟨h1, h2, h3, h4, h5, h6, h7⟩ := h
      exact ⟨h1, h2, h3, h4, h5, ⟨h6.1, Int.le_trans h6.2 (by omega)⟩, ⟨h7.1, Int.le_trans h7.2 (by omega)⟩⟩
def rVal (mem : Nat → Int) (k v q y : Int) : Int := if k = 1 then y else if k = 2 then q else if k = 3 then v + q else if k = 4 then v + y else if k = 5 then mem q.toNat else if k = 7 then v - q else if k = 12 then zand v q else zshr v (y % 8)
def jPl (k v y pl : Int) : Int := if k = 11 then v else if k = 8 ∨ (k = 9 ∧ v = 0) ∨ (k = 10 ∧ 127 < v) then y else pl
theorem rVal_m {mem regs : Nat → Int} {k : Int} {r : Nat} {y : Int} (hk : (1 ≤ k ∧ k ≤ 5) ∨ k = 7 ∨ k = 12 ∨ k = 13) (hm : BB mem 256) (hg : BB regs 8) (hr : r < 8) (hy : 0 ≤ y ∧ y < 256) : rVal mem k (regs r) (regs (y % 8).toNat) y % 256 = aVal mem regs k r y := by
  have h1 := hg r hr
  have h2 := hg (y % 8).toNat (by omega)
  have h3 := hm (regs (y % 8).toNat).toNat (by omega)
  have h4 := zand_b h1 h2
  have h5 := zshr_b (b := y % 8) h1 (by omega)
  unfold rVal aVal
  repeat' split
  all_goals omega
end
section
/-! the stub -/
theorem stubZ_b (k : Nat) : 0 ≤ stubZ k ∧ stubZ k < 256 := by
  have h : ∀ k, k < 60 → 0 ≤ stubZ k ∧ stubZ k < 256 := by decide +kernel
  by_cases hk : k < 60
  · exact h k hk
  · have e : stubZ k = 0 := by
      unfold stubZ
      rw [List.getD_eq_getElem?_getD, List.getElem?_eq_none (by show 60 ≤ k; omega)]
      rfl
    omega
/-- the stub's bytes for a stub that lies at the address stub, but three of them -/
def stubS (stub : Nat) (b : Nat) : Int := if b % 2 = 0 then stubZ b else (stubZ b + (if 128 ≤ stubZ (b - 1) then (stub : Int) else 0)) % 256
def stubV (stub : Nat) (start org ent : Int) (b : Nat) : Int := if b = 1 then start else if b = 3 then org else if b = 59 then ent else stubS stub b
def stubRow (mem : Nat → Int) (stub : Nat) (start org ent : Int) : Nat → Int := fun j => if stub ≤ j ∧ j < stub + 60 then stubV stub start org ent (j - stub) else mem j
theorem stub_step {mem f : Nat → Int} {stub i : Nat} {v : Int} (he : i % 2 = 0) (hv : v = if 128 ≤ stubZ i then (stub : Int) else 0) (h : ∀ j, f j = if stub ≤ j ∧ j < stub + i then stubS stub (j - stub) else mem j) :
    ∀ j, upZ (upZ f (stub + i) (stubZ i)) (stub + i + 1) ((stubZ (i + 1) + v) % 256) j = if stub ≤ j ∧ j < stub + (i + 2) then stubS stub (j - stub) else mem j := by
  intro j
  unfold upZ
  by_cases h1 : j = stub + i + 1
  · rw [if_pos h1, if_pos (by omega), show j - stub = i + 1 by omega]
    unfold stubS
    rw [if_neg (by omega), Nat.add_sub_cancel, hv]
  · rw [if_neg h1]
    by_cases h2 : j = stub + i
    · rw [if_pos h2, if_pos (by omega), show j - stub = i by omega]
      unfold stubS
      rw [if_pos he]
    · rw [if_neg h2, h j]
      by_cases h3 : stub ≤ j ∧ j < stub + i
      · rw [if_pos h3, if_pos (by omega)]
      · rw [if_neg h3, if_neg (by omega)]
theorem stub_end {mem f : Nat → Int} {stub : Nat} {start org ent : Int} (h : ∀ j, f j = if stub ≤ j ∧ j < stub + 60 then stubS stub (j - stub) else mem j) (j : Nat) :
    stubRow mem stub start org ent j = upZ (upZ (upZ f (stub + 1) start) (stub + 3) org) (stub + 59) ent j := by
  unfold stubRow stubV upZ
  by_cases h0 : stub ≤ j ∧ j < stub + 60
  · rw [if_pos h0]
    by_cases h1 : j = stub + 59
    · rw [if_pos h1, if_neg (by omega), if_neg (by omega), if_pos (by omega)]
    · rw [if_neg h1]
      by_cases h2 : j = stub + 3
      · rw [if_pos h2, if_neg (by omega), if_pos (by omega)]
      · rw [if_neg h2]
        by_cases h3 : j = stub + 1
        · rw [if_pos h3, if_pos (by omega)]
        · rw [if_neg h3, if_neg (by omega), if_neg (by omega), if_neg (by omega), h j, if_pos h0]
  · rw [if_neg h0, if_neg (by omega), if_neg (by omega), if_neg (by omega), h j, if_neg h0]
/-! a stream is unpacked -/
/-- k bytes behind the first g, each the one that stands d before -/
def cpy1 (op : Nat → Int) (g d : Nat) : Nat → (Nat → Int)
  | 0 => op
  | k + 1 => upZ (cpy1 op g d k) (g + k) (cpy1 op g d k (g + k - d))
/-- from the place rd of the stream on, with gr bytes made: what is wrong (0: nothing), how many bytes, and the bytes -/
def unp (pb : Nat → Int) (n : Nat) : Nat → Nat → Nat → (Nat → Int) → Int × Nat × (Nat → Int)
  | 0, _, gr, op => (0, gr, op)
  | f + 1, rd, gr, op =>
    if rd < n ∧ pb rd ≠ 0 then
      if pb rd < 128 then
        if n - rd - 1 < (pb rd).toNat then (1, gr, op) else if 160 - gr < (pb rd).toNat then (4, gr, op) else unp pb n f (rd + 1 + (pb rd).toNat) (gr + (pb rd).toNat) (cpZ pb op (rd + 1) gr (pb rd).toNat)
      else if n ≤ rd + 1 then (1, gr, op) else if pb (rd + 1) = 0 ∨ gr < (pb (rd + 1)).toNat then (3, gr, op) else if 160 - gr < (pb rd).toNat - 126 then (4, gr, op) else unp pb n f (rd + 2) (gr + ((pb rd).toNat - 126)) (cpy1 op gr (pb (rd + 1)).toNat ((pb rd).toNat - 126))
    else if n ≤ rd then (1, gr, op) else if rd < n - 1 then (2, gr, op) else (0, gr, op)
theorem unp_run {pb : Nat → Int} {n f rd gr : Nat} {op : Nat → Int} (h1 : rd < n) (h2 : pb rd ≠ 0) (h3 : pb rd < 128) : unp pb n (f + 1) rd gr op = if n - rd - 1 < (pb rd).toNat then (1, gr, op) else if 160 - gr < (pb rd).toNat then (4, gr, op) else unp pb n f (rd + 1 + (pb rd).toNat) (gr + (pb rd).toNat) (cpZ pb op (rd + 1) gr (pb rd).toNat) := by
  rw [unp, if_pos ⟨h1, h2⟩, if_pos h3]
theorem unp_cpy {pb : Nat → Int} {n f rd gr : Nat} {op : Nat → Int} (h1 : rd < n) (h2 : pb rd ≠ 0) (h3 : ¬ pb rd < 128) : unp pb n (f + 1) rd gr op = if n ≤ rd + 1 then (1, gr, op) else if pb (rd + 1) = 0 ∨ gr < (pb (rd + 1)).toNat then (3, gr, op) else if 160 - gr < (pb rd).toNat - 126 then (4, gr, op) else unp pb n f (rd + 2) (gr + ((pb rd).toNat - 126)) (cpy1 op gr (pb (rd + 1)).toNat ((pb rd).toNat - 126)) := by
  rw [unp, if_pos ⟨h1, h2⟩, if_neg h3]
theorem unp_end {pb : Nat → Int} {n f rd gr : Nat} {op : Nat → Int} (h1 : ¬ (rd < n ∧ pb rd ≠ 0)) : unp pb n (f + 1) rd gr op = if n ≤ rd then (1, gr, op) else if rd < n - 1 then (2, gr, op) else (0, gr, op) := by
  rw [unp, if_neg h1]
def unpX (c : Int) : String := if c = 1 then nNS else if c = 2 then nIS else if c = 3 then nIA else nUO
theorem cpy1_b {op : Nat → Int} {g d : Nat} : ∀ (k : Nat) {N : Nat}, BB op N → g + k ≤ N → BB (cpy1 op g d k) N := by
  intro k
  induction k with
  | zero => intro N h _; exact h
  | succ k ih =>
    intro N h hk
    have h1 := ih h (by omega)
    exact BB_up h1 (h1 _ (by omega))
theorem cpZ_b {f g : Nat → Int} {sp dp n N M : Nat} (hf : BB f N) (hg : BB g M) (h : sp + n ≤ N) : BB (cpZ f g sp dp n) M := by
  intro j hj
  unfold cpZ
  by_cases e : dp ≤ j ∧ j < dp + n
  · rw [if_pos e]; exact hf _ (by omega)
  · rw [if_neg e]; exact hg j hj
theorem unp_b {pb : Nat → Int} {n : Nat} (hn : n ≤ 160) (hb : BB pb 160) : ∀ (f rd gr : Nat) (op : Nat → Int), gr ≤ 160 → BB op 160 → (unp pb n f rd gr op).2.1 ≤ 160 ∧ BB (unp pb n f rd gr op).2.2 160 := by
  intro f
  induction f with
  | zero => intro rd gr op h1 h2; exact ⟨h1, h2⟩
  | succ f ih =>
    intro rd gr op h1 h2
    rw [unp]
    by_cases c1 : rd < n ∧ pb rd ≠ 0
    · rw [if_pos c1]
      by_cases c2 : pb rd < 128
      · rw [if_pos c2]
        by_cases c3 : n - rd - 1 < (pb rd).toNat
        · rw [if_pos c3]; exact ⟨h1, h2⟩
        · rw [if_neg c3]
          by_cases c4 : 160 - gr < (pb rd).toNat
          · rw [if_pos c4]; exact ⟨h1, h2⟩
          · rw [if_neg c4]
            exact ih _ _ _ (by omega) (cpZ_b hb h2 (by omega))
      · rw [if_neg c2]
        by_cases c3 : n ≤ rd + 1
        · rw [if_pos c3]; exact ⟨h1, h2⟩
        · rw [if_neg c3]
          by_cases c4 : pb (rd + 1) = 0 ∨ gr < (pb (rd + 1)).toNat
          · rw [if_pos c4]; exact ⟨h1, h2⟩
          · rw [if_neg c4]
            by_cases c5 : 160 - gr < (pb rd).toNat - 126
            · rw [if_pos c5]; exact ⟨h1, h2⟩
            · rw [if_neg c5]
              exact ih _ _ _ (by omega) (cpy1_b _ h2 (by omega))
    · rw [if_neg c1]
      by_cases c2 : n ≤ rd
      · rw [if_pos c2]; exact ⟨h1, h2⟩
      · rw [if_neg c2]
        by_cases c3 : rd < n - 1
        · rw [if_pos c3]; exact ⟨h1, h2⟩
        · rw [if_neg c3]; exact ⟨h1, h2⟩
/-- rows that agree as far as they are made -/
def ag (f g : Nat → Int) (n : Nat) : Prop := ∀ j, j < n → f j = g j
theorem cpy1_ag {f g : Nat → Int} {n d : Nat} (hd : 0 < d) (hdn : d ≤ n) (h : ag f g n) : ∀ k, ag (cpy1 f n d k) (cpy1 g n d k) (n + k) := by
  intro k
  induction k with
  | zero => exact h
  | succ k ih =>
    intro j hj
    show upZ _ _ _ j = upZ _ _ _ j
    unfold upZ
    by_cases e : j = n + k
    · rw [if_pos e, if_pos e]; exact ih _ (by omega)
    · rw [if_neg e, if_neg e]; exact ih j (by omega)
theorem unp_ag {pb : Nat → Int} {n : Nat} (hb : ∀ j, j < n → 0 ≤ pb j) : ∀ (f rd gr : Nat) (op op' : Nat → Int), ag op op' gr → (unp pb n f rd gr op).1 = (unp pb n f rd gr op').1 ∧ (unp pb n f rd gr op).2.1 = (unp pb n f rd gr op').2.1 ∧ ag (unp pb n f rd gr op).2.2 (unp pb n f rd gr op').2.2 (unp pb n f rd gr op).2.1 := by
  intro f
  induction f with
  | zero => intro rd gr op op' h; exact ⟨rfl, rfl, h⟩
  | succ f ih =>
    intro rd gr op op' h
    rw [unp, unp]
    by_cases c1 : rd < n ∧ pb rd ≠ 0
    · rw [if_pos c1, if_pos c1]
      by_cases c2 : pb rd < 128
      · rw [if_pos c2, if_pos c2]
        by_cases c3 : n - rd - 1 < (pb rd).toNat
        · rw [if_pos c3, if_pos c3]; exact ⟨rfl, rfl, h⟩
        · rw [if_neg c3, if_neg c3]
          by_cases c4 : 160 - gr < (pb rd).toNat
          · rw [if_pos c4, if_pos c4]; exact ⟨rfl, rfl, h⟩
          · rw [if_neg c4, if_neg c4]
            refine ih _ _ _ _ (fun j hj => ?_)
            unfold cpZ
            by_cases e : gr ≤ j ∧ j < gr + (pb rd).toNat
            · rw [if_pos e, if_pos e]
            · rw [if_neg e, if_neg e]; exact h j (by omega)
      · rw [if_neg c2, if_neg c2]
        by_cases c3 : n ≤ rd + 1
        · rw [if_pos c3, if_pos c3]; exact ⟨rfl, rfl, h⟩
        · rw [if_neg c3, if_neg c3]
          by_cases c4 : pb (rd + 1) = 0 ∨ gr < (pb (rd + 1)).toNat
          · rw [if_pos c4, if_pos c4]; exact ⟨rfl, rfl, h⟩
          · rw [if_neg c4, if_neg c4]
            by_cases c5 : 160 - gr < (pb rd).toNat - 126
            · rw [if_pos c5, if_pos c5]; exact ⟨rfl, rfl, h⟩
            · rw [if_neg c5, if_neg c5]
              have c7 := hb (rd + 1) (by omega)
              exact ih _ _ _ _ (cpy1_ag (by omega) (by omega) h _)
    · rw [if_neg c1, if_neg c1]
      by_cases c2 : n ≤ rd
      · rw [if_pos c2, if_pos c2]; exact ⟨rfl, rfl, h⟩
      · rw [if_neg c2, if_neg c2]
        by_cases c3 : rd < n - 1
        · rw [if_pos c3, if_pos c3]; exact ⟨rfl, rfl, h⟩
        · rw [if_neg c3, if_neg c3]; exact ⟨rfl, rfl, h⟩
end
section
/-! the stream of a program: how far a distance is right, the best token, the least numbers of bytes -/
def alk (pb : Nat → Int) (n : Nat) : Nat → Nat → Nat
  | 0, _ => 0
  | k + 1, d => if d ≤ n - (k + 1) ∧ pb (n - (k + 1)) = pb (n - (k + 1) - d) then alk pb n k d + 1 else 0
/-- how many bytes from i on are as those d before them -/
def al (pb : Nat → Int) (n i d : Nat) : Nat := alk pb n (n - i) d
theorem al_n (pb : Nat → Int) (n d : Nat) : al pb n n d = 0 := by unfold al; rw [Nat.sub_self]; rfl
theorem al_s {pb : Nat → Int} {n i : Nat} (d : Nat) (hi : i < n) : al pb n i d = if d ≤ i ∧ pb i = pb (i - d) then al pb n (i + 1) d + 1 else 0 := by
  unfold al
  obtain ⟨k, hk⟩ : ∃ k, n - i = k + 1 := ⟨n - i - 1, by omega⟩
  rw [hk, alk, show n - (k + 1) = i by omega, show n - (i + 1) = k by omega]
theorem al_le {pb : Nat → Int} {n d : Nat} : ∀ (k i : Nat), i + k = n → al pb n i d ≤ k := by
  intro k
  induction k with
  | zero => intro i h; rw [show i = n by omega, al_n]; exact Nat.le_refl _
  | succ k ih =>
    intro i h
    rw [al_s d (by omega)]
    have := ih (i + 1) (by omega)
    split <;> omega
def ca (pb : Nat → Int) (n i d : Nat) : Nat := min (al pb n i d) 129
/-- the best copy at i out of the distances below D: m bytes from x before, or none (0, 0) -/
def FCp (pb : Nat → Int) (n i D m x : Nat) : Prop :=
  (m = 0 ∧ x = 0 ∧ ∀ d, 1 ≤ d → d < D → ca pb n i d ≤ 1) ∨ (2 ≤ m ∧ 1 ≤ x ∧ x < D ∧ ca pb n i x = m ∧ (∀ d, 1 ≤ d → d < D → ca pb n i d ≤ m) ∧ ∀ d, 1 ≤ d → d < x → ca pb n i d < m)
def FC (pb : Nat → Int) (n i m x : Nat) : Prop := FCp pb n i (i + 1) m x
theorem FCp_1 (pb : Nat → Int) (n i : Nat) : FCp pb n i 1 0 0 := Or.inl ⟨rfl, rfl, fun d h1 h2 => by omega⟩
theorem FCp_up {pb : Nat → Int} {n i D m x : Nat} (hD : 1 ≤ D) (h : FCp pb n i D m x) (h1 : 1 < ca pb n i D) (h2 : m < ca pb n i D) : FCp pb n i (D + 1) (ca pb n i D) D := by
  refine Or.inr ⟨h1, hD, by omega, rfl, fun d e1 e2 => ?_, fun d e1 e2 => ?_⟩
  · by_cases e : d = D
    · subst e; exact Nat.le_refl _
    · rcases h with ⟨-, -, h⟩ | ⟨-, -, -, -, h, -⟩
      · have := h d e1 (by omega); omega
      · have := h d e1 (by omega); omega
  · rcases h with ⟨-, -, h⟩ | ⟨-, -, -, -, h, -⟩
    · have := h d e1 (by omega); omega
    · have := h d e1 (by omega); omega
theorem FCp_keep {pb : Nat → Int} {n i D m x : Nat} (h : FCp pb n i D m x) (h1 : ¬ (1 < ca pb n i D ∧ m < ca pb n i D)) : FCp pb n i (D + 1) m x := by
  rcases h with ⟨e1, e2, h⟩ | ⟨g1, g2, g3, g4, h, g5⟩
  · refine Or.inl ⟨e1, e2, fun d q1 q2 => ?_⟩
    by_cases e : d = D
    · subst e; omega
    · exact h d q1 (by omega)
  · refine Or.inr ⟨g1, g2, by omega, g4, fun d q1 q2 => ?_, g5⟩
    by_cases e : d = D
    · subst e; omega
    · exact h d q1 (by omega)
theorem FC_one {pb : Nat → Int} {n i m x m' x' : Nat} (h : FC pb n i m x) (h' : FC pb n i m' x') : m = m' ∧ x = x' := by
  rcases h with ⟨rfl, rfl, h⟩ | ⟨g1, g2, g3, g4, h, g5⟩ <;> rcases h' with ⟨rfl, rfl, h'⟩ | ⟨k1, k2, k3, k4, h', k5⟩
  · exact ⟨rfl, rfl⟩
  · have := h x' k2 k3; omega
  · have := h' x g2 g3; omega
  · have a1 := h x' k2 k3
    have a2 := h' x g2 g3
    have e : m = m' := by omega
    refine ⟨e, ?_⟩
    rcases Nat.lt_trichotomy x x' with q | q | q
    · have := k5 x g2 q; omega
    · exact q
    · have := g5 x' k2 q; omega
theorem FC_le {pb : Nat → Int} {n i m x : Nat} (hi : i < n) (h : FC pb n i m x) : i + m ≤ n ∧ m ≤ 129 ∧ x ≤ i := by
  rcases h with ⟨rfl, rfl, -⟩ | ⟨-, -, g3, g4, -, -⟩
  · omega
  · have := al_le (pb := pb) (n := n) (d := x) (n - i) i (by omega)
    unfold ca at g4
    omega
/-- the token at i, M bytes, D the distance (0 of a run), c bytes of stream from i on, where C says how many from later places on -/
def PSi (pb : Nat → Int) (n : Nat) (C : Nat → Int) (i : Nat) (M D c : Int) : Prop :=
  ∃ m x : Nat, FC pb n i m x ∧
    ((2 ≤ m ∧ M = m ∧ D = x ∧ c = 2 + C (i + m) ∧ ∀ t : Nat, 1 ≤ t → t ≤ 127 → i + t ≤ n → c ≤ 1 + t + C (i + t)) ∨
    (D = 0 ∧ ∃ r : Nat, M = r ∧ 1 ≤ r ∧ r ≤ 127 ∧ i + r ≤ n ∧ c = 1 + r + C (i + r) ∧ (∀ t : Nat, 1 ≤ t → t ≤ 127 → i + t ≤ n → c ≤ 1 + t + C (i + t)) ∧ (∀ t : Nat, 1 ≤ t → t < r → c < 1 + t + C (i + t)) ∧ (2 ≤ m → c < 2 + C (i + m))))
/-- the tokens from k on -/
def PS (pb : Nat → Int) (n : Nat) (C M D : Nat → Int) (k : Nat) : Prop := C n = 1 ∧ ∀ j, k ≤ j → j < n → PSi pb n C j (M j) (D j) (C j)
theorem PSi_cong {pb : Nat → Int} {n i : Nat} {C C' : Nat → Int} {M D c : Int} (h : ∀ j, i < j → j ≤ n → C j = C' j) (hi : i < n) (hp : PSi pb n C i M D c) : PSi pb n C' i M D c := by
  obtain ⟨m, x, hf, hp⟩ := hp
  have hm := FC_le hi hf
  refine ⟨m, x, hf, ?_⟩
  rcases hp with ⟨h1, h2, h3, h4, h5⟩ | ⟨h1, r, h2, h3, h4, h5, h6, h7, h8, h9⟩
  · refine Or.inl ⟨h1, h2, h3, by rw [h4, h _ (by omega) (by omega)], fun t e1 e2 e3 => ?_⟩
    rw [← h _ (by omega) e3]; exact h5 t e1 e2 e3
  · refine Or.inr ⟨h1, r, h2, h3, h4, h5, by rw [h6, h _ (by omega) (by omega)], fun t e1 e2 e3 => ?_, fun t e1 e2 => ?_, fun e => ?_⟩
    · rw [← h _ (by omega) e3]; exact h7 t e1 e2 e3
    · rw [← h _ (by omega) (by omega)]; exact h8 t e1 e2
    · rw [← h _ (by omega) (by omega)]; exact h9 e
theorem PSi_le {pb : Nat → Int} {n i : Nat} {C : Nat → Int} {M D c : Int} (hi : i < n) (h : PSi pb n C i M D c) : ∀ t : Nat, 1 ≤ t → t ≤ 127 → i + t ≤ n → c ≤ 1 + t + C (i + t) := by
  obtain ⟨m, x, hf, ⟨-, -, -, -, h5⟩ | ⟨-, r, -, -, -, -, -, h7, -, -⟩⟩ := h
  · exact h5
  · exact h7
theorem PSi_cp {pb : Nat → Int} {n i m x : Nat} {C : Nat → Int} {M D c : Int} (h : PSi pb n C i M D c) (hf : FC pb n i m x) (hm : 2 ≤ m) : c ≤ 2 + C (i + m) := by
  obtain ⟨m', x', hf', hp⟩ := h
  obtain ⟨rfl, rfl⟩ := FC_one hf hf'
  rcases hp with ⟨h1, h2, h3, h4, h5⟩ | ⟨h1, r, h2, h3, h4, h5, h6, h7, h8, h9⟩
  · omega
  · have := h9 hm; omega
theorem PSi_r {pb : Nat → Int} {n i : Nat} {C : Nat → Int} {M D c : Int} (hi : i < n) (h : PSi pb n C i M D c) : 1 ≤ M ∧ (i : Int) + M ≤ n ∧ M ≤ 129 ∧ 0 ≤ D ∧ D ≤ i ∧ (D = 0 → M ≤ 127 ∧ c = 1 + M + C (i + M.toNat)) ∧ (D ≠ 0 → 2 ≤ M ∧ c = 2 + C (i + M.toNat)) := by
  obtain ⟨m, x, hf, hp⟩ := h
  have hm := FC_le hi hf
  rcases hp with ⟨h1, rfl, rfl, h4, h5⟩ | ⟨rfl, r, rfl, h3, h4, h5, h6, h7, h8, h9⟩
  · have hx : 1 ≤ x := by
      rcases hf with ⟨e1, e2, -⟩ | ⟨-, q, -⟩
      · omega
      · exact q
    refine ⟨by omega, by omega, by omega, by omega, by omega, fun e => by omega, fun _ => ⟨by omega, h4⟩⟩
  · exact ⟨by omega, by omega, by omega, by omega, by omega, fun _ => ⟨by omega, h6⟩, fun e => absurd rfl e⟩
/-- what lies later costs no more -/
theorem PS_mono {pb : Nat → Int} {n : Nat} {C M D : Nat → Int} {k : Nat} (h : PS pb n C M D k) : ∀ (q j : Nat), j + q = n → k ≤ j → ∀ a b, j ≤ a → a ≤ b → b ≤ n → 1 ≤ C b ∧ C b ≤ C a := by
  intro q
  induction q with
  | zero =>
    intro j hj hk a b h1 h2 h3
    have e : a = n := by omega
    have e2 : b = n := by omega
    subst e; subst e2
    exact ⟨by rw [h.1]; decide, Int.le_refl _⟩
  | succ q ih =>
    intro j hj hk
    have i2 := ih (j + 1) (by omega) (by omega)
    have hp := h.2 j hk (by omega)
    have key : C (j + 1) ≤ C j := by
      obtain ⟨m, x, hf, hp⟩ := hp
      have hm := FC_le (by omega) hf
      rcases hp with ⟨h1, h2, h3, h4, h5⟩ | ⟨h1, r, h2, h3, h4, h5, h6, h7, h8, h9⟩
      · by_cases hjn : j + 1 = n
        · have e1 := (i2 (j + 1) (j + m) (by omega) (by omega) (by omega)).1
          have e2 := h.1
          rw [← hjn] at e2
          omega
        · have hp1 := h.2 (j + 1) (by omega) (by omega)
          by_cases hm3 : m = 2
          · have e2 := PSi_le (by omega) hp1 1 (by omega) (by omega) (by omega)
            rw [hm3] at h4
            have e3 : C (j + 1 + 1) = C (j + 2) := rfl
            omega
          · obtain ⟨m1, x1, hf1, -⟩ := id hp1
            have hx : x ≤ j + 1 ∧ 1 ≤ x ∧ ca pb n j x = m := by
              rcases hf with ⟨e1, e2, -⟩ | ⟨-, q1, q2, q3, -⟩
              · omega
              · exact ⟨by omega, q1, q3⟩
            have hca : m - 1 ≤ ca pb n (j + 1) x := by
              have e2 := al_s (pb := pb) (n := n) (i := j) x (by omega)
              unfold ca at hx ⊢
              split at e2 <;> omega
            have hm1 : m - 1 ≤ m1 := by
              rcases hf1 with ⟨e1, e2, e3⟩ | ⟨-, -, -, -, e3, -⟩
              · have := e3 x hx.2.1 (by omega); omega
              · have := e3 x hx.2.1 (by omega); omega
            have e4 := PSi_cp hp1 hf1 (by omega)
            have hm1' := FC_le (by omega) hf1
            have e5 := (i2 (j + m) (j + 1 + m1) (by omega) (by omega) (by omega)).2
            omega
      · by_cases hr1 : r = 1
        · subst hr1
          omega
        · by_cases hjn : j + 1 = n
          · omega
          · have hp1 := h.2 (j + 1) (by omega) (by omega)
            have e2 := PSi_le (by omega) hp1 (r - 1) (by omega) (by omega) (by omega)
            rw [show j + 1 + (r - 1) = j + r by omega] at e2
            omega
    intro a b h1 h2 h3
    by_cases e : a = j
    · subst e
      by_cases e2 : b = a
      · subst e2
        have := i2 (b + 1) (b + 1) (by omega) (by omega) (by omega)
        exact ⟨by omega, Int.le_refl _⟩
      · have e3 := i2 (a + 1) b (by omega) (by omega) h3
        exact ⟨e3.1, by omega⟩
    · exact i2 a b (by omega) h2 h3
theorem PS_mo {pb : Nat → Int} {n : Nat} {C M D : Nat → Int} {k : Nat} (h : PS pb n C M D k) {a b : Nat} (h1 : k ≤ a) (h2 : a ≤ b) (h3 : b ≤ n) : 1 ≤ C b ∧ C b ≤ C a := PS_mono h (n - a) a (by omega) h1 a b (Nat.le_refl _) h2 h3
theorem PS_up {pb : Nat → Int} {n : Nat} {C M D : Nat → Int} {k : Nat} (h : PS pb n C M D k) : ∀ (q j : Nat), j + q = n → k ≤ j → C j ≤ 2 * (q : Int) + 1 := by
  intro q
  induction q with
  | zero =>
    intro j hj hk
    have e : j = n := by omega
    subst e
    rw [h.1]; omega
  | succ q ih =>
    intro j hj hk
    have e1 := ih (j + 1) (by omega) (by omega)
    have e2 := PSi_le (by omega) (h.2 j hk (by omega)) 1 (by omega) (by omega) (by omega)
    omega
/-- at most 163 bytes, where there are at most 160 -/
theorem PS_163 {pb : Nat → Int} {n : Nat} {C M D : Nat → Int} (hn : n ≤ 160) (h : PS pb n C M D 0) : C 0 ≤ 163 ∧ (n = 0 → C 0 = 1) := by
  have key : ∀ j, j < n → n - j ≤ 127 → C j ≤ (n - j : Nat) + 2 := by
    intro j h1 h2
    have e := PSi_le h1 (h.2 j (by omega) h1) (n - j) (by omega) h2 (by omega)
    rw [show j + (n - j) = n by omega, h.1] at e
    omega
  refine ⟨?_, fun e => by subst e; exact h.1⟩
  by_cases h0 : n = 0
  · subst h0; rw [h.1]; decide
  · by_cases h1 : n ≤ 127
    · have := key 0 (by omega) (by omega); omega
    · have e := PSi_le (i := 0) (by omega) (h.2 0 (by omega) (by omega)) 127 (by omega) (by omega) (by omega)
      by_cases h2 : n = 127
      · omega
      · have := key (0 + 127) (by omega) (by omega); omega
/-- the numbers and tokens are one -/
theorem PS_one {pb : Nat → Int} {n : Nat} {C M D C' M' D' : Nat → Int} (h : PS pb n C M D 0) (h' : PS pb n C' M' D' 0) : ∀ (q j : Nat), j + q = n → C j = C' j ∧ (j < n → M j = M' j ∧ D j = D' j) := by
  intro q
  induction q using Nat.strongRecOn with
  | ind q ih =>
    intro j hj
    by_cases hjn : j = n
    · subst hjn
      exact ⟨by rw [h.1, h'.1], fun e => absurd e (Nat.lt_irrefl _)⟩
    · have hC : ∀ i, j < i → i ≤ n → C i = C' i := fun i h1 h2 => (ih (n - i) (by omega) i (by omega)).1
      have p := h.2 j (by omega) (by omega)
      have p' := PSi_cong (fun i h1 h2 => (hC i h1 h2).symm) (by omega) (h'.2 j (by omega) (by omega))
      obtain ⟨m, x, hf, hp⟩ := p
      obtain ⟨m', x', hf', hp'⟩ := p'
      obtain ⟨rfl, rfl⟩ := FC_one hf hf'
      rcases hp with ⟨h1, h2, h3, h4, h5⟩ | ⟨h1, r, h2, h3, h4, h5, h6, h7, h8, h9⟩ <;> rcases hp' with ⟨k1, k2, k3, k4, k5⟩ | ⟨k1, r', k2, k3, k4, k5, k6, k7, k8, k9⟩
      · exact ⟨by omega, fun _ => ⟨by omega, by omega⟩⟩
      · have a1 := k9 h1
        have a2 := h5 r' k3 k4 k5
        omega
      · have a1 := h9 k1
        have a2 := k5 r h3 h4 h5
        omega
      · have e : r = r' := by
          rcases Nat.lt_trichotomy r r' with q | q | q
          · have a1 := k8 r h3 q
            have a2 := h7 r' k3 k4 k5
            omega
          · exact q
          · have a1 := h8 r' k3 q
            have a2 := k7 r h3 h4 h5
            omega
        subst e
        exact ⟨by omega, fun _ => ⟨by omega, by omega⟩⟩
/-! the stream is written -/
/-- from the place gr of the program on, rd bytes being written: how many are written, the row, the gap -/
def wst (pb M D : Nat → Int) (n : Nat) (c : Int) : Nat → Nat → Nat → (Nat → Int) → Int → Nat × (Nat → Int) × Int
  | 0, _, rd, row, gp => (rd, row, gp)
  | f + 1, gr, rd, row, gp =>
    if gr < n then
      if 0 < D gr then wst pb M D n c f (gr + (M gr).toNat) (rd + 2) (upZ (upZ row rd (M gr + 126)) (rd + 1) (D gr)) (max gp ((gr : Int) + M gr - n + c - ((rd : Int) + 2)))
      else wst pb M D n c f (gr + (M gr).toNat) (rd + 1 + (M gr).toNat) (cpZ pb (upZ row rd (M gr)) gr (rd + 1) (M gr).toNat) (max gp ((gr : Int) + M gr - n + c - ((rd : Int) + 1 + M gr)))
    else (rd, row, gp)
theorem wst_c {pb M D : Nat → Int} {n : Nat} {c : Int} {f gr rd : Nat} {row : Nat → Int} {gp : Int} (h1 : gr < n) (h2 : 0 < D gr) : wst pb M D n c (f + 1) gr rd row gp = wst pb M D n c f (gr + (M gr).toNat) (rd + 2) (upZ (upZ row rd (M gr + 126)) (rd + 1) (D gr)) (max gp ((gr : Int) + M gr - n + c - ((rd : Int) + 2))) := by rw [wst, if_pos h1, if_pos h2]
theorem wst_r {pb M D : Nat → Int} {n : Nat} {c : Int} {f gr rd : Nat} {row : Nat → Int} {gp : Int} (h1 : gr < n) (h2 : ¬ 0 < D gr) : wst pb M D n c (f + 1) gr rd row gp = wst pb M D n c f (gr + (M gr).toNat) (rd + 1 + (M gr).toNat) (cpZ pb (upZ row rd (M gr)) gr (rd + 1) (M gr).toNat) (max gp ((gr : Int) + M gr - n + c - ((rd : Int) + 1 + M gr))) := by rw [wst, if_pos h1, if_neg h2]
theorem wst_e {pb M D : Nat → Int} {n : Nat} {c : Int} {f gr rd : Nat} {row : Nat → Int} {gp : Int} (h1 : ¬ gr < n) : wst pb M D n c f gr rd row gp = (rd, row, gp) := by
  cases f with
  | zero => rfl
  | succ f => rw [wst, if_neg h1]
/-- what holds of what is written -/
theorem wst_b {pb C M D : Nat → Int} {n : Nat} (hn : n ≤ 160) (hb : BB pb 160) (h : PS pb n C M D 0) (hc : C 0 ≤ 163) : ∀ (f gr rd : Nat) (row : Nat → Int) (gp : Int), n ≤ f + gr → gr ≤ n → (rd : Int) + C gr = C 0 → 0 ≤ gp ∧ gp ≤ 200 → (∀ j, j < rd → 0 ≤ row j ∧ row j < 256) →
    ((wst pb M D n (C 0) f gr rd row gp).1 : Int) + 1 = C 0 ∧ (gp ≤ (wst pb M D n (C 0) f gr rd row gp).2.2 ∧ (wst pb M D n (C 0) f gr rd row gp).2.2 ≤ 200) ∧ ∀ j, j < (wst pb M D n (C 0) f gr rd row gp).1 → 0 ≤ (wst pb M D n (C 0) f gr rd row gp).2.1 j ∧ (wst pb M D n (C 0) f gr rd row gp).2.1 j < 256 := by
  intro f
  induction f with
  | zero =>
    intro gr rd row gp h1 h2 h3 h4 h5
    have e : gr = n := by omega
    subst e
    rw [h.1] at h3
    exact ⟨h3, ⟨Int.le_refl _, h4.2⟩, h5⟩
  | succ f ih =>
    intro gr rd row gp h1 h2 h3 h4 h5
    by_cases hg : gr < n
    · obtain ⟨r1, r2, r3, r4, r5, r6, r7⟩ := PSi_r hg (h.2 gr (by omega) hg)
      by_cases hd : 0 < D gr
      · rw [wst_c hg hd]
        have e7 := r7 (by omega)
        obtain ⟨a1, a2, a3⟩ := ih (gr + (M gr).toNat) (rd + 2) (upZ (upZ row rd (M gr + 126)) (rd + 1) (D gr)) (max gp ((gr : Int) + M gr - n + C 0 - ((rd : Int) + 2))) (by omega) (by omega) (by omega) (by omega) (fun j hj => by
          unfold upZ
          by_cases q1 : j = rd + 1
          · rw [if_pos q1]; omega
          · rw [if_neg q1]
            by_cases q2 : j = rd
            · rw [if_pos q2]; omega
            · rw [if_neg q2]; exact h5 j (by omega))
        exact ⟨a1, ⟨by omega, a2.2⟩, a3⟩
      · rw [wst_r hg hd]
        have e6 := r6 (by omega)
        obtain ⟨a1, a2, a3⟩ := ih (gr + (M gr).toNat) (rd + 1 + (M gr).toNat) (cpZ pb (upZ row rd (M gr)) gr (rd + 1) (M gr).toNat) (max gp ((gr : Int) + M gr - n + C 0 - ((rd : Int) + 1 + M gr))) (by omega) (by omega) (by omega) (by omega) (fun j hj => by
          unfold cpZ
          by_cases q1 : rd + 1 ≤ j ∧ j < rd + 1 + (M gr).toNat
          · rw [if_pos q1]; exact hb _ (by omega)
          · rw [if_neg q1]
            unfold upZ
            by_cases q2 : j = rd
            · rw [if_pos q2]; omega
            · rw [if_neg q2]; exact h5 j (by omega))
        exact ⟨a1, ⟨by omega, a2.2⟩, a3⟩
    · rw [wst_e hg]
      have e : gr = n := by omega
      subst e
      rw [h.1] at h3
      exact ⟨h3, ⟨Int.le_refl _, h4.2⟩, h5⟩
theorem wst_ag {pb M D M' D' : Nat → Int} {n : Nat} {c : Int} (hM : ∀ j, j < n → M j = M' j) (hD : ∀ j, j < n → D j = D' j) (hp : ∀ j, j < n → 0 ≤ M j) : ∀ (f gr rd : Nat) (row row' : Nat → Int) (gp : Int), ag row row' rd →
    (wst pb M D n c f gr rd row gp).1 = (wst pb M' D' n c f gr rd row' gp).1 ∧ (wst pb M D n c f gr rd row gp).2.2 = (wst pb M' D' n c f gr rd row' gp).2.2 ∧ ag (wst pb M D n c f gr rd row gp).2.1 (wst pb M' D' n c f gr rd row' gp).2.1 (wst pb M D n c f gr rd row gp).1 := by
  intro f
  induction f with
  | zero => intro gr rd row row' gp h; exact ⟨rfl, rfl, h⟩
  | succ f ih =>
    intro gr rd row row' gp h
    by_cases hg : gr < n
    · by_cases hd : 0 < D gr
      · rw [wst_c hg hd, wst_c hg (by rw [← hD gr hg]; exact hd), ← hM gr hg, ← hD gr hg]
        refine ih _ _ _ _ _ (fun j hj => ?_)
        unfold upZ
        by_cases q1 : j = rd + 1
        · rw [if_pos q1, if_pos q1]
        · rw [if_neg q1, if_neg q1]
          by_cases q2 : j = rd
          · rw [if_pos q2, if_pos q2]
          · rw [if_neg q2, if_neg q2]; exact h j (by omega)
      · rw [wst_r hg hd, wst_r hg (by rw [← hD gr hg]; exact hd), ← hM gr hg]
        have hm := hp gr hg
        refine ih _ _ _ _ _ (fun j hj => ?_)
        unfold cpZ
        by_cases q1 : rd + 1 ≤ j ∧ j < rd + 1 + (M gr).toNat
        · rw [if_pos q1, if_pos q1]
        · rw [if_neg q1, if_neg q1]
          unfold upZ
          by_cases q2 : j = rd
          · rw [if_pos q2, if_pos q2]
          · rw [if_neg q2, if_neg q2]; exact h j (by omega)
    · rw [wst_e hg, wst_e hg]
      exact ⟨rfl, rfl, h⟩
/-- what is kept of a packed program is right: how many bytes, the gap, the stream -/
def Fresh (pb : Nat → Int) (n : Nat) (ln gp : Int) (strm : Nat → Int) : Prop :=
  ∃ (C M D row : Nat → Int), PS pb n C M D 0 ∧ ln = C 0 ∧ gp = (wst pb M D n (C 0) n 0 0 row (max 0 (C 0 - n))).2.2 ∧ ∀ j : Nat, (j : Int) < ln → strm j = upZ (wst pb M D n (C 0) n 0 0 row (max 0 (C 0 - n))).2.1 (wst pb M D n (C 0) n 0 0 row (max 0 (C 0 - n))).1 0 j
theorem Fresh_b {pb : Nat → Int} {n : Nat} {ln gp : Int} {strm : Nat → Int} (hn : n ≤ 160) (hb : BB pb 160) (h : Fresh pb n ln gp strm) : (1 ≤ ln ∧ ln ≤ 163) ∧ (0 ≤ gp ∧ ln - n ≤ gp ∧ gp ≤ 200) ∧ ∀ j : Nat, (j : Int) < ln → 0 ≤ strm j ∧ strm j < 256 := by
  obtain ⟨C, M, D, row, h1, h2, h3, h4⟩ := h
  have hc := (PS_163 hn h1).1
  have hc1 := (PS_mo h1 (a := 0) (b := 0) (Nat.le_refl _) (Nat.le_refl _) (Nat.zero_le _)).1
  obtain ⟨a1, a2, a3⟩ := wst_b hn hb h1 hc n 0 0 row (max 0 (C 0 - n)) (by omega) (by omega) (by omega) (by omega) (fun j hj => absurd hj (Nat.not_lt_zero j))
  refine ⟨by omega, by omega, fun j hj => ?_⟩
  rw [h4 j hj]
  unfold upZ
  by_cases e : j = (wst pb M D n (C 0) n 0 0 row (max 0 (C 0 - n))).1
  · rw [if_pos e]; omega
  · rw [if_neg e]; exact a3 j (by omega)
theorem Fresh_one {pb : Nat → Int} {n : Nat} {ln gp ln' gp' : Int} {strm strm' : Nat → Int} (hn : n ≤ 160) (hb : BB pb 160) (h : Fresh pb n ln gp strm) (h' : Fresh pb n ln' gp' strm') : ln = ln' ∧ gp = gp' ∧ ∀ j : Nat, (j : Int) < ln → strm j = strm' j := by
  obtain ⟨C, M, D, row, h1, h2, h3, h4⟩ := h
  obtain ⟨C', M', D', row', k1, k2, k3, k4⟩ := h'
  have e0 := PS_one h1 k1
  have eC : C 0 = C' 0 := (e0 n 0 (by omega)).1
  have eM : ∀ j, j < n → M j = M' j := fun j hj => ((e0 (n - j) j (by omega)).2 hj).1
  have eD : ∀ j, j < n → D j = D' j := fun j hj => ((e0 (n - j) j (by omega)).2 hj).2
  have hp : ∀ j, j < n → 0 ≤ M j := fun j hj => by
    have := (PSi_r hj (h1.2 j (by omega) hj)).1
    omega
  obtain ⟨w1, w2, w3⟩ := wst_ag (c := C 0) (pb := pb) eM eD hp n 0 0 row row' (max 0 (C 0 - n)) (fun j hj => absurd hj (Nat.not_lt_zero j))
  have hc := (PS_163 hn h1).1
  obtain ⟨a1, -, -⟩ := wst_b hn hb h1 hc n 0 0 row (max 0 (C 0 - n)) (by omega) (by omega) (by omega) (by omega) (fun j hj => absurd hj (Nat.not_lt_zero j))
  rw [← eC] at k2 k3 k4
  refine ⟨by omega, by rw [h3, k3, w2], fun j hj => ?_⟩
  rw [h4 j hj, k4 j (by omega), ← w1]
  unfold upZ
  by_cases e : j = (wst pb M D n (C 0) n 0 0 row (max 0 (C 0 - n))).1
  · rw [if_pos e, if_pos e]
  · rw [if_neg e, if_neg e]; exact w3 j (by omega)
theorem upZ_u (g : Nat → Int) (k : Nat) (v w : Int) : upZ (upZ g k v) k w = upZ g k w := by
  funext j
  unfold upZ
  by_cases e : j = k
  · rw [if_pos e, if_pos e]
  · rw [if_neg e, if_neg e, if_neg e]
theorem upZ_same {g : Nat → Int} {k : Nat} {v : Int} (h : g k = v) : upZ g k v = g := by
  funext j
  unfold upZ
  by_cases e : j = k
  · rw [if_pos e, e, h]
  · rw [if_neg e]
theorem PS_add {pb : Nat → Int} {n i : Nat} {C M D : Nat → Int} {Mi Di c : Int} (h : PS pb n C M D (i + 1)) (hi : i < n) (hp : PSi pb n C i Mi Di c) : PS pb n (upZ C i c) (upZ M i Mi) (upZ D i Di) i := by
  refine ⟨by rw [upZ_n _ _ (by omega)]; exact h.1, fun j h1 h2 => ?_⟩
  by_cases e : j = i
  · subst e
    rw [upZ_s, upZ_s, upZ_s]
    exact PSi_cong (fun a h3 h4 => by rw [upZ_n _ _ (by omega)]) hi hp
  · rw [upZ_n _ _ e, upZ_n _ _ e, upZ_n _ _ e]
    exact PSi_cong (fun a h3 h4 => by rw [upZ_n _ _ (by omega)]) h2 (h.2 j (by omega) h2)
/-- runs of fewer than t bytes looked at: r bytes the best so far (0: none), b its number; b0 the copy's -/
def CTi (C : Nat → Int) (i t r : Nat) (b b0 : Int) : Prop :=
  (r = 0 ∧ b = b0 ∧ ∀ q : Nat, 1 ≤ q → q < t → b0 ≤ 1 + q + C (i + q)) ∨ (1 ≤ r ∧ r < t ∧ b = 1 + r + C (i + r) ∧ b < b0 ∧ (∀ q : Nat, 1 ≤ q → q < t → b ≤ 1 + q + C (i + q)) ∧ ∀ q : Nat, 1 ≤ q → q < r → b < 1 + q + C (i + q))
theorem CTi_0 (C : Nat → Int) (i : Nat) (b0 : Int) : CTi C i 1 0 b0 b0 := Or.inl ⟨rfl, rfl, fun q h1 h2 => by omega⟩
theorem CTi_keep {C : Nat → Int} {i t r : Nat} {b b0 : Int} (h : CTi C i t r b b0) (h1 : b ≤ 1 + t + C (i + t)) : CTi C i (t + 1) r b b0 := by
  rcases h with ⟨e1, e2, h⟩ | ⟨e1, e2, e3, e4, h, h5⟩
  · refine Or.inl ⟨e1, e2, fun q q1 q2 => ?_⟩
    by_cases e : q = t
    · subst e; omega
    · exact h q q1 (by omega)
  · refine Or.inr ⟨e1, by omega, e3, e4, fun q q1 q2 => ?_, h5⟩
    by_cases e : q = t
    · subst e; omega
    · exact h q q1 (by omega)
theorem CTi_up {C : Nat → Int} {i t r : Nat} {b b0 : Int} (ht : 1 ≤ t) (h : CTi C i t r b b0) (h1 : 1 + t + C (i + t) < b) : CTi C i (t + 1) t (1 + t + C (i + t)) b0 := by
  have hb : b ≤ b0 := by
    rcases h with ⟨e1, e2, h⟩ | ⟨e1, e2, e3, e4, h, h5⟩ <;> omega
  have hq : ∀ q : Nat, 1 ≤ q → q < t → b ≤ 1 + q + C (i + q) := by
    rcases h with ⟨e1, e2, h⟩ | ⟨e1, e2, e3, e4, h, h5⟩
    · intro q q1 q2; have := h q q1 q2; omega
    · exact h
  refine Or.inr ⟨ht, by omega, rfl, by omega, fun q q1 q2 => ?_, fun q q1 q2 => ?_⟩
  · by_cases e : q = t
    · subst e; omega
    · have := hq q q1 (by omega); omega
  · have := hq q q1 q2; omega
theorem CTi_end {pb C : Nat → Int} {n i t r m x : Nat} {b b0 : Int} (hi : i < n) (hf : FC pb n i m x) (hb0 : (x = 0 → b0 = 1000) ∧ (0 < x → b0 = 2 + C (i + m))) (hC : C (i + 1) ≤ 400) (ht : ∀ q : Nat, q ≤ 127 → i + q ≤ n → q < t) (h1 : t ≤ 128) (h2 : i + t ≤ n + 1) (h : CTi C i t r b b0) :
    PSi pb n C i (if r = 0 then (m : Int) else r) (if r = 0 then (x : Int) else 0) b := by
  have hm := FC_le hi hf
  have hx : (x = 0 ∧ m = 0) ∨ (1 ≤ x ∧ 2 ≤ m) := by
    rcases hf with ⟨e1, e2, -⟩ | ⟨e1, e2, -⟩
    · exact Or.inl ⟨e2, e1⟩
    · exact Or.inr ⟨e2, e1⟩
  refine ⟨m, x, hf, ?_⟩
  rcases h with ⟨e1, e2, h⟩ | ⟨e1, e2, e3, e4, h, h5⟩
  · rw [if_pos e1, if_pos e1]
    rcases hx with ⟨g1, g2⟩ | ⟨g1, g2⟩
    · have a1 := h 1 (by omega) (ht 1 (by omega) (by omega))
      have a2 := hb0.1 g1
      omega
    · have a2 := hb0.2 (by omega)
      refine Or.inl ⟨g2, rfl, rfl, by omega, fun q q1 q2 q3 => ?_⟩
      have := h q q1 (ht q q2 q3)
      omega
  · rw [if_neg (by omega), if_neg (by omega)]
    refine Or.inr ⟨rfl, r, rfl, e1, by omega, by omega, e3, fun q q1 q2 q3 => h q q1 (ht q q2 q3), h5, fun g => ?_⟩
    rcases hx with ⟨g1, g2⟩ | ⟨g1, g2⟩
    · omega
    · have a2 := hb0.2 (by omega)
      omega
theorem FCp_129 {pb : Nat → Int} {n i D m x : Nat} (h : FCp pb n i D m x) : m ≤ 129 := by
  rcases h with ⟨e1, -, -⟩ | ⟨-, -, -, e4, -, -⟩
  · omega
  · unfold ca at e4; omega
end
section
abbrev rmX0_init : Room := { frames := 1, cells := 3, slots := 296, locals := 12 }
set_option maxRecDepth 100000 in
set_option maxHeartbeats 4000000 in
/-- Machine(): three new rows of zeros; stopped -/
theorem c_X0_init (l : Launch) (G : va_G) (cI : ClassId) (sz : Nat) (q0 : Nat)  : Met l yX0_init wsX0_init rmX0_init (zPre G cI [(q0, .inr (0, [.null, .null, .null, .int (iZ (0)), .int (iZ (0)), .int (iZ (0)), .int (iZ (0))]))] sz [.ref q0]) (va_Qv (fun (u : Nat × Nat × Nat) => True) (fun (u : Nat × Nat × Nat) t => zB G cI (va_A [(q0, .inr (0, [.null, .null, .null, .int (iZ (0)), .int (iZ (0)), .int (iZ (0)), .int (iZ (0))]))] sz) [oM q0 u.1 u.2.1 u.2.2 0 1 0 0, aI cI u.1 256 (fun _ => 0), aI cI u.2.1 8 (fun _ => 0), aI cI u.2.2 32 (fun _ => 0)] t) (va_A [(q0, .inr (0, [.null, .null, .null, .int (iZ (0)), .int (iZ (0)), .int (iZ (0)), .int (iZ (0))]))] sz)) 3 296 (va_A [(q0, .inr (0, [.null, .null, .null, .int (iZ (0)), .int (iZ (0)), .int (iZ (0)), .int (iZ (0))]))] sz) := by
  refine zm_v (W1 := fun (u : Nat × Nat × Nat) => [oM q0 u.1 u.2.1 u.2.2 0 1 0 0, aI cI u.1 256 (fun _ => 0), aI cI u.2.1 8 (fun _ => 0), aI cI u.2.2 32 (fun _ => 0)]) (cc := cX0_init) (maxL := 1) (by decide) rfl (Nat.le_of_ble_eq_true rfl) ?_
  intro p e s m args below meth c A Q ls hsz hx hb hml hown hts hnm hret hp hl
  have hl : lv_has ls 1 [(0, .ref q0)] := hl
  have m3 := hts (.methodLink RX0 3 objectInit) (List.mem_of_getElem? (i := 1) rfl)
  have io := hts (.instanceMethod objectInit) (List.mem_of_getElem? (i := 2) rfl)
  have co := hts (.code objectInit ⟨#[0xb1]⟩ 1 none) (List.mem_of_getElem? (i := 3) rfl)
  have ac := hts (.arrayClass .int) (List.mem_of_getElem? (i := 4) rfl)
  have hi0 : ∀ w ∈ wsX00, w ∈ wsX0_init := fun w h => List.mem_cons_of_mem _ (List.mem_append_right _ (h))
  have f9 := hts (.fieldLink RX0 9 "SelfOpener$Machine" "memory" "[I") (List.mem_of_getElem? (i := 5) rfl)
  have f15 := hts (.fieldLink RX0 15 "SelfOpener$Machine" "registers" "[I") (List.mem_of_getElem? (i := 6) rfl)
  have f18 := hts (.fieldLink RX0 18 "SelfOpener$Machine" "kept" "[I") (List.mem_of_getElem? (i := 7) rfl)
  have f21 := hts (.fieldLink RX0 21 "SelfOpener$Machine" "state" "I") (List.mem_of_getElem? (i := 8) rfl)
  suffices hw : ∀ (H : Heap) (locs : List Loc), Hp G cI A s H locs [(q0, .inr (0, [.null, .null, .null, .int (iZ (0)), .int (iZ (0)), .int (iZ (0)), .int (iZ (0))]))] → W p l e rmX0_init s m args below meth c H locs 0 0 Q (F0 m 0 ls []) from hw _ _ hp
  clear hp; intro H locs hp
  refine lv_aload_n hx hb dX0_init_0 rfl (lv_at hl 0 rfl) ?_
  refine W.objInit hx hb hown m3 io co rfl (by rw [hml]; exact hl.1) rfl dX0_init_1 (Nat.le_of_ble_eq_true rfl) (Nat.le_of_ble_eq_true rfl) ?_
  refine W.eq (g2 := F0 m 4 ls []) rfl ?_
  refine lv_aload_n hx hb dX0_init_4 rfl (lv_at hl 0 rfl) ?_
  refine z_sipush hx hb dX0_init_5 (by decide +kernel) ?_
  refine z_newa hx hb 256 ac hp (by decide) (by decide) rfl (Nat.le_of_ble_eq_true rfl) (Nat.le_of_ble_eq_true rfl) dX0_init_8 (fun b1 H hp => ?_)
  have hp : Hp G cI A s H locs [(q0, .inr (0, [.null, .null, .null, .int (iZ (0)), .int (iZ (0)), .int (iZ (0)), .int (iZ (0))])), aI cI b1 256 (fun _ => 0)] := hp
  refine z_putF hx hb hts hi0 tyX0 tyX0_ok nmX0 hown hp 0 rfl rfl 0 (by decide) f9 rfl hnm rfl (rfl) (rfl) (Nat.le_of_ble_eq_true rfl) dX0_init_10 (ws' := [(q0, .inr (0, [.ref b1, .null, .null, .int (iZ (0)), .int (iZ (0)), .int (iZ (0)), .int (iZ (0))])), aI cI b1 256 (fun _ => 0)]) rfl (fun H locs hp => ?_)
  refine lv_aload_n hx hb dX0_init_13 rfl (lv_at hl 0 rfl) ?_
  refine z_bipush hx hb dX0_init_14 (by decide +kernel) ?_
  refine z_newa hx hb 8 ac hp (by decide) (by decide) rfl (Nat.le_of_ble_eq_true rfl) (Nat.le_of_ble_eq_true rfl) dX0_init_16 (fun b2 H hp => ?_)
  have hp : Hp G cI A s H locs [(q0, .inr (0, [.ref b1, .null, .null, .int (iZ (0)), .int (iZ (0)), .int (iZ (0)), .int (iZ (0))])), aI cI b1 256 (fun _ => 0), aI cI b2 8 (fun _ => 0)] := hp
  refine z_putF hx hb hts hi0 tyX0 tyX0_ok nmX0 hown hp 0 rfl rfl 1 (by decide) f15 rfl hnm rfl (rfl) (rfl) (Nat.le_of_ble_eq_true rfl) dX0_init_18 (ws' := [(q0, .inr (0, [.ref b1, .ref b2, .null, .int (iZ (0)), .int (iZ (0)), .int (iZ (0)), .int (iZ (0))])), aI cI b1 256 (fun _ => 0), aI cI b2 8 (fun _ => 0)]) rfl (fun H locs hp => ?_)
  refine lv_aload_n hx hb dX0_init_21 rfl (lv_at hl 0 rfl) ?_
  refine z_bipush hx hb dX0_init_22 (by decide +kernel) ?_
  refine z_newa hx hb 32 ac hp (by decide) (by decide) rfl (Nat.le_of_ble_eq_true rfl) (Nat.le_of_ble_eq_true rfl) dX0_init_24 (fun b3 H hp => ?_)
  have hp : Hp G cI A s H locs [(q0, .inr (0, [.ref b1, .ref b2, .null, .int (iZ (0)), .int (iZ (0)), .int (iZ (0)), .int (iZ (0))])), aI cI b1 256 (fun _ => 0), aI cI b2 8 (fun _ => 0), aI cI b3 32 (fun _ => 0)] := hp
  refine z_putF hx hb hts hi0 tyX0 tyX0_ok nmX0 hown hp 0 rfl rfl 2 (by decide) f18 rfl hnm rfl (rfl) (rfl) (Nat.le_of_ble_eq_true rfl) dX0_init_26 (ws' := [oM q0 b1 b2 b3 0 0 0 0, aI cI b1 256 (fun _ => 0), aI cI b2 8 (fun _ => 0), aI cI b3 32 (fun _ => 0)]) rfl (fun H locs hp => ?_)
  refine lv_aload_n hx hb dX0_init_29 rfl (lv_at hl 0 rfl) ?_
  refine z_iconst hx hb dX0_init_30 ?_
  refine z_put hx hb hts hi0 tyX0 tyX0_ok nmX0 hown hp 0 rfl rfl 4 (by decide) f21 rfl (rfl) (rfl) (Nat.le_of_ble_eq_true rfl) dX0_init_31 (ws' := [oM q0 b1 b2 b3 0 1 0 0, aI cI b1 256 (fun _ => 0), aI cI b2 8 (fun _ => 0), aI cI b3 32 (fun _ => 0)]) rfl (fun H locs hp => ?_)
  exact hret _ _ _ _ _ _ (b1, b2, b3) (trivial) hp dX0_init_34 (Nat.le_of_ble_eq_true rfl) (Nat.le_of_ble_eq_true rfl)
abbrev rmX0_runs : Room := { frames := 0, cells := 0, slots := 0, locals := 0 }
set_option maxRecDepth 100000 in
set_option maxHeartbeats 4000000 in
theorem c_X0_runs (l : Launch) (G : va_G) (cI : ClassId) (sz : Nat) (q0 a0 b0 c0 : Nat) (pl st sp po : Int) (h_0 : rg st) : Met l yX0_runs wsX0_runs rmX0_runs (zPre G cI [oM q0 a0 b0 c0 pl st sp po] sz [.ref q0]) (va_Qi (fun (r : Int32) (u : Unit) => r = iZ (if st = 0 then 1 else 0)) (fun (u : Unit) t => zB G cI (va_A [oM q0 a0 b0 c0 pl st sp po] sz) [oM q0 a0 b0 c0 pl st sp po] t) (va_A [oM q0 a0 b0 c0 pl st sp po] sz)) 0 0 (va_A [oM q0 a0 b0 c0 pl st sp po] sz) := by
  refine zm_i (W1 := fun (u : Unit) => [oM q0 a0 b0 c0 pl st sp po]) (cc := cX0_runs) (maxL := 1) (ty := .boolean) (by decide) rfl (Nat.le_of_ble_eq_true rfl) ?_
  intro p e s m args below meth c A Q ls hsz hx hb hml hown hts hret hp hl
  have hl : lv_has ls 1 [(0, .ref q0)] := hl
  have hi0 : ∀ w ∈ wsX00, w ∈ wsX0_runs := fun w h => List.mem_cons_of_mem _ (List.mem_append_right _ (h))
  have f21 := hts (.fieldLink RX0 21 "SelfOpener$Machine" "state" "I") (List.mem_of_getElem? (i := 1) rfl)
  suffices hw : ∀ (H : Heap) (locs : List Loc), Hp G cI A s H locs [oM q0 a0 b0 c0 pl st sp po] → W p l e rmX0_runs s m args below meth c H locs 0 0 Q (F0 m 0 ls []) from hw _ _ hp
  clear hp; intro H locs hp
  refine lv_aload_n hx hb dX0_runs_0 rfl (lv_at hl 0 rfl) ?_
  refine z_get hx hb hts hi0 hown hp 0 rfl rfl 4 (by decide) f21 rfl dX0_runs_1 ?_
  refine z_if_ne (tgt := 11) hx hb dX0_runs_4 (by decide) (by omega) (fun h1 => ?_) (fun h1 => ?_)
  · skip
    refine z_iconst hx hb dX0_runs_11 ?_
    exact hret _ _ _ _ _ _ _ () (congrArg iZ (by (repeat' split) <;> omega)) hp dX0_runs_12 (by decide +kernel) (Nat.le_of_ble_eq_true rfl) (Nat.le_of_ble_eq_true rfl)
  · skip
    refine z_iconst hx hb dX0_runs_7 ?_
    refine lv_goto (tgt := 12) hx hb dX0_runs_8 (by decide) ?_
    exact hret _ _ _ _ _ _ _ () (congrArg iZ (by (repeat' split) <;> omega)) hp dX0_runs_12 (by decide +kernel) (Nat.le_of_ble_eq_true rfl) (Nat.le_of_ble_eq_true rfl)
abbrev rmX0_keeps : Room := { frames := 0, cells := 0, slots := 0, locals := 0 }
set_option maxRecDepth 100000 in
set_option maxHeartbeats 4000000 in
theorem c_X0_keeps (l : Launch) (G : va_G) (cI : ClassId) (sz : Nat) (q0 a0 b0 c0 : Nat) (pl st sp po i : Int) (h_0 : rg i) (h_1 : 0 ≤ po ∧ po < 2147483648) : Met l yX0_keeps wsX0_keeps rmX0_keeps (zPre G cI [oM q0 a0 b0 c0 pl st sp po] sz [.ref q0, .int (iZ (i))]) (va_Qi (fun (r : Int32) (u : Unit) => r = iZ (if 0 ≤ i ∧ i < po ∧ po - 32 ≤ i then 1 else 0)) (fun (u : Unit) t => zB G cI (va_A [oM q0 a0 b0 c0 pl st sp po] sz) [oM q0 a0 b0 c0 pl st sp po] t) (va_A [oM q0 a0 b0 c0 pl st sp po] sz)) 0 0 (va_A [oM q0 a0 b0 c0 pl st sp po] sz) := by
  refine zm_i (W1 := fun (u : Unit) => [oM q0 a0 b0 c0 pl st sp po]) (cc := cX0_keeps) (maxL := 2) (ty := .boolean) (by decide) rfl (Nat.le_of_ble_eq_true rfl) ?_
  intro p e s m args below meth c A Q ls hsz hx hb hml hown hts hret hp hl
  have hl : lv_has ls 2 [(0, .ref q0), (1, .int (iZ (i)))] := hl
  have hi0 : ∀ w ∈ wsX00, w ∈ wsX0_keeps := fun w h => List.mem_cons_of_mem _ (List.mem_append_right _ (h))
  have f25 := hts (.fieldLink RX0 25 "SelfOpener$Machine" "putOut" "I") (List.mem_of_getElem? (i := 1) rfl)
  suffices hw : ∀ (H : Heap) (locs : List Loc), Hp G cI A s H locs [oM q0 a0 b0 c0 pl st sp po] → W p l e rmX0_keeps s m args below meth c H locs 0 0 Q (F0 m 0 ls []) from hw _ _ hp
  clear hp; intro H locs hp
  refine lv_iload_n hx hb dX0_keeps_0 rfl (lv_at hl 1 rfl) ?_
  refine z_if_lt (tgt := 27) hx hb dX0_keeps_1 (by decide) (by omega) (fun h1 => ?_) (fun h1 => ?_)
  · skip
    refine z_iconst hx hb dX0_keeps_27 ?_
    exact hret _ _ _ _ _ _ _ () (congrArg iZ (by (repeat' split) <;> omega)) hp dX0_keeps_28 (by decide +kernel) (Nat.le_of_ble_eq_true rfl) (Nat.le_of_ble_eq_true rfl)
  · skip
    refine lv_iload_n hx hb dX0_keeps_4 rfl (lv_at hl 1 rfl) ?_
    refine lv_aload_n hx hb dX0_keeps_5 rfl (lv_at hl 0 rfl) ?_
    refine z_get hx hb hts hi0 hown hp 0 rfl rfl 6 (by decide) f25 rfl dX0_keeps_6 ?_
    refine z_icmp_ge (tgt := 27) hx hb dX0_keeps_9 (by decide) (by omega) (fun h2 => ?_) (fun h2 => ?_)
    · skip
      refine z_iconst hx hb dX0_keeps_27 ?_
      exact hret _ _ _ _ _ _ _ () (congrArg iZ (by (repeat' split) <;> omega)) hp dX0_keeps_28 (by decide +kernel) (Nat.le_of_ble_eq_true rfl) (Nat.le_of_ble_eq_true rfl)
    · skip
      refine lv_iload_n hx hb dX0_keeps_12 rfl (lv_at hl 1 rfl) ?_
      refine lv_aload_n hx hb dX0_keeps_13 rfl (lv_at hl 0 rfl) ?_
      refine z_get hx hb hts hi0 hown hp 0 rfl rfl 6 (by decide) f25 rfl dX0_keeps_14 ?_
      refine z_bipush hx hb dX0_keeps_17 (by decide +kernel) ?_
      refine z_isub hx hb (po - 32) (rfl) dX0_keeps_19 ?_
      refine z_icmp_lt (tgt := 27) hx hb dX0_keeps_20 (by decide) (by omega) (fun h3 => ?_) (fun h3 => ?_)
      · skip
        refine z_iconst hx hb dX0_keeps_27 ?_
        exact hret _ _ _ _ _ _ _ () (congrArg iZ (by (repeat' split) <;> omega)) hp dX0_keeps_28 (by decide +kernel) (Nat.le_of_ble_eq_true rfl) (Nat.le_of_ble_eq_true rfl)
      · skip
        refine z_iconst hx hb dX0_keeps_23 ?_
        refine lv_goto (tgt := 28) hx hb dX0_keeps_24 (by decide) ?_
        exact hret _ _ _ _ _ _ _ () (congrArg iZ (by (repeat' split) <;> omega)) hp dX0_keeps_28 (by decide +kernel) (Nat.le_of_ble_eq_true rfl) (Nat.le_of_ble_eq_true rfl)
abbrev rmX0_clear : Room := { frames := 0, cells := 0, slots := 0, locals := 0 }
set_option maxRecDepth 100000 in
set_option maxHeartbeats 4000000 in
theorem c_X0_clear (l : Launch) (G : va_G) (cI : ClassId) (sz : Nat) (q0 a0 b0 c0 : Nat) (mem regs kept : Nat → Int) (pl st sp po fp : Int)  : Met l yX0_clear wsX0_clear rmX0_clear (zPre G cI [oM q0 a0 b0 c0 pl st sp po, aI cI a0 256 mem, aI cI b0 8 regs, aI cI c0 32 kept] sz [.ref q0, .int (iZ (fp))]) (va_Qv (fun (u : Unit) => True) (fun (u : Unit) t => zB G cI (va_A [oM q0 a0 b0 c0 pl st sp po, aI cI a0 256 mem, aI cI b0 8 regs, aI cI c0 32 kept] sz) [oM q0 a0 b0 c0 fp 0 0 0, aI cI a0 256 (fun _ => 0), aI cI b0 8 (fun _ => 0), aI cI c0 32 kept] t) (va_A [oM q0 a0 b0 c0 pl st sp po, aI cI a0 256 mem, aI cI b0 8 regs, aI cI c0 32 kept] sz)) 0 0 (va_A [oM q0 a0 b0 c0 pl st sp po, aI cI a0 256 mem, aI cI b0 8 regs, aI cI c0 32 kept] sz) := by
  refine zm_v (W1 := fun (u : Unit) => [oM q0 a0 b0 c0 fp 0 0 0, aI cI a0 256 (fun _ => 0), aI cI b0 8 (fun _ => 0), aI cI c0 32 kept]) (cc := cX0_clear) (maxL := 3) (by decide) rfl (Nat.le_of_ble_eq_true rfl) ?_
  intro p e s m args below meth c A Q ls hsz hx hb hml hown hts hnm hret hp hl
  have hl : lv_has ls 3 [(0, .ref q0), (1, .int (iZ (fp)))] := hl
  have hi0 : ∀ w ∈ wsX00, w ∈ wsX0_clear := fun w h => List.mem_cons_of_mem _ (List.mem_append_right _ (h))
  have f28 := hts (.fieldLink RX0 28 "SelfOpener$Machine" "place" "I") (List.mem_of_getElem? (i := 3) rfl)
  have f21 := hts (.fieldLink RX0 21 "SelfOpener$Machine" "state" "I") (List.mem_of_getElem? (i := 4) rfl)
  have f31 := hts (.fieldLink RX0 31 "SelfOpener$Machine" "steps" "I") (List.mem_of_getElem? (i := 5) rfl)
  have f25 := hts (.fieldLink RX0 25 "SelfOpener$Machine" "putOut" "I") (List.mem_of_getElem? (i := 6) rfl)
  have f15 := hts (.fieldLink RX0 15 "SelfOpener$Machine" "registers" "[I") (List.mem_of_getElem? (i := 2) rfl)
  have f9 := hts (.fieldLink RX0 9 "SelfOpener$Machine" "memory" "[I") (List.mem_of_getElem? (i := 1) rfl)
  suffices hw : ∀ (H : Heap) (locs : List Loc), Hp G cI A s H locs [oM q0 a0 b0 c0 pl st sp po, aI cI a0 256 mem, aI cI b0 8 regs, aI cI c0 32 kept] → W p l e rmX0_clear s m args below meth c H locs 0 0 Q (F0 m 0 ls []) from hw _ _ hp
  clear hp; intro H locs hp
  refine z_iconst hx hb dX0_clear_0 ?_
  refine lv_istore_n (lv' := [(2, .int (iZ (0))), (0, .ref q0), (1, .int (iZ (fp)))]) hx hb dX0_clear_1 rfl hl (by decide) rfl (fun ls hl => ?_)
  have lp1 : ∀ (N_lp1 : Nat) (i : Nat) (f : Nat → Int) (H : Heap) (locs : List Loc) (ls : Array Slot), (i ≤ 256) → (∀ j, j < i → f j = 0) → (256 - i) < N_lp1 → Hp G cI A s H locs [oM q0 a0 b0 c0 pl st sp po, aI cI a0 256 f, aI cI b0 8 regs, aI cI c0 32 kept] → lv_has ls 3 [(2, .int (iZ (↑i))), (0, .ref q0), (1, .int (iZ (fp)))] → W p l e rmX0_clear s m args below meth c H locs 0 0 Q (F0 m 2 ls []) := by
    intro N_lp1
    induction N_lp1 with
    | zero => intros; exfalso; omega
    | succ N_lp1 ih_lp1 =>
      intro i f H locs ls hi hf hN hp hl
      refine lv_iload_n hx hb dX0_clear_2 rfl (lv_at hl 0 rfl) ?_
      refine z_sipush hx hb dX0_clear_3 (by decide +kernel) ?_
      refine z_icmp_ge (tgt := 22) hx hb dX0_clear_6 (by decide) (by omega) (fun h2 => ?_) (fun h2 => ?_)
      · skip
        have hp := z_alike hp 1 rfl (fun _ => 0) (fun j hj => (hf j (by omega)).symm) (ws' := [oM q0 a0 b0 c0 pl st sp po, aI cI a0 256 (fun _ => 0), aI cI b0 8 regs, aI cI c0 32 kept]) rfl
        refine z_iconst hx hb dX0_clear_22 ?_
        refine lv_istore_n (lv' := [(2, .int (iZ (0))), (0, .ref q0), (1, .int (iZ (fp)))]) hx hb dX0_clear_23 rfl hl (by decide) rfl (fun ls hl => ?_)
        have lp3 : ∀ (N_lp3 : Nat) (i : Nat) (f : Nat → Int) (H : Heap) (locs : List Loc) (ls : Array Slot), (i ≤ 8) → (∀ j, j < i → f j = 0) → (8 - i) < N_lp3 → Hp G cI A s H locs [oM q0 a0 b0 c0 pl st sp po, aI cI a0 256 (fun _ => 0), aI cI b0 8 f, aI cI c0 32 kept] → lv_has ls 3 [(2, .int (iZ (↑i))), (0, .ref q0), (1, .int (iZ (fp)))] → W p l e rmX0_clear s m args below meth c H locs 0 0 Q (F0 m 24 ls []) := by
          intro N_lp3
          induction N_lp3 with
          | zero => intros; exfalso; omega
          | succ N_lp3 ih_lp3 =>
            intro i f H locs ls hi hf hN hp hl
            refine lv_iload_n hx hb dX0_clear_24 rfl (lv_at hl 0 rfl) ?_
            refine z_bipush hx hb dX0_clear_25 (by decide +kernel) ?_
            refine z_icmp_ge (tgt := 43) hx hb dX0_clear_27 (by decide) (by omega) (fun h4 => ?_) (fun h4 => ?_)
            · skip
              have hp := z_alike hp 2 rfl (fun _ => 0) (fun j hj => (hf j (by omega)).symm) (ws' := [oM q0 a0 b0 c0 pl st sp po, aI cI a0 256 (fun _ => 0), aI cI b0 8 (fun _ => 0), aI cI c0 32 kept]) rfl
              refine lv_aload_n hx hb dX0_clear_43 rfl (lv_at hl 1 rfl) ?_
              refine lv_iload_n hx hb dX0_clear_44 rfl (lv_at hl 2 rfl) ?_
              refine z_put hx hb hts hi0 tyX0 tyX0_ok nmX0 hown hp 0 rfl rfl 3 (by decide) f28 rfl (rfl) (rfl) (Nat.le_of_ble_eq_true rfl) dX0_clear_45 (ws' := [oM q0 a0 b0 c0 fp st sp po, aI cI a0 256 (fun _ => 0), aI cI b0 8 (fun _ => 0), aI cI c0 32 kept]) rfl (fun H locs hp => ?_)
              refine lv_aload_n hx hb dX0_clear_48 rfl (lv_at hl 1 rfl) ?_
              refine z_iconst hx hb dX0_clear_49 ?_
              refine z_put hx hb hts hi0 tyX0 tyX0_ok nmX0 hown hp 0 rfl rfl 4 (by decide) f21 rfl (rfl) (rfl) (Nat.le_of_ble_eq_true rfl) dX0_clear_50 (ws' := [oM q0 a0 b0 c0 fp 0 sp po, aI cI a0 256 (fun _ => 0), aI cI b0 8 (fun _ => 0), aI cI c0 32 kept]) rfl (fun H locs hp => ?_)
              refine lv_aload_n hx hb dX0_clear_53 rfl (lv_at hl 1 rfl) ?_
              refine z_iconst hx hb dX0_clear_54 ?_
              refine z_put hx hb hts hi0 tyX0 tyX0_ok nmX0 hown hp 0 rfl rfl 5 (by decide) f31 rfl (rfl) (rfl) (Nat.le_of_ble_eq_true rfl) dX0_clear_55 (ws' := [oM q0 a0 b0 c0 fp 0 0 po, aI cI a0 256 (fun _ => 0), aI cI b0 8 (fun _ => 0), aI cI c0 32 kept]) rfl (fun H locs hp => ?_)
              refine lv_aload_n hx hb dX0_clear_58 rfl (lv_at hl 1 rfl) ?_
              refine z_iconst hx hb dX0_clear_59 ?_
              refine z_put hx hb hts hi0 tyX0 tyX0_ok nmX0 hown hp 0 rfl rfl 6 (by decide) f25 rfl (rfl) (rfl) (Nat.le_of_ble_eq_true rfl) dX0_clear_60 (ws' := [oM q0 a0 b0 c0 fp 0 0 0, aI cI a0 256 (fun _ => 0), aI cI b0 8 (fun _ => 0), aI cI c0 32 kept]) rfl (fun H locs hp => ?_)
              exact hret _ _ _ _ _ _ () (trivial) hp dX0_clear_63 (Nat.le_of_ble_eq_true rfl) (Nat.le_of_ble_eq_true rfl)
            · skip
              refine lv_aload_n hx hb dX0_clear_30 rfl (lv_at hl 1 rfl) ?_
              refine z_get hx hb hts hi0 hown hp 0 rfl rfl 1 (by decide) f15 rfl dX0_clear_31 ?_
              refine lv_iload_n hx hb dX0_clear_34 rfl (lv_at hl 0 rfl) ?_
              refine z_iconst hx hb dX0_clear_35 ?_
              refine z_iast hx hb hp 2 rfl (i) (by omega) dX0_clear_36 (ws' := [oM q0 a0 b0 c0 pl st sp po, aI cI a0 256 (fun _ => 0), aI cI b0 8 (upZ f i 0), aI cI c0 32 kept]) rfl (fun H locs hp => ?_)
              refine z_iinc (k := 0) (lv' := [(2, .int (iZ (↑(i + 1)))), (0, .ref q0), (1, .int (iZ (fp)))]) hx hb (↑(i + 1)) (by omega) dX0_clear_37 hl rfl (by decide) rfl (fun ls hl => ?_)
              refine lv_goto (tgt := 24) hx hb dX0_clear_40 (by decide) ?_
              exact ih_lp3 (i + 1) (upZ f i 0) _ _ _ (by omega) (fun j hj => by unfold upZ; split; rfl; exact hf j (by omega)) (by omega) hp (lv_sub hl [0, 1, 2] rfl)
        exact lp3 _ 0 regs _ _ _ (by omega) (fun j hj => absurd hj (Nat.not_lt_zero j)) (Nat.lt_succ_self _) hp (lv_sub hl [0, 1, 2] rfl)
      · skip
        refine lv_aload_n hx hb dX0_clear_9 rfl (lv_at hl 1 rfl) ?_
        refine z_get hx hb hts hi0 hown hp 0 rfl rfl 0 (by decide) f9 rfl dX0_clear_10 ?_
        refine lv_iload_n hx hb dX0_clear_13 rfl (lv_at hl 0 rfl) ?_
        refine z_iconst hx hb dX0_clear_14 ?_
        refine z_iast hx hb hp 1 rfl (i) (by omega) dX0_clear_15 (ws' := [oM q0 a0 b0 c0 pl st sp po, aI cI a0 256 (upZ f i 0), aI cI b0 8 regs, aI cI c0 32 kept]) rfl (fun H locs hp => ?_)
        refine z_iinc (k := 0) (lv' := [(2, .int (iZ (↑(i + 1)))), (0, .ref q0), (1, .int (iZ (fp)))]) hx hb (↑(i + 1)) (by omega) dX0_clear_16 hl rfl (by decide) rfl (fun ls hl => ?_)
        refine lv_goto (tgt := 2) hx hb dX0_clear_19 (by decide) ?_
        exact ih_lp1 (i + 1) (upZ f i 0) _ _ _ (by omega) (fun j hj => by unfold upZ; split; rfl; exact hf j (by omega)) (by omega) hp (lv_sub hl [0, 1, 2] rfl)
  exact lp1 _ 0 mem _ _ _ (by omega) (fun j hj => absurd hj (Nat.not_lt_zero j)) (Nat.lt_succ_self _) hp (lv_sub hl [0, 1, 2] rfl)
abbrev rmX0_write : Room := { frames := 1, cells := 0, slots := 0, locals := 80 }
set_option maxRecDepth 100000 in
set_option maxHeartbeats 4000000 in
theorem c_X0_write (l : Launch) (G : va_G) (cI : ClassId) (sz : Nat) (q0 a0 b0 c0 : Nat) (ra rl fr nn : Nat) (mem row : Nat → Int) (pl st sp po : Int) (h_0 : fr + nn ≤ 256) (h_1 : nn ≤ rl) : Met l yX0_write wsX0_write rmX0_write (zPre G cI [oM q0 a0 b0 c0 pl st sp po, aI cI a0 256 mem, aI cI ra rl row] sz [.ref q0, .int (iZ (↑fr)), .ref ra, .int (iZ (↑nn))]) (va_Qv (fun (u : Unit) => True) (fun (u : Unit) t => zB G cI (va_A [oM q0 a0 b0 c0 pl st sp po, aI cI a0 256 mem, aI cI ra rl row] sz) [oM q0 a0 b0 c0 pl st sp po, aI cI a0 256 (cpZ row mem 0 fr nn), aI cI ra rl row] t) (va_A [oM q0 a0 b0 c0 pl st sp po, aI cI a0 256 mem, aI cI ra rl row] sz)) 0 0 (va_A [oM q0 a0 b0 c0 pl st sp po, aI cI a0 256 mem, aI cI ra rl row] sz) := by
  refine zm_v (W1 := fun (u : Unit) => [oM q0 a0 b0 c0 pl st sp po, aI cI a0 256 (cpZ row mem 0 fr nn), aI cI ra rl row]) (cc := cX0_write) (maxL := 4) (by decide) rfl (Nat.le_of_ble_eq_true rfl) ?_
  intro p e s m args below meth c A Q ls hsz hx hb hml hown hts hnm hret hp hl
  have hl : lv_has ls 4 [(0, .ref q0), (1, .int (iZ (↑fr))), (2, .ref ra), (3, .int (iZ (↑nn)))] := hl
  have hi0 : ∀ w ∈ wsX00, w ∈ wsX0_write := fun w h => List.mem_cons_of_mem _ (List.mem_append_right _ (h))
  have f9 := hts (.fieldLink RX0 9 "SelfOpener$Machine" "memory" "[I") (List.mem_of_getElem? (i := 1) rfl)
  have m34 := hts (.methodLink RX0 34 arraycopyName) (List.mem_of_getElem? (i := 2) rfl)
  have na := hts (.native arraycopyName) (List.mem_of_getElem? (i := 3) rfl)
  have sa := hts (.static arraycopyName) (List.mem_of_getElem? (i := 4) rfl)
  have is := hts (.initialized "java/lang/System") (List.mem_of_getElem? (i := 5) rfl)
  suffices hw : ∀ (H : Heap) (locs : List Loc), Hp G cI A s H locs [oM q0 a0 b0 c0 pl st sp po, aI cI a0 256 mem, aI cI ra rl row] → W p l e rmX0_write s m args below meth c H locs 0 0 Q (F0 m 0 ls []) from hw _ _ hp
  clear hp; intro H locs hp
  refine lv_aload_n hx hb dX0_write_0 rfl (lv_at hl 2 rfl) ?_
  refine z_iconst hx hb dX0_write_1 ?_
  refine lv_aload_n hx hb dX0_write_2 rfl (lv_at hl 0 rfl) ?_
  refine z_get hx hb hts hi0 hown hp 0 rfl rfl 0 (by decide) f9 rfl dX0_write_3 ?_
  refine lv_iload_n hx hb dX0_write_6 rfl (lv_at hl 1 rfl) ?_
  refine lv_iload_n hx hb dX0_write_7 rfl (lv_at hl 3 rfl) ?_
  refine z_copy hx hb (by rw [hml]; exact hl.1.symm) hown m34 na sa is hp 2 1 rfl rfl (0) (fr) (nn) (by omega) (by omega) (by omega) (by omega) (Nat.le_of_ble_eq_true rfl) (Nat.le_of_ble_eq_true rfl) dX0_write_8 (ws' := [oM q0 a0 b0 c0 pl st sp po, aI cI a0 256 (cpZ row mem 0 fr nn), aI cI ra rl row]) rfl (fun H locs hp => ?_)
  exact hret _ _ _ _ _ _ () (trivial) hp dX0_write_11 (Nat.le_of_ble_eq_true rfl) (Nat.le_of_ble_eq_true rfl)
abbrev rmX0_jump : Room := { frames := 0, cells := 0, slots := 0, locals := 0 }
set_option maxRecDepth 100000 in
set_option maxHeartbeats 4000000 in
theorem c_X0_jump (l : Launch) (G : va_G) (cI : ClassId) (sz : Nat) (q0 a0 b0 c0 : Nat) (pl st sp po k v y : Int) (h_0 : rg k) (h_1 : rg v) : Met l yX0_jump wsX0_jump rmX0_jump (zPre G cI [oM q0 a0 b0 c0 pl st sp po] sz [.ref q0, .int (iZ (k)), .int (iZ (v)), .int (iZ (y))]) (va_Qv (fun (u : Unit) => True) (fun (u : Unit) t => zB G cI (va_A [oM q0 a0 b0 c0 pl st sp po] sz) [oM q0 a0 b0 c0 (jPl k v y pl) st sp po] t) (va_A [oM q0 a0 b0 c0 pl st sp po] sz)) 0 0 (va_A [oM q0 a0 b0 c0 pl st sp po] sz) := by
  refine zm_v (W1 := fun (u : Unit) => [oM q0 a0 b0 c0 (jPl k v y pl) st sp po]) (cc := cX0_jump) (maxL := 4) (by decide) rfl (Nat.le_of_ble_eq_true rfl) ?_
  intro p e s m args below meth c A Q ls hsz hx hb hml hown hts hnm hret hp hl
  have hl : lv_has ls 4 [(0, .ref q0), (1, .int (iZ (k))), (2, .int (iZ (v))), (3, .int (iZ (y)))] := hl
  have hi0 : ∀ w ∈ wsX00, w ∈ wsX0_jump := fun w h => List.mem_cons_of_mem _ (List.mem_append_right _ (h))
  have f28 := hts (.fieldLink RX0 28 "SelfOpener$Machine" "place" "I") (List.mem_of_getElem? (i := 1) rfl)
  suffices hw : ∀ (H : Heap) (locs : List Loc), Hp G cI A s H locs [oM q0 a0 b0 c0 pl st sp po] → W p l e rmX0_jump s m args below meth c H locs 0 0 Q (F0 m 0 ls []) from hw _ _ hp
  clear hp; intro H locs hp
  refine lv_iload_n hx hb dX0_jump_0 rfl (lv_at hl 1 rfl) ?_
  refine z_bipush hx hb dX0_jump_1 (by decide +kernel) ?_
  refine z_icmp_ne (tgt := 14) hx hb dX0_jump_3 (by decide) (by omega) (fun h1 => ?_) (fun h1 => ?_)
  · skip
    refine lv_iload_n hx hb dX0_jump_14 rfl (lv_at hl 1 rfl) ?_
    refine z_bipush hx hb dX0_jump_15 (by decide +kernel) ?_
    refine z_icmp_eq (tgt := 42) hx hb dX0_jump_17 (by decide) (by omega) (fun h2 => ?_) (fun h2 => ?_)
    · skip
      refine lv_aload_n hx hb dX0_jump_42 rfl (lv_at hl 0 rfl) ?_
      refine lv_iload_n hx hb dX0_jump_43 rfl (lv_at hl 3 rfl) ?_
      refine z_put hx hb hts hi0 tyX0 tyX0_ok nmX0 hown hp 0 rfl rfl 3 (by decide) f28 rfl (rfl) (rfl) (Nat.le_of_ble_eq_true rfl) dX0_jump_44 (ws' := [oM q0 a0 b0 c0 y st sp po]) rfl (fun H locs hp => ?_)
      have hp : Hp G cI A s H locs [oM q0 a0 b0 c0 (jPl k v y pl) st sp po] := by
        have e9 : (jPl k v y pl : Int) = y := by unfold jPl; (repeat' split) <;> omega
        rw [e9]; exact hp
      exact hret _ _ _ _ _ _ () (trivial) hp dX0_jump_47 (Nat.le_of_ble_eq_true rfl) (Nat.le_of_ble_eq_true rfl)
    · skip
      refine lv_iload_n hx hb dX0_jump_20 rfl (lv_at hl 1 rfl) ?_
      refine z_bipush hx hb dX0_jump_21 (by decide +kernel) ?_
      refine z_icmp_ne (tgt := 30) hx hb dX0_jump_23 (by decide) (by omega) (fun h3 => ?_) (fun h3 => ?_)
      · skip
        refine lv_iload_n hx hb dX0_jump_30 rfl (lv_at hl 1 rfl) ?_
        refine z_bipush hx hb dX0_jump_31 (by decide +kernel) ?_
        refine z_icmp_ne (tgt := 47) hx hb dX0_jump_33 (by decide) (by omega) (fun h4 => ?_) (fun h4 => ?_)
        · skip
          have hp : Hp G cI A s H locs [oM q0 a0 b0 c0 (jPl k v y pl) st sp po] := by
            have e9 : (jPl k v y pl : Int) = pl := by unfold jPl; (repeat' split) <;> omega
            rw [e9]; exact hp
          exact hret _ _ _ _ _ _ () (trivial) hp dX0_jump_47 (Nat.le_of_ble_eq_true rfl) (Nat.le_of_ble_eq_true rfl)
        · skip
          refine lv_iload_n hx hb dX0_jump_36 rfl (lv_at hl 2 rfl) ?_
          refine z_bipush hx hb dX0_jump_37 (by decide +kernel) ?_
          refine z_icmp_le (tgt := 47) hx hb dX0_jump_39 (by decide) (by omega) (fun h5 => ?_) (fun h5 => ?_)
          · skip
            have hp : Hp G cI A s H locs [oM q0 a0 b0 c0 (jPl k v y pl) st sp po] := by
              have e9 : (jPl k v y pl : Int) = pl := by unfold jPl; (repeat' split) <;> omega
              rw [e9]; exact hp
            exact hret _ _ _ _ _ _ () (trivial) hp dX0_jump_47 (Nat.le_of_ble_eq_true rfl) (Nat.le_of_ble_eq_true rfl)
          · skip
            refine lv_aload_n hx hb dX0_jump_42 rfl (lv_at hl 0 rfl) ?_
            refine lv_iload_n hx hb dX0_jump_43 rfl (lv_at hl 3 rfl) ?_
            refine z_put hx hb hts hi0 tyX0 tyX0_ok nmX0 hown hp 0 rfl rfl 3 (by decide) f28 rfl (rfl) (rfl) (Nat.le_of_ble_eq_true rfl) dX0_jump_44 (ws' := [oM q0 a0 b0 c0 y st sp po]) rfl (fun H locs hp => ?_)
            have hp : Hp G cI A s H locs [oM q0 a0 b0 c0 (jPl k v y pl) st sp po] := by
              have e9 : (jPl k v y pl : Int) = y := by unfold jPl; (repeat' split) <;> omega
              rw [e9]; exact hp
            exact hret _ _ _ _ _ _ () (trivial) hp dX0_jump_47 (Nat.le_of_ble_eq_true rfl) (Nat.le_of_ble_eq_true rfl)
      · skip
        refine lv_iload_n hx hb dX0_jump_26 rfl (lv_at hl 2 rfl) ?_
        refine z_if_eq (tgt := 42) hx hb dX0_jump_27 (by decide) (by omega) (fun h6 => ?_) (fun h6 => ?_)
        · skip
          refine lv_aload_n hx hb dX0_jump_42 rfl (lv_at hl 0 rfl) ?_
          refine lv_iload_n hx hb dX0_jump_43 rfl (lv_at hl 3 rfl) ?_
          refine z_put hx hb hts hi0 tyX0 tyX0_ok nmX0 hown hp 0 rfl rfl 3 (by decide) f28 rfl (rfl) (rfl) (Nat.le_of_ble_eq_true rfl) dX0_jump_44 (ws' := [oM q0 a0 b0 c0 y st sp po]) rfl (fun H locs hp => ?_)
          have hp : Hp G cI A s H locs [oM q0 a0 b0 c0 (jPl k v y pl) st sp po] := by
            have e9 : (jPl k v y pl : Int) = y := by unfold jPl; (repeat' split) <;> omega
            rw [e9]; exact hp
          exact hret _ _ _ _ _ _ () (trivial) hp dX0_jump_47 (Nat.le_of_ble_eq_true rfl) (Nat.le_of_ble_eq_true rfl)
        · skip
          refine lv_iload_n hx hb dX0_jump_30 rfl (lv_at hl 1 rfl) ?_
          refine z_bipush hx hb dX0_jump_31 (by decide +kernel) ?_
          refine z_icmp_ne (tgt := 47) hx hb dX0_jump_33 (by decide) (by omega) (fun h7 => ?_) (fun h7 => ?_)
          · skip
            have hp : Hp G cI A s H locs [oM q0 a0 b0 c0 (jPl k v y pl) st sp po] := by
              have e9 : (jPl k v y pl : Int) = pl := by unfold jPl; (repeat' split) <;> omega
              rw [e9]; exact hp
            exact hret _ _ _ _ _ _ () (trivial) hp dX0_jump_47 (Nat.le_of_ble_eq_true rfl) (Nat.le_of_ble_eq_true rfl)
          · skip
            refine lv_iload_n hx hb dX0_jump_36 rfl (lv_at hl 2 rfl) ?_
            refine z_bipush hx hb dX0_jump_37 (by decide +kernel) ?_
            refine z_icmp_le (tgt := 47) hx hb dX0_jump_39 (by decide) (by omega) (fun h8 => ?_) (fun h8 => ?_)
            · skip
              have hp : Hp G cI A s H locs [oM q0 a0 b0 c0 (jPl k v y pl) st sp po] := by
                have e9 : (jPl k v y pl : Int) = pl := by unfold jPl; (repeat' split) <;> omega
                rw [e9]; exact hp
              exact hret _ _ _ _ _ _ () (trivial) hp dX0_jump_47 (Nat.le_of_ble_eq_true rfl) (Nat.le_of_ble_eq_true rfl)
            · skip
              refine lv_aload_n hx hb dX0_jump_42 rfl (lv_at hl 0 rfl) ?_
              refine lv_iload_n hx hb dX0_jump_43 rfl (lv_at hl 3 rfl) ?_
              refine z_put hx hb hts hi0 tyX0 tyX0_ok nmX0 hown hp 0 rfl rfl 3 (by decide) f28 rfl (rfl) (rfl) (Nat.le_of_ble_eq_true rfl) dX0_jump_44 (ws' := [oM q0 a0 b0 c0 y st sp po]) rfl (fun H locs hp => ?_)
              have hp : Hp G cI A s H locs [oM q0 a0 b0 c0 (jPl k v y pl) st sp po] := by
                have e9 : (jPl k v y pl : Int) = y := by unfold jPl; (repeat' split) <;> omega
                rw [e9]; exact hp
              exact hret _ _ _ _ _ _ () (trivial) hp dX0_jump_47 (Nat.le_of_ble_eq_true rfl) (Nat.le_of_ble_eq_true rfl)
  · skip
    refine lv_aload_n hx hb dX0_jump_6 rfl (lv_at hl 0 rfl) ?_
    refine lv_iload_n hx hb dX0_jump_7 rfl (lv_at hl 2 rfl) ?_
    refine z_put hx hb hts hi0 tyX0 tyX0_ok nmX0 hown hp 0 rfl rfl 3 (by decide) f28 rfl (rfl) (rfl) (Nat.le_of_ble_eq_true rfl) dX0_jump_8 (ws' := [oM q0 a0 b0 c0 v st sp po]) rfl (fun H locs hp => ?_)
    refine lv_goto (tgt := 47) hx hb dX0_jump_11 (by decide) ?_
    have hp : Hp G cI A s H locs [oM q0 a0 b0 c0 (jPl k v y pl) st sp po] := by
      have e9 : (jPl k v y pl : Int) = v := by unfold jPl; (repeat' split) <;> omega
      rw [e9]; exact hp
    exact hret _ _ _ _ _ _ () (trivial) hp dX0_jump_47 (Nat.le_of_ble_eq_true rfl) (Nat.le_of_ble_eq_true rfl)
abbrev rmX0_reckon : Room := { frames := 0, cells := 0, slots := 0, locals := 0 }
set_option maxRecDepth 100000 in
set_option maxHeartbeats 4000000 in
theorem c_X0_reckon (l : Launch) (G : va_G) (cI : ClassId) (sz : Nat) (q0 a0 b0 c0 : Nat) (mem : Nat → Int) (pl st sp po k v q y : Int) (h_0 : rg k) (h_1 : 0 ≤ q ∧ q < 256) (h_2 : rg v) : Met l yX0_reckon wsX0_reckon rmX0_reckon (zPre G cI [oM q0 a0 b0 c0 pl st sp po, aI cI a0 256 mem] sz [.ref q0, .int (iZ (k)), .int (iZ (v)), .int (iZ (q)), .int (iZ (y))]) (va_Qi (fun (r : Int32) (u : Unit) => r = iZ (rVal mem k v q y)) (fun (u : Unit) t => zB G cI (va_A [oM q0 a0 b0 c0 pl st sp po, aI cI a0 256 mem] sz) [oM q0 a0 b0 c0 pl st sp po, aI cI a0 256 mem] t) (va_A [oM q0 a0 b0 c0 pl st sp po, aI cI a0 256 mem] sz)) 0 0 (va_A [oM q0 a0 b0 c0 pl st sp po, aI cI a0 256 mem] sz) := by
  refine zm_i (W1 := fun (u : Unit) => [oM q0 a0 b0 c0 pl st sp po, aI cI a0 256 mem]) (cc := cX0_reckon) (maxL := 5) (ty := .int) (by decide) rfl (Nat.le_of_ble_eq_true rfl) ?_
  intro p e s m args below meth c A Q ls hsz hx hb hml hown hts hret hp hl
  have hl : lv_has ls 5 [(0, .ref q0), (1, .int (iZ (k))), (2, .int (iZ (v))), (3, .int (iZ (q))), (4, .int (iZ (y)))] := hl
  have hi0 : ∀ w ∈ wsX00, w ∈ wsX0_reckon := fun w h => List.mem_cons_of_mem _ (List.mem_append_right _ (h))
  have f9 := hts (.fieldLink RX0 9 "SelfOpener$Machine" "memory" "[I") (List.mem_of_getElem? (i := 1) rfl)
  suffices hw : ∀ (H : Heap) (locs : List Loc), Hp G cI A s H locs [oM q0 a0 b0 c0 pl st sp po, aI cI a0 256 mem] → W p l e rmX0_reckon s m args below meth c H locs 0 0 Q (F0 m 0 ls []) from hw _ _ hp
  clear hp; intro H locs hp
  refine lv_iload_n hx hb dX0_reckon_0 rfl (lv_at hl 1 rfl) ?_
  by_cases hk1 : k = 1
  · skip
    refine z_top (1) hk1 ?_
    refine z_tsI (off := 63) (tgt := 64) hx hb dX0_reckon_1 (by decide) (by decide) (by decide) (by decide +kernel) (by decide) ?_
    refine lv_iload hx hb dX0_reckon_64 (lv_at hl 4 rfl) ?_
    exact hret _ _ _ _ _ _ _ () (congrArg iZ (by unfold rVal; (repeat' split) <;> first | rfl | omega)) hp dX0_reckon_66 (rfl) (Nat.le_of_ble_eq_true rfl) (Nat.le_of_ble_eq_true rfl)
  by_cases hk2 : k = 2
  · skip
    refine z_top (2) hk2 ?_
    refine z_tsI (off := 66) (tgt := 67) hx hb dX0_reckon_1 (by decide) (by decide) (by decide) (by decide +kernel) (by decide) ?_
    refine lv_iload_n hx hb dX0_reckon_67 rfl (lv_at hl 3 rfl) ?_
    exact hret _ _ _ _ _ _ _ () (congrArg iZ (by unfold rVal; (repeat' split) <;> first | rfl | omega)) hp dX0_reckon_68 (rfl) (Nat.le_of_ble_eq_true rfl) (Nat.le_of_ble_eq_true rfl)
  by_cases hk3 : k = 3
  · skip
    refine z_top (3) hk3 ?_
    refine z_tsI (off := 68) (tgt := 69) hx hb dX0_reckon_1 (by decide) (by decide) (by decide) (by decide +kernel) (by decide) ?_
    refine lv_iload_n hx hb dX0_reckon_69 rfl (lv_at hl 2 rfl) ?_
    refine lv_iload_n hx hb dX0_reckon_70 rfl (lv_at hl 3 rfl) ?_
    refine z_iadd hx hb (v + q) (rfl) dX0_reckon_71 ?_
    exact hret _ _ _ _ _ _ _ () (congrArg iZ (by unfold rVal; (repeat' split) <;> first | rfl | omega)) hp dX0_reckon_72 (rfl) (Nat.le_of_ble_eq_true rfl) (Nat.le_of_ble_eq_true rfl)
  by_cases hk4 : k = 4
  · skip
    refine z_top (4) hk4 ?_
    refine z_tsI (off := 72) (tgt := 73) hx hb dX0_reckon_1 (by decide) (by decide) (by decide) (by decide +kernel) (by decide) ?_
    refine lv_iload_n hx hb dX0_reckon_73 rfl (lv_at hl 2 rfl) ?_
    refine lv_iload hx hb dX0_reckon_74 (lv_at hl 4 rfl) ?_
    refine z_iadd hx hb (v + y) (rfl) dX0_reckon_76 ?_
    exact hret _ _ _ _ _ _ _ () (congrArg iZ (by unfold rVal; (repeat' split) <;> first | rfl | omega)) hp dX0_reckon_77 (rfl) (Nat.le_of_ble_eq_true rfl) (Nat.le_of_ble_eq_true rfl)
  by_cases hk5 : k = 5
  · skip
    refine z_top (5) hk5 ?_
    refine z_tsI (off := 77) (tgt := 78) hx hb dX0_reckon_1 (by decide) (by decide) (by decide) (by decide +kernel) (by decide) ?_
    refine lv_aload_n hx hb dX0_reckon_78 rfl (lv_at hl 0 rfl) ?_
    refine z_get hx hb hts hi0 hown hp 0 rfl rfl 0 (by decide) f9 rfl dX0_reckon_79 ?_
    refine lv_iload_n hx hb dX0_reckon_82 rfl (lv_at hl 3 rfl) ?_
    refine z_iald hx hb hp 1 rfl (q.toNat) (by omega) dX0_reckon_83 (mem q.toNat) (rfl) ?_
    exact hret _ _ _ _ _ _ _ () (congrArg iZ (by unfold rVal; (repeat' split) <;> first | rfl | omega)) hp dX0_reckon_84 (rfl) (Nat.le_of_ble_eq_true rfl) (Nat.le_of_ble_eq_true rfl)
  by_cases hk6 : k = 6
  · skip
    refine z_top (6) hk6 ?_
    refine z_tsI (off := 92) (tgt := 93) hx hb dX0_reckon_1 (by decide) (by decide) (by decide) (by decide +kernel) (by decide) ?_
    refine lv_iload_n hx hb dX0_reckon_93 rfl (lv_at hl 2 rfl) ?_
    refine lv_iload hx hb dX0_reckon_94 (lv_at hl 4 rfl) ?_
    refine z_bipush hx hb dX0_reckon_96 (by decide +kernel) ?_
    refine z_iand hx hb (y % 8) (iZ_and7 _) dX0_reckon_98 ?_
    refine z_ishr hx hb (zshr v (y % 8)) (zshr_e _ _) dX0_reckon_99 ?_
    exact hret _ _ _ _ _ _ _ () (congrArg iZ (by unfold rVal; (repeat' split) <;> first | rfl | omega)) hp dX0_reckon_100 (rfl) (Nat.le_of_ble_eq_true rfl) (Nat.le_of_ble_eq_true rfl)
  by_cases hk7 : k = 7
  · skip
    refine z_top (7) hk7 ?_
    refine z_tsI (off := 84) (tgt := 85) hx hb dX0_reckon_1 (by decide) (by decide) (by decide) (by decide +kernel) (by decide) ?_
    refine lv_iload_n hx hb dX0_reckon_85 rfl (lv_at hl 2 rfl) ?_
    refine lv_iload_n hx hb dX0_reckon_86 rfl (lv_at hl 3 rfl) ?_
    refine z_isub hx hb (v - q) (rfl) dX0_reckon_87 ?_
    exact hret _ _ _ _ _ _ _ () (congrArg iZ (by unfold rVal; (repeat' split) <;> first | rfl | omega)) hp dX0_reckon_88 (rfl) (Nat.le_of_ble_eq_true rfl) (Nat.le_of_ble_eq_true rfl)
  by_cases hk8 : k = 8
  · skip
    refine z_top (8) hk8 ?_
    refine z_tsI (off := 92) (tgt := 93) hx hb dX0_reckon_1 (by decide) (by decide) (by decide) (by decide +kernel) (by decide) ?_
    refine lv_iload_n hx hb dX0_reckon_93 rfl (lv_at hl 2 rfl) ?_
    refine lv_iload hx hb dX0_reckon_94 (lv_at hl 4 rfl) ?_
    refine z_bipush hx hb dX0_reckon_96 (by decide +kernel) ?_
    refine z_iand hx hb (y % 8) (iZ_and7 _) dX0_reckon_98 ?_
    refine z_ishr hx hb (zshr v (y % 8)) (zshr_e _ _) dX0_reckon_99 ?_
    exact hret _ _ _ _ _ _ _ () (congrArg iZ (by unfold rVal; (repeat' split) <;> first | rfl | omega)) hp dX0_reckon_100 (rfl) (Nat.le_of_ble_eq_true rfl) (Nat.le_of_ble_eq_true rfl)
  by_cases hk9 : k = 9
  · skip
    refine z_top (9) hk9 ?_
    refine z_tsI (off := 92) (tgt := 93) hx hb dX0_reckon_1 (by decide) (by decide) (by decide) (by decide +kernel) (by decide) ?_
    refine lv_iload_n hx hb dX0_reckon_93 rfl (lv_at hl 2 rfl) ?_
    refine lv_iload hx hb dX0_reckon_94 (lv_at hl 4 rfl) ?_
    refine z_bipush hx hb dX0_reckon_96 (by decide +kernel) ?_
    refine z_iand hx hb (y % 8) (iZ_and7 _) dX0_reckon_98 ?_
    refine z_ishr hx hb (zshr v (y % 8)) (zshr_e _ _) dX0_reckon_99 ?_
    exact hret _ _ _ _ _ _ _ () (congrArg iZ (by unfold rVal; (repeat' split) <;> first | rfl | omega)) hp dX0_reckon_100 (rfl) (Nat.le_of_ble_eq_true rfl) (Nat.le_of_ble_eq_true rfl)
  by_cases hk10 : k = 10
  · skip
    refine z_top (10) hk10 ?_
    refine z_tsI (off := 92) (tgt := 93) hx hb dX0_reckon_1 (by decide) (by decide) (by decide) (by decide +kernel) (by decide) ?_
    refine lv_iload_n hx hb dX0_reckon_93 rfl (lv_at hl 2 rfl) ?_
    refine lv_iload hx hb dX0_reckon_94 (lv_at hl 4 rfl) ?_
    refine z_bipush hx hb dX0_reckon_96 (by decide +kernel) ?_
    refine z_iand hx hb (y % 8) (iZ_and7 _) dX0_reckon_98 ?_
    refine z_ishr hx hb (zshr v (y % 8)) (zshr_e _ _) dX0_reckon_99 ?_
    exact hret _ _ _ _ _ _ _ () (congrArg iZ (by unfold rVal; (repeat' split) <;> first | rfl | omega)) hp dX0_reckon_100 (rfl) (Nat.le_of_ble_eq_true rfl) (Nat.le_of_ble_eq_true rfl)
  by_cases hk11 : k = 11
  · skip
    refine z_top (11) hk11 ?_
    refine z_tsI (off := 92) (tgt := 93) hx hb dX0_reckon_1 (by decide) (by decide) (by decide) (by decide +kernel) (by decide) ?_
    refine lv_iload_n hx hb dX0_reckon_93 rfl (lv_at hl 2 rfl) ?_
    refine lv_iload hx hb dX0_reckon_94 (lv_at hl 4 rfl) ?_
    refine z_bipush hx hb dX0_reckon_96 (by decide +kernel) ?_
    refine z_iand hx hb (y % 8) (iZ_and7 _) dX0_reckon_98 ?_
    refine z_ishr hx hb (zshr v (y % 8)) (zshr_e _ _) dX0_reckon_99 ?_
    exact hret _ _ _ _ _ _ _ () (congrArg iZ (by unfold rVal; (repeat' split) <;> first | rfl | omega)) hp dX0_reckon_100 (rfl) (Nat.le_of_ble_eq_true rfl) (Nat.le_of_ble_eq_true rfl)
  by_cases hk12 : k = 12
  · skip
    refine z_top (12) hk12 ?_
    refine z_tsI (off := 88) (tgt := 89) hx hb dX0_reckon_1 (by decide) (by decide) (by decide) (by decide +kernel) (by decide) ?_
    refine lv_iload_n hx hb dX0_reckon_89 rfl (lv_at hl 2 rfl) ?_
    refine lv_iload_n hx hb dX0_reckon_90 rfl (lv_at hl 3 rfl) ?_
    refine z_iand hx hb (zand v q) (zand_e _ _) dX0_reckon_91 ?_
    exact hret _ _ _ _ _ _ _ () (congrArg iZ (by unfold rVal; (repeat' split) <;> first | rfl | omega)) hp dX0_reckon_92 (rfl) (Nat.le_of_ble_eq_true rfl) (Nat.le_of_ble_eq_true rfl)
  refine z_tsO (tgt := 93) hx hb dX0_reckon_1 (by assumption) (by omega) (by decide) ?_
  refine lv_iload_n hx hb dX0_reckon_93 rfl (lv_at hl 2 rfl) ?_
  refine lv_iload hx hb dX0_reckon_94 (lv_at hl 4 rfl) ?_
  refine z_bipush hx hb dX0_reckon_96 (by decide +kernel) ?_
  refine z_iand hx hb (y % 8) (iZ_and7 _) dX0_reckon_98 ?_
  refine z_ishr hx hb (zshr v (y % 8)) (zshr_e _ _) dX0_reckon_99 ?_
  exact hret _ _ _ _ _ _ _ () (congrArg iZ (by unfold rVal; (repeat' split) <;> first | rfl | omega)) hp dX0_reckon_100 (rfl) (Nat.le_of_ble_eq_true rfl) (Nat.le_of_ble_eq_true rfl)
abbrev rmX0_act : Room := { frames := 1, cells := 0, slots := 0, locals := 40 }
set_option maxRecDepth 100000 in
set_option maxHeartbeats 4000000 in
theorem c_X0_act (l : Launch) (G : va_G) (cI : ClassId) (sz : Nat) (q0 a0 b0 c0 : Nat) (mem regs kept : Nat → Int) (pl st sp po k : Int) (r : Nat) (y : Int) (h_k : 0 ≤ k ∧ k < 16) (h_r : r < 8) (h_y : 0 ≤ y ∧ y < 256) (h_mem : BB mem 256) (h_regs : BB regs 8) (h_po : 0 ≤ po ∧ po < 2147483647) : Met l yX0_act wsX0_act rmX0_act (zPre G cI [oM q0 a0 b0 c0 pl st sp po, aI cI a0 256 mem, aI cI b0 8 regs, aI cI c0 32 kept] sz [.ref q0, .int (iZ (k)), .int (iZ (↑r)), .int (iZ (y))]) (va_Qv (fun (u : Unit) => True) (fun (u : Unit) t => zB G cI (va_A [oM q0 a0 b0 c0 pl st sp po, aI cI a0 256 mem, aI cI b0 8 regs, aI cI c0 32 kept] sz) [oM q0 a0 b0 c0 (aPl regs k r y pl) (aSt k st) sp (aPo k po), aI cI a0 256 (aMem mem regs k r y), aI cI b0 8 (aRegs mem regs k r y), aI cI c0 32 (aKept regs kept k r po)] t) (va_A [oM q0 a0 b0 c0 pl st sp po, aI cI a0 256 mem, aI cI b0 8 regs, aI cI c0 32 kept] sz)) 0 0 (va_A [oM q0 a0 b0 c0 pl st sp po, aI cI a0 256 mem, aI cI b0 8 regs, aI cI c0 32 kept] sz) := by
  refine zm_v (W1 := fun (u : Unit) => [oM q0 a0 b0 c0 (aPl regs k r y pl) (aSt k st) sp (aPo k po), aI cI a0 256 (aMem mem regs k r y), aI cI b0 8 (aRegs mem regs k r y), aI cI c0 32 (aKept regs kept k r po)]) (cc := cX0_act) (maxL := 5) (by decide) rfl (Nat.le_of_ble_eq_true rfl) ?_
  intro p e s m args below meth c A Q ls hsz hx hb hml hown hts hnm hret hp hl
  have hl : lv_has ls 5 [(0, .ref q0), (1, .int (iZ (k))), (2, .int (iZ (↑r))), (3, .int (iZ (y)))] := hl
  have hi0 : ∀ w ∈ wsX00, w ∈ wsX0_act := fun w h => List.mem_cons_of_mem _ (List.mem_append_right _ (h))
  have f15 := hts (.fieldLink RX0 15 "SelfOpener$Machine" "registers" "[I") (List.mem_of_getElem? (i := 1) rfl)
  have f21 := hts (.fieldLink RX0 21 "SelfOpener$Machine" "state" "I") (List.mem_of_getElem? (i := 2) rfl)
  have f9 := hts (.fieldLink RX0 9 "SelfOpener$Machine" "memory" "[I") (List.mem_of_getElem? (i := 3) rfl)
  have f18 := hts (.fieldLink RX0 18 "SelfOpener$Machine" "kept" "[I") (List.mem_of_getElem? (i := 4) rfl)
  have f25 := hts (.fieldLink RX0 25 "SelfOpener$Machine" "putOut" "I") (List.mem_of_getElem? (i := 5) rfl)
  have hq := h_regs (y % 8).toNat (by omega)
  have hv := h_regs r h_r
  suffices hw : ∀ (H : Heap) (locs : List Loc), Hp G cI A s H locs [oM q0 a0 b0 c0 pl st sp po, aI cI a0 256 mem, aI cI b0 8 regs, aI cI c0 32 kept] → W p l e rmX0_act s m args below meth c H locs 0 0 Q (F0 m 0 ls []) from hw _ _ hp
  clear hp; intro H locs hp
  refine lv_aload_n hx hb dX0_act_0 rfl (lv_at hl 0 rfl) ?_
  refine z_get hx hb hts hi0 hown hp 0 rfl rfl 1 (by decide) f15 rfl dX0_act_1 ?_
  refine lv_iload_n hx hb dX0_act_4 rfl (lv_at hl 3 rfl) ?_
  refine z_bipush hx hb dX0_act_5 (by decide +kernel) ?_
  refine z_iand hx hb (y % 8) (iZ_and7 _) dX0_act_7 ?_
  refine z_iald hx hb hp 2 rfl ((y % 8).toNat) (by omega) dX0_act_8 (regs ((y % 8).toNat)) (rfl) ?_
  refine lv_istore (lv' := [(4, .int (iZ (regs ((y % 8).toNat)))), (0, .ref q0), (1, .int (iZ (k))), (2, .int (iZ (↑r))), (3, .int (iZ (y)))]) hx hb dX0_act_9 hl (by decide) rfl (fun ls hl => ?_)
  refine lv_iload_n hx hb dX0_act_11 rfl (lv_at hl 2 rfl) ?_
  by_cases hk1 : k = 0
  · skip
    refine z_top (0) hk1 ?_
    refine z_tsI (off := 80) (tgt := 92) hx hb dX0_act_12 (by decide) (by decide) (by decide) (by decide +kernel) (by decide) ?_
    subst hk1
    refine lv_aload_n hx hb dX0_act_92 rfl (lv_at hl 1 rfl) ?_
    refine z_iconst hx hb dX0_act_93 ?_
    refine z_put hx hb hts hi0 tyX0 tyX0_ok nmX0 hown hp 0 rfl rfl 4 (by decide) f21 rfl (rfl) (rfl) (Nat.le_of_ble_eq_true rfl) dX0_act_94 (ws' := [oM q0 a0 b0 c0 pl 1 sp po, aI cI a0 256 mem, aI cI b0 8 regs, aI cI c0 32 kept]) rfl (fun H locs hp => ?_)
    refine lv_goto (tgt := 194) hx hb dX0_act_97 (by decide) ?_
    exact hret _ _ _ _ _ _ () (trivial) hp dX0_act_194 (Nat.le_of_ble_eq_true rfl) (Nat.le_of_ble_eq_true rfl)
  by_cases hk2 : k = 1
  · skip
    refine z_top (1) hk2 ?_
    refine z_tsI (off := 158) (tgt := 170) hx hb dX0_act_12 (by decide) (by decide) (by decide) (by decide +kernel) (by decide) ?_
    subst hk2
    refine lv_aload_n hx hb dX0_act_170 rfl (lv_at hl 1 rfl) ?_
    refine z_get hx hb hts hi0 hown hp 0 rfl rfl 1 (by decide) f15 rfl dX0_act_171 ?_
    refine lv_iload_n hx hb dX0_act_174 rfl (lv_at hl 3 rfl) ?_
    refine lv_aload_n hx hb dX0_act_175 rfl (lv_at hl 1 rfl) ?_
    refine lv_iload_n hx hb dX0_act_176 rfl (lv_at hl 2 rfl) ?_
    refine lv_aload_n hx hb dX0_act_177 rfl (lv_at hl 1 rfl) ?_
    refine z_get hx hb hts hi0 hown hp 0 rfl rfl 1 (by decide) f15 rfl dX0_act_178 ?_
    refine lv_iload_n hx hb dX0_act_181 rfl (lv_at hl 3 rfl) ?_
    refine z_iald hx hb hp 2 rfl (r) (by omega) dX0_act_182 (regs r) (rfl) ?_
    refine lv_iload hx hb dX0_act_183 (lv_at hl 0 rfl) ?_
    refine lv_iload_n hx hb dX0_act_185 rfl (lv_at hl 4 rfl) ?_
    refine zc_i (wr := [aI cI b0 8 regs, aI cI c0 32 kept]) (W0 := [oM q0 a0 b0 c0 pl st sp po, aI cI a0 256 mem]) (wl2 := fun (u : Unit) => [oM q0 a0 b0 c0 pl st sp po, aI cI a0 256 mem, aI cI b0 8 regs, aI cI c0 32 kept]) (As := [.int (iZ (1)), .int (iZ (regs r)), .int (iZ (regs ((y % 8).toNat))), .int (iZ (y))]) (rest := [.int (iZ (↑r)), .ref b0]) hx hb hml hown hts hp (c_X0_reckon l G cI H.size q0 a0 b0 c0 mem pl st sp po 1 (regs r) (regs (y % 8).toNat) y (by omega) (by omega) (by omega)) zPre_blind (z_pre hp [0, 1] rfl (by decide) [.ref q0, .int (iZ (1)), .int (iZ (regs r)), .int (iZ (regs ((y % 8).toNat))), .int (iZ (y))]) (cwV 4 hts gX0_act_X0_reckon rfl rfl rfl (by decide +kernel) ⟨Nat.le_of_ble_eq_true rfl, Nat.le_of_ble_eq_true rfl⟩) [0, 1] [2, 3] [2, 3, 0, 1] rfl rfl ⟨by decide, by decide, by decide⟩ (fun _ => rfl) 0 0 rfl rfl rfl rfl hl.1 rfl (Nat.le_of_ble_eq_true rfl) dX0_act_186 ⟨Nat.le_of_ble_eq_true rfl, Nat.le_of_ble_eq_true rfl⟩ (fun rv u H locs hq3 hp => ?_)
    obtain rfl : rv = iZ (rVal mem 1 (regs r) (regs (y % 8).toNat) y) := hq3
    refine z_sipush hx hb dX0_act_189 (by decide +kernel) ?_
    refine z_iand hx hb (aVal mem regs 1 r y) (by rw [iZ_and255]; exact congrArg iZ (rVal_m (by omega) h_mem h_regs h_r h_y)) dX0_act_192 ?_
    refine z_iast hx hb hp 2 rfl (r) (by omega) dX0_act_193 (ws' := [oM q0 a0 b0 c0 pl st sp po, aI cI a0 256 mem, aI cI b0 8 (upZ regs r (aVal mem regs 1 r y)), aI cI c0 32 kept]) rfl (fun H locs hp => ?_)
    exact hret _ _ _ _ _ _ () (trivial) hp dX0_act_194 (Nat.le_of_ble_eq_true rfl) (Nat.le_of_ble_eq_true rfl)
  by_cases hk4 : k = 2
  · skip
    refine z_top (2) hk4 ?_
    refine z_tsI (off := 158) (tgt := 170) hx hb dX0_act_12 (by decide) (by decide) (by decide) (by decide +kernel) (by decide) ?_
    subst hk4
    refine lv_aload_n hx hb dX0_act_170 rfl (lv_at hl 1 rfl) ?_
    refine z_get hx hb hts hi0 hown hp 0 rfl rfl 1 (by decide) f15 rfl dX0_act_171 ?_
    refine lv_iload_n hx hb dX0_act_174 rfl (lv_at hl 3 rfl) ?_
    refine lv_aload_n hx hb dX0_act_175 rfl (lv_at hl 1 rfl) ?_
    refine lv_iload_n hx hb dX0_act_176 rfl (lv_at hl 2 rfl) ?_
    refine lv_aload_n hx hb dX0_act_177 rfl (lv_at hl 1 rfl) ?_
    refine z_get hx hb hts hi0 hown hp 0 rfl rfl 1 (by decide) f15 rfl dX0_act_178 ?_
    refine lv_iload_n hx hb dX0_act_181 rfl (lv_at hl 3 rfl) ?_
    refine z_iald hx hb hp 2 rfl (r) (by omega) dX0_act_182 (regs r) (rfl) ?_
    refine lv_iload hx hb dX0_act_183 (lv_at hl 0 rfl) ?_
    refine lv_iload_n hx hb dX0_act_185 rfl (lv_at hl 4 rfl) ?_
    refine zc_i (wr := [aI cI b0 8 regs, aI cI c0 32 kept]) (W0 := [oM q0 a0 b0 c0 pl st sp po, aI cI a0 256 mem]) (wl2 := fun (u : Unit) => [oM q0 a0 b0 c0 pl st sp po, aI cI a0 256 mem, aI cI b0 8 regs, aI cI c0 32 kept]) (As := [.int (iZ (2)), .int (iZ (regs r)), .int (iZ (regs ((y % 8).toNat))), .int (iZ (y))]) (rest := [.int (iZ (↑r)), .ref b0]) hx hb hml hown hts hp (c_X0_reckon l G cI H.size q0 a0 b0 c0 mem pl st sp po 2 (regs r) (regs (y % 8).toNat) y (by omega) (by omega) (by omega)) zPre_blind (z_pre hp [0, 1] rfl (by decide) [.ref q0, .int (iZ (2)), .int (iZ (regs r)), .int (iZ (regs ((y % 8).toNat))), .int (iZ (y))]) (cwV 4 hts gX0_act_X0_reckon rfl rfl rfl (by decide +kernel) ⟨Nat.le_of_ble_eq_true rfl, Nat.le_of_ble_eq_true rfl⟩) [0, 1] [2, 3] [2, 3, 0, 1] rfl rfl ⟨by decide, by decide, by decide⟩ (fun _ => rfl) 0 0 rfl rfl rfl rfl hl.1 rfl (Nat.le_of_ble_eq_true rfl) dX0_act_186 ⟨Nat.le_of_ble_eq_true rfl, Nat.le_of_ble_eq_true rfl⟩ (fun rv u H locs hq5 hp => ?_)
    obtain rfl : rv = iZ (rVal mem 2 (regs r) (regs (y % 8).toNat) y) := hq5
    refine z_sipush hx hb dX0_act_189 (by decide +kernel) ?_
    refine z_iand hx hb (aVal mem regs 2 r y) (by rw [iZ_and255]; exact congrArg iZ (rVal_m (by omega) h_mem h_regs h_r h_y)) dX0_act_192 ?_
    refine z_iast hx hb hp 2 rfl (r) (by omega) dX0_act_193 (ws' := [oM q0 a0 b0 c0 pl st sp po, aI cI a0 256 mem, aI cI b0 8 (upZ regs r (aVal mem regs 2 r y)), aI cI c0 32 kept]) rfl (fun H locs hp => ?_)
    exact hret _ _ _ _ _ _ () (trivial) hp dX0_act_194 (Nat.le_of_ble_eq_true rfl) (Nat.le_of_ble_eq_true rfl)
  by_cases hk6 : k = 3
  · skip
    refine z_top (3) hk6 ?_
    refine z_tsI (off := 158) (tgt := 170) hx hb dX0_act_12 (by decide) (by decide) (by decide) (by decide +kernel) (by decide) ?_
    subst hk6
    refine lv_aload_n hx hb dX0_act_170 rfl (lv_at hl 1 rfl) ?_
    refine z_get hx hb hts hi0 hown hp 0 rfl rfl 1 (by decide) f15 rfl dX0_act_171 ?_
    refine lv_iload_n hx hb dX0_act_174 rfl (lv_at hl 3 rfl) ?_
    refine lv_aload_n hx hb dX0_act_175 rfl (lv_at hl 1 rfl) ?_
    refine lv_iload_n hx hb dX0_act_176 rfl (lv_at hl 2 rfl) ?_
    refine lv_aload_n hx hb dX0_act_177 rfl (lv_at hl 1 rfl) ?_
    refine z_get hx hb hts hi0 hown hp 0 rfl rfl 1 (by decide) f15 rfl dX0_act_178 ?_
    refine lv_iload_n hx hb dX0_act_181 rfl (lv_at hl 3 rfl) ?_
    refine z_iald hx hb hp 2 rfl (r) (by omega) dX0_act_182 (regs r) (rfl) ?_
    refine lv_iload hx hb dX0_act_183 (lv_at hl 0 rfl) ?_
    refine lv_iload_n hx hb dX0_act_185 rfl (lv_at hl 4 rfl) ?_
    refine zc_i (wr := [aI cI b0 8 regs, aI cI c0 32 kept]) (W0 := [oM q0 a0 b0 c0 pl st sp po, aI cI a0 256 mem]) (wl2 := fun (u : Unit) => [oM q0 a0 b0 c0 pl st sp po, aI cI a0 256 mem, aI cI b0 8 regs, aI cI c0 32 kept]) (As := [.int (iZ (3)), .int (iZ (regs r)), .int (iZ (regs ((y % 8).toNat))), .int (iZ (y))]) (rest := [.int (iZ (↑r)), .ref b0]) hx hb hml hown hts hp (c_X0_reckon l G cI H.size q0 a0 b0 c0 mem pl st sp po 3 (regs r) (regs (y % 8).toNat) y (by omega) (by omega) (by omega)) zPre_blind (z_pre hp [0, 1] rfl (by decide) [.ref q0, .int (iZ (3)), .int (iZ (regs r)), .int (iZ (regs ((y % 8).toNat))), .int (iZ (y))]) (cwV 4 hts gX0_act_X0_reckon rfl rfl rfl (by decide +kernel) ⟨Nat.le_of_ble_eq_true rfl, Nat.le_of_ble_eq_true rfl⟩) [0, 1] [2, 3] [2, 3, 0, 1] rfl rfl ⟨by decide, by decide, by decide⟩ (fun _ => rfl) 0 0 rfl rfl rfl rfl hl.1 rfl (Nat.le_of_ble_eq_true rfl) dX0_act_186 ⟨Nat.le_of_ble_eq_true rfl, Nat.le_of_ble_eq_true rfl⟩ (fun rv u H locs hq7 hp => ?_)
    obtain rfl : rv = iZ (rVal mem 3 (regs r) (regs (y % 8).toNat) y) := hq7
    refine z_sipush hx hb dX0_act_189 (by decide +kernel) ?_
    refine z_iand hx hb (aVal mem regs 3 r y) (by rw [iZ_and255]; exact congrArg iZ (rVal_m (by omega) h_mem h_regs h_r h_y)) dX0_act_192 ?_
    refine z_iast hx hb hp 2 rfl (r) (by omega) dX0_act_193 (ws' := [oM q0 a0 b0 c0 pl st sp po, aI cI a0 256 mem, aI cI b0 8 (upZ regs r (aVal mem regs 3 r y)), aI cI c0 32 kept]) rfl (fun H locs hp => ?_)
    exact hret _ _ _ _ _ _ () (trivial) hp dX0_act_194 (Nat.le_of_ble_eq_true rfl) (Nat.le_of_ble_eq_true rfl)
  by_cases hk8 : k = 4
  · skip
    refine z_top (4) hk8 ?_
    refine z_tsI (off := 158) (tgt := 170) hx hb dX0_act_12 (by decide) (by decide) (by decide) (by decide +kernel) (by decide) ?_
    subst hk8
    refine lv_aload_n hx hb dX0_act_170 rfl (lv_at hl 1 rfl) ?_
    refine z_get hx hb hts hi0 hown hp 0 rfl rfl 1 (by decide) f15 rfl dX0_act_171 ?_
    refine lv_iload_n hx hb dX0_act_174 rfl (lv_at hl 3 rfl) ?_
    refine lv_aload_n hx hb dX0_act_175 rfl (lv_at hl 1 rfl) ?_
    refine lv_iload_n hx hb dX0_act_176 rfl (lv_at hl 2 rfl) ?_
    refine lv_aload_n hx hb dX0_act_177 rfl (lv_at hl 1 rfl) ?_
    refine z_get hx hb hts hi0 hown hp 0 rfl rfl 1 (by decide) f15 rfl dX0_act_178 ?_
    refine lv_iload_n hx hb dX0_act_181 rfl (lv_at hl 3 rfl) ?_
    refine z_iald hx hb hp 2 rfl (r) (by omega) dX0_act_182 (regs r) (rfl) ?_
    refine lv_iload hx hb dX0_act_183 (lv_at hl 0 rfl) ?_
    refine lv_iload_n hx hb dX0_act_185 rfl (lv_at hl 4 rfl) ?_
    refine zc_i (wr := [aI cI b0 8 regs, aI cI c0 32 kept]) (W0 := [oM q0 a0 b0 c0 pl st sp po, aI cI a0 256 mem]) (wl2 := fun (u : Unit) => [oM q0 a0 b0 c0 pl st sp po, aI cI a0 256 mem, aI cI b0 8 regs, aI cI c0 32 kept]) (As := [.int (iZ (4)), .int (iZ (regs r)), .int (iZ (regs ((y % 8).toNat))), .int (iZ (y))]) (rest := [.int (iZ (↑r)), .ref b0]) hx hb hml hown hts hp (c_X0_reckon l G cI H.size q0 a0 b0 c0 mem pl st sp po 4 (regs r) (regs (y % 8).toNat) y (by omega) (by omega) (by omega)) zPre_blind (z_pre hp [0, 1] rfl (by decide) [.ref q0, .int (iZ (4)), .int (iZ (regs r)), .int (iZ (regs ((y % 8).toNat))), .int (iZ (y))]) (cwV 4 hts gX0_act_X0_reckon rfl rfl rfl (by decide +kernel) ⟨Nat.le_of_ble_eq_true rfl, Nat.le_of_ble_eq_true rfl⟩) [0, 1] [2, 3] [2, 3, 0, 1] rfl rfl ⟨by decide, by decide, by decide⟩ (fun _ => rfl) 0 0 rfl rfl rfl rfl hl.1 rfl (Nat.le_of_ble_eq_true rfl) dX0_act_186 ⟨Nat.le_of_ble_eq_true rfl, Nat.le_of_ble_eq_true rfl⟩ (fun rv u H locs hq9 hp => ?_)
    obtain rfl : rv = iZ (rVal mem 4 (regs r) (regs (y % 8).toNat) y) := hq9
    refine z_sipush hx hb dX0_act_189 (by decide +kernel) ?_
    refine z_iand hx hb (aVal mem regs 4 r y) (by rw [iZ_and255]; exact congrArg iZ (rVal_m (by omega) h_mem h_regs h_r h_y)) dX0_act_192 ?_
    refine z_iast hx hb hp 2 rfl (r) (by omega) dX0_act_193 (ws' := [oM q0 a0 b0 c0 pl st sp po, aI cI a0 256 mem, aI cI b0 8 (upZ regs r (aVal mem regs 4 r y)), aI cI c0 32 kept]) rfl (fun H locs hp => ?_)
    exact hret _ _ _ _ _ _ () (trivial) hp dX0_act_194 (Nat.le_of_ble_eq_true rfl) (Nat.le_of_ble_eq_true rfl)
  by_cases hk10 : k = 5
  · skip
    refine z_top (5) hk10 ?_
    refine z_tsI (off := 158) (tgt := 170) hx hb dX0_act_12 (by decide) (by decide) (by decide) (by decide +kernel) (by decide) ?_
    subst hk10
    refine lv_aload_n hx hb dX0_act_170 rfl (lv_at hl 1 rfl) ?_
    refine z_get hx hb hts hi0 hown hp 0 rfl rfl 1 (by decide) f15 rfl dX0_act_171 ?_
    refine lv_iload_n hx hb dX0_act_174 rfl (lv_at hl 3 rfl) ?_
    refine lv_aload_n hx hb dX0_act_175 rfl (lv_at hl 1 rfl) ?_
    refine lv_iload_n hx hb dX0_act_176 rfl (lv_at hl 2 rfl) ?_
    refine lv_aload_n hx hb dX0_act_177 rfl (lv_at hl 1 rfl) ?_
    refine z_get hx hb hts hi0 hown hp 0 rfl rfl 1 (by decide) f15 rfl dX0_act_178 ?_
    refine lv_iload_n hx hb dX0_act_181 rfl (lv_at hl 3 rfl) ?_
    refine z_iald hx hb hp 2 rfl (r) (by omega) dX0_act_182 (regs r) (rfl) ?_
    refine lv_iload hx hb dX0_act_183 (lv_at hl 0 rfl) ?_
    refine lv_iload_n hx hb dX0_act_185 rfl (lv_at hl 4 rfl) ?_
    refine zc_i (wr := [aI cI b0 8 regs, aI cI c0 32 kept]) (W0 := [oM q0 a0 b0 c0 pl st sp po, aI cI a0 256 mem]) (wl2 := fun (u : Unit) => [oM q0 a0 b0 c0 pl st sp po, aI cI a0 256 mem, aI cI b0 8 regs, aI cI c0 32 kept]) (As := [.int (iZ (5)), .int (iZ (regs r)), .int (iZ (regs ((y % 8).toNat))), .int (iZ (y))]) (rest := [.int (iZ (↑r)), .ref b0]) hx hb hml hown hts hp (c_X0_reckon l G cI H.size q0 a0 b0 c0 mem pl st sp po 5 (regs r) (regs (y % 8).toNat) y (by omega) (by omega) (by omega)) zPre_blind (z_pre hp [0, 1] rfl (by decide) [.ref q0, .int (iZ (5)), .int (iZ (regs r)), .int (iZ (regs ((y % 8).toNat))), .int (iZ (y))]) (cwV 4 hts gX0_act_X0_reckon rfl rfl rfl (by decide +kernel) ⟨Nat.le_of_ble_eq_true rfl, Nat.le_of_ble_eq_true rfl⟩) [0, 1] [2, 3] [2, 3, 0, 1] rfl rfl ⟨by decide, by decide, by decide⟩ (fun _ => rfl) 0 0 rfl rfl rfl rfl hl.1 rfl (Nat.le_of_ble_eq_true rfl) dX0_act_186 ⟨Nat.le_of_ble_eq_true rfl, Nat.le_of_ble_eq_true rfl⟩ (fun rv u H locs hq11 hp => ?_)
    obtain rfl : rv = iZ (rVal mem 5 (regs r) (regs (y % 8).toNat) y) := hq11
    refine z_sipush hx hb dX0_act_189 (by decide +kernel) ?_
    refine z_iand hx hb (aVal mem regs 5 r y) (by rw [iZ_and255]; exact congrArg iZ (rVal_m (by omega) h_mem h_regs h_r h_y)) dX0_act_192 ?_
    refine z_iast hx hb hp 2 rfl (r) (by omega) dX0_act_193 (ws' := [oM q0 a0 b0 c0 pl st sp po, aI cI a0 256 mem, aI cI b0 8 (upZ regs r (aVal mem regs 5 r y)), aI cI c0 32 kept]) rfl (fun H locs hp => ?_)
    exact hret _ _ _ _ _ _ () (trivial) hp dX0_act_194 (Nat.le_of_ble_eq_true rfl) (Nat.le_of_ble_eq_true rfl)
  by_cases hk12 : k = 6
  · skip
    refine z_top (6) hk12 ?_
    refine z_tsI (off := 88) (tgt := 100) hx hb dX0_act_12 (by decide) (by decide) (by decide) (by decide +kernel) (by decide) ?_
    subst hk12
    refine lv_aload_n hx hb dX0_act_100 rfl (lv_at hl 1 rfl) ?_
    refine z_get hx hb hts hi0 hown hp 0 rfl rfl 0 (by decide) f9 rfl dX0_act_101 ?_
    refine lv_iload hx hb dX0_act_104 (lv_at hl 0 rfl) ?_
    refine lv_aload_n hx hb dX0_act_106 rfl (lv_at hl 1 rfl) ?_
    refine z_get hx hb hts hi0 hown hp 0 rfl rfl 1 (by decide) f15 rfl dX0_act_107 ?_
    refine lv_iload_n hx hb dX0_act_110 rfl (lv_at hl 3 rfl) ?_
    refine z_iald hx hb hp 2 rfl (r) (by omega) dX0_act_111 (regs r) (rfl) ?_
    refine z_iast hx hb hp 1 rfl ((regs (y % 8).toNat).toNat) (by omega) dX0_act_112 (ws' := [oM q0 a0 b0 c0 pl st sp po, aI cI a0 256 (upZ mem ((regs (y % 8).toNat).toNat) (regs r)), aI cI b0 8 regs, aI cI c0 32 kept]) rfl (fun H locs hp => ?_)
    refine lv_goto (tgt := 194) hx hb dX0_act_113 (by decide) ?_
    exact hret _ _ _ _ _ _ () (trivial) hp dX0_act_194 (Nat.le_of_ble_eq_true rfl) (Nat.le_of_ble_eq_true rfl)
  by_cases hk13 : k = 7
  · skip
    refine z_top (7) hk13 ?_
    refine z_tsI (off := 158) (tgt := 170) hx hb dX0_act_12 (by decide) (by decide) (by decide) (by decide +kernel) (by decide) ?_
    subst hk13
    refine lv_aload_n hx hb dX0_act_170 rfl (lv_at hl 1 rfl) ?_
    refine z_get hx hb hts hi0 hown hp 0 rfl rfl 1 (by decide) f15 rfl dX0_act_171 ?_
    refine lv_iload_n hx hb dX0_act_174 rfl (lv_at hl 3 rfl) ?_
    refine lv_aload_n hx hb dX0_act_175 rfl (lv_at hl 1 rfl) ?_
    refine lv_iload_n hx hb dX0_act_176 rfl (lv_at hl 2 rfl) ?_
    refine lv_aload_n hx hb dX0_act_177 rfl (lv_at hl 1 rfl) ?_
    refine z_get hx hb hts hi0 hown hp 0 rfl rfl 1 (by decide) f15 rfl dX0_act_178 ?_
    refine lv_iload_n hx hb dX0_act_181 rfl (lv_at hl 3 rfl) ?_
    refine z_iald hx hb hp 2 rfl (r) (by omega) dX0_act_182 (regs r) (rfl) ?_
    refine lv_iload hx hb dX0_act_183 (lv_at hl 0 rfl) ?_
    refine lv_iload_n hx hb dX0_act_185 rfl (lv_at hl 4 rfl) ?_
    refine zc_i (wr := [aI cI b0 8 regs, aI cI c0 32 kept]) (W0 := [oM q0 a0 b0 c0 pl st sp po, aI cI a0 256 mem]) (wl2 := fun (u : Unit) => [oM q0 a0 b0 c0 pl st sp po, aI cI a0 256 mem, aI cI b0 8 regs, aI cI c0 32 kept]) (As := [.int (iZ (7)), .int (iZ (regs r)), .int (iZ (regs ((y % 8).toNat))), .int (iZ (y))]) (rest := [.int (iZ (↑r)), .ref b0]) hx hb hml hown hts hp (c_X0_reckon l G cI H.size q0 a0 b0 c0 mem pl st sp po 7 (regs r) (regs (y % 8).toNat) y (by omega) (by omega) (by omega)) zPre_blind (z_pre hp [0, 1] rfl (by decide) [.ref q0, .int (iZ (7)), .int (iZ (regs r)), .int (iZ (regs ((y % 8).toNat))), .int (iZ (y))]) (cwV 4 hts gX0_act_X0_reckon rfl rfl rfl (by decide +kernel) ⟨Nat.le_of_ble_eq_true rfl, Nat.le_of_ble_eq_true rfl⟩) [0, 1] [2, 3] [2, 3, 0, 1] rfl rfl ⟨by decide, by decide, by decide⟩ (fun _ => rfl) 0 0 rfl rfl rfl rfl hl.1 rfl (Nat.le_of_ble_eq_true rfl) dX0_act_186 ⟨Nat.le_of_ble_eq_true rfl, Nat.le_of_ble_eq_true rfl⟩ (fun rv u H locs hq14 hp => ?_)
    obtain rfl : rv = iZ (rVal mem 7 (regs r) (regs (y % 8).toNat) y) := hq14
    refine z_sipush hx hb dX0_act_189 (by decide +kernel) ?_
    refine z_iand hx hb (aVal mem regs 7 r y) (by rw [iZ_and255]; exact congrArg iZ (rVal_m (by omega) h_mem h_regs h_r h_y)) dX0_act_192 ?_
    refine z_iast hx hb hp 2 rfl (r) (by omega) dX0_act_193 (ws' := [oM q0 a0 b0 c0 pl st sp po, aI cI a0 256 mem, aI cI b0 8 (upZ regs r (aVal mem regs 7 r y)), aI cI c0 32 kept]) rfl (fun H locs hp => ?_)
    exact hret _ _ _ _ _ _ () (trivial) hp dX0_act_194 (Nat.le_of_ble_eq_true rfl) (Nat.le_of_ble_eq_true rfl)
  by_cases hk15 : k = 8
  · skip
    refine z_top (8) hk15 ?_
    refine z_tsI (off := 104) (tgt := 116) hx hb dX0_act_12 (by decide) (by decide) (by decide) (by decide +kernel) (by decide) ?_
    subst hk15
    refine lv_aload_n hx hb dX0_act_116 rfl (lv_at hl 1 rfl) ?_
    refine lv_iload_n hx hb dX0_act_117 rfl (lv_at hl 2 rfl) ?_
    refine lv_aload_n hx hb dX0_act_118 rfl (lv_at hl 1 rfl) ?_
    refine z_get hx hb hts hi0 hown hp 0 rfl rfl 1 (by decide) f15 rfl dX0_act_119 ?_
    refine lv_iload_n hx hb dX0_act_122 rfl (lv_at hl 3 rfl) ?_
    refine z_iald hx hb hp 2 rfl (r) (by omega) dX0_act_123 (regs r) (rfl) ?_
    refine lv_iload_n hx hb dX0_act_124 rfl (lv_at hl 4 rfl) ?_
    refine zc_v (wr := [aI cI a0 256 mem, aI cI b0 8 regs, aI cI c0 32 kept]) (W0 := [oM q0 a0 b0 c0 pl st sp po]) (wl2 := fun (u : Unit) => [oM q0 a0 b0 c0 (jPl 8 (regs r) y pl) st sp po, aI cI a0 256 mem, aI cI b0 8 regs, aI cI c0 32 kept]) (As := [.int (iZ (8)), .int (iZ (regs r)), .int (iZ (y))]) (rest := []) hx hb hml hown hts hp (c_X0_jump l G cI H.size q0 a0 b0 c0 pl st sp po 8 (regs r) y (by omega) (by omega)) zPre_blind (z_pre hp [0] rfl (by decide) [.ref q0, .int (iZ (8)), .int (iZ (regs r)), .int (iZ (y))]) (cwV 3 hts gX0_act_X0_jump rfl rfl rfl (by decide +kernel) ⟨Nat.le_of_ble_eq_true rfl, Nat.le_of_ble_eq_true rfl⟩) [0] [1, 2, 3] [3, 0, 1, 2] rfl rfl ⟨by decide, by decide, by decide⟩ (fun _ => rfl) 0 0 rfl rfl rfl rfl hl.1 rfl (Nat.le_of_ble_eq_true rfl) dX0_act_125 ⟨Nat.le_of_ble_eq_true rfl, Nat.le_of_ble_eq_true rfl⟩ (fun u H locs hq16 hp => ?_)
    refine lv_goto (tgt := 194) hx hb dX0_act_128 (by decide) ?_
    have hp : Hp G cI A s H locs [oM q0 a0 b0 c0 (aPl regs 8 r y pl) st sp po, aI cI a0 256 mem, aI cI b0 8 regs, aI cI c0 32 kept] := by
      have e9 : (aPl regs 8 r y pl : Int) = jPl 8 (regs r) y pl := by unfold aPl jPl; (repeat' split) <;> omega
      rw [e9]; exact hp
    exact hret _ _ _ _ _ _ () (trivial) hp dX0_act_194 (Nat.le_of_ble_eq_true rfl) (Nat.le_of_ble_eq_true rfl)
  by_cases hk17 : k = 9
  · skip
    refine z_top (9) hk17 ?_
    refine z_tsI (off := 104) (tgt := 116) hx hb dX0_act_12 (by decide) (by decide) (by decide) (by decide +kernel) (by decide) ?_
    subst hk17
    refine lv_aload_n hx hb dX0_act_116 rfl (lv_at hl 1 rfl) ?_
    refine lv_iload_n hx hb dX0_act_117 rfl (lv_at hl 2 rfl) ?_
    refine lv_aload_n hx hb dX0_act_118 rfl (lv_at hl 1 rfl) ?_
    refine z_get hx hb hts hi0 hown hp 0 rfl rfl 1 (by decide) f15 rfl dX0_act_119 ?_
    refine lv_iload_n hx hb dX0_act_122 rfl (lv_at hl 3 rfl) ?_
    refine z_iald hx hb hp 2 rfl (r) (by omega) dX0_act_123 (regs r) (rfl) ?_
    refine lv_iload_n hx hb dX0_act_124 rfl (lv_at hl 4 rfl) ?_
    refine zc_v (wr := [aI cI a0 256 mem, aI cI b0 8 regs, aI cI c0 32 kept]) (W0 := [oM q0 a0 b0 c0 pl st sp po]) (wl2 := fun (u : Unit) => [oM q0 a0 b0 c0 (jPl 9 (regs r) y pl) st sp po, aI cI a0 256 mem, aI cI b0 8 regs, aI cI c0 32 kept]) (As := [.int (iZ (9)), .int (iZ (regs r)), .int (iZ (y))]) (rest := []) hx hb hml hown hts hp (c_X0_jump l G cI H.size q0 a0 b0 c0 pl st sp po 9 (regs r) y (by omega) (by omega)) zPre_blind (z_pre hp [0] rfl (by decide) [.ref q0, .int (iZ (9)), .int (iZ (regs r)), .int (iZ (y))]) (cwV 3 hts gX0_act_X0_jump rfl rfl rfl (by decide +kernel) ⟨Nat.le_of_ble_eq_true rfl, Nat.le_of_ble_eq_true rfl⟩) [0] [1, 2, 3] [3, 0, 1, 2] rfl rfl ⟨by decide, by decide, by decide⟩ (fun _ => rfl) 0 0 rfl rfl rfl rfl hl.1 rfl (Nat.le_of_ble_eq_true rfl) dX0_act_125 ⟨Nat.le_of_ble_eq_true rfl, Nat.le_of_ble_eq_true rfl⟩ (fun u H locs hq18 hp => ?_)
    refine lv_goto (tgt := 194) hx hb dX0_act_128 (by decide) ?_
    have hp : Hp G cI A s H locs [oM q0 a0 b0 c0 (aPl regs 9 r y pl) st sp po, aI cI a0 256 mem, aI cI b0 8 regs, aI cI c0 32 kept] := by
      have e9 : (aPl regs 9 r y pl : Int) = jPl 9 (regs r) y pl := by unfold aPl jPl; (repeat' split) <;> omega
      rw [e9]; exact hp
    exact hret _ _ _ _ _ _ () (trivial) hp dX0_act_194 (Nat.le_of_ble_eq_true rfl) (Nat.le_of_ble_eq_true rfl)
  by_cases hk19 : k = 10
  · skip
    refine z_top (10) hk19 ?_
    refine z_tsI (off := 104) (tgt := 116) hx hb dX0_act_12 (by decide) (by decide) (by decide) (by decide +kernel) (by decide) ?_
    subst hk19
    refine lv_aload_n hx hb dX0_act_116 rfl (lv_at hl 1 rfl) ?_
    refine lv_iload_n hx hb dX0_act_117 rfl (lv_at hl 2 rfl) ?_
    refine lv_aload_n hx hb dX0_act_118 rfl (lv_at hl 1 rfl) ?_
    refine z_get hx hb hts hi0 hown hp 0 rfl rfl 1 (by decide) f15 rfl dX0_act_119 ?_
    refine lv_iload_n hx hb dX0_act_122 rfl (lv_at hl 3 rfl) ?_
    refine z_iald hx hb hp 2 rfl (r) (by omega) dX0_act_123 (regs r) (rfl) ?_
    refine lv_iload_n hx hb dX0_act_124 rfl (lv_at hl 4 rfl) ?_
    refine zc_v (wr := [aI cI a0 256 mem, aI cI b0 8 regs, aI cI c0 32 kept]) (W0 := [oM q0 a0 b0 c0 pl st sp po]) (wl2 := fun (u : Unit) => [oM q0 a0 b0 c0 (jPl 10 (regs r) y pl) st sp po, aI cI a0 256 mem, aI cI b0 8 regs, aI cI c0 32 kept]) (As := [.int (iZ (10)), .int (iZ (regs r)), .int (iZ (y))]) (rest := []) hx hb hml hown hts hp (c_X0_jump l G cI H.size q0 a0 b0 c0 pl st sp po 10 (regs r) y (by omega) (by omega)) zPre_blind (z_pre hp [0] rfl (by decide) [.ref q0, .int (iZ (10)), .int (iZ (regs r)), .int (iZ (y))]) (cwV 3 hts gX0_act_X0_jump rfl rfl rfl (by decide +kernel) ⟨Nat.le_of_ble_eq_true rfl, Nat.le_of_ble_eq_true rfl⟩) [0] [1, 2, 3] [3, 0, 1, 2] rfl rfl ⟨by decide, by decide, by decide⟩ (fun _ => rfl) 0 0 rfl rfl rfl rfl hl.1 rfl (Nat.le_of_ble_eq_true rfl) dX0_act_125 ⟨Nat.le_of_ble_eq_true rfl, Nat.le_of_ble_eq_true rfl⟩ (fun u H locs hq20 hp => ?_)
    refine lv_goto (tgt := 194) hx hb dX0_act_128 (by decide) ?_
    have hp : Hp G cI A s H locs [oM q0 a0 b0 c0 (aPl regs 10 r y pl) st sp po, aI cI a0 256 mem, aI cI b0 8 regs, aI cI c0 32 kept] := by
      have e9 : (aPl regs 10 r y pl : Int) = jPl 10 (regs r) y pl := by unfold aPl jPl; (repeat' split) <;> omega
      rw [e9]; exact hp
    exact hret _ _ _ _ _ _ () (trivial) hp dX0_act_194 (Nat.le_of_ble_eq_true rfl) (Nat.le_of_ble_eq_true rfl)
  by_cases hk21 : k = 11
  · skip
    refine z_top (11) hk21 ?_
    refine z_tsI (off := 104) (tgt := 116) hx hb dX0_act_12 (by decide) (by decide) (by decide) (by decide +kernel) (by decide) ?_
    subst hk21
    refine lv_aload_n hx hb dX0_act_116 rfl (lv_at hl 1 rfl) ?_
    refine lv_iload_n hx hb dX0_act_117 rfl (lv_at hl 2 rfl) ?_
    refine lv_aload_n hx hb dX0_act_118 rfl (lv_at hl 1 rfl) ?_
    refine z_get hx hb hts hi0 hown hp 0 rfl rfl 1 (by decide) f15 rfl dX0_act_119 ?_
    refine lv_iload_n hx hb dX0_act_122 rfl (lv_at hl 3 rfl) ?_
    refine z_iald hx hb hp 2 rfl (r) (by omega) dX0_act_123 (regs r) (rfl) ?_
    refine lv_iload_n hx hb dX0_act_124 rfl (lv_at hl 4 rfl) ?_
    refine zc_v (wr := [aI cI a0 256 mem, aI cI b0 8 regs, aI cI c0 32 kept]) (W0 := [oM q0 a0 b0 c0 pl st sp po]) (wl2 := fun (u : Unit) => [oM q0 a0 b0 c0 (jPl 11 (regs r) y pl) st sp po, aI cI a0 256 mem, aI cI b0 8 regs, aI cI c0 32 kept]) (As := [.int (iZ (11)), .int (iZ (regs r)), .int (iZ (y))]) (rest := []) hx hb hml hown hts hp (c_X0_jump l G cI H.size q0 a0 b0 c0 pl st sp po 11 (regs r) y (by omega) (by omega)) zPre_blind (z_pre hp [0] rfl (by decide) [.ref q0, .int (iZ (11)), .int (iZ (regs r)), .int (iZ (y))]) (cwV 3 hts gX0_act_X0_jump rfl rfl rfl (by decide +kernel) ⟨Nat.le_of_ble_eq_true rfl, Nat.le_of_ble_eq_true rfl⟩) [0] [1, 2, 3] [3, 0, 1, 2] rfl rfl ⟨by decide, by decide, by decide⟩ (fun _ => rfl) 0 0 rfl rfl rfl rfl hl.1 rfl (Nat.le_of_ble_eq_true rfl) dX0_act_125 ⟨Nat.le_of_ble_eq_true rfl, Nat.le_of_ble_eq_true rfl⟩ (fun u H locs hq22 hp => ?_)
    refine lv_goto (tgt := 194) hx hb dX0_act_128 (by decide) ?_
    have hp : Hp G cI A s H locs [oM q0 a0 b0 c0 (aPl regs 11 r y pl) st sp po, aI cI a0 256 mem, aI cI b0 8 regs, aI cI c0 32 kept] := by
      have e9 : (aPl regs 11 r y pl : Int) = jPl 11 (regs r) y pl := by unfold aPl jPl; (repeat' split) <;> omega
      rw [e9]; exact hp
    exact hret _ _ _ _ _ _ () (trivial) hp dX0_act_194 (Nat.le_of_ble_eq_true rfl) (Nat.le_of_ble_eq_true rfl)
  by_cases hk23 : k = 12
  · skip
    refine z_top (12) hk23 ?_
    refine z_tsI (off := 158) (tgt := 170) hx hb dX0_act_12 (by decide) (by decide) (by decide) (by decide +kernel) (by decide) ?_
    subst hk23
    refine lv_aload_n hx hb dX0_act_170 rfl (lv_at hl 1 rfl) ?_
    refine z_get hx hb hts hi0 hown hp 0 rfl rfl 1 (by decide) f15 rfl dX0_act_171 ?_
    refine lv_iload_n hx hb dX0_act_174 rfl (lv_at hl 3 rfl) ?_
    refine lv_aload_n hx hb dX0_act_175 rfl (lv_at hl 1 rfl) ?_
    refine lv_iload_n hx hb dX0_act_176 rfl (lv_at hl 2 rfl) ?_
    refine lv_aload_n hx hb dX0_act_177 rfl (lv_at hl 1 rfl) ?_
    refine z_get hx hb hts hi0 hown hp 0 rfl rfl 1 (by decide) f15 rfl dX0_act_178 ?_
    refine lv_iload_n hx hb dX0_act_181 rfl (lv_at hl 3 rfl) ?_
    refine z_iald hx hb hp 2 rfl (r) (by omega) dX0_act_182 (regs r) (rfl) ?_
    refine lv_iload hx hb dX0_act_183 (lv_at hl 0 rfl) ?_
    refine lv_iload_n hx hb dX0_act_185 rfl (lv_at hl 4 rfl) ?_
    refine zc_i (wr := [aI cI b0 8 regs, aI cI c0 32 kept]) (W0 := [oM q0 a0 b0 c0 pl st sp po, aI cI a0 256 mem]) (wl2 := fun (u : Unit) => [oM q0 a0 b0 c0 pl st sp po, aI cI a0 256 mem, aI cI b0 8 regs, aI cI c0 32 kept]) (As := [.int (iZ (12)), .int (iZ (regs r)), .int (iZ (regs ((y % 8).toNat))), .int (iZ (y))]) (rest := [.int (iZ (↑r)), .ref b0]) hx hb hml hown hts hp (c_X0_reckon l G cI H.size q0 a0 b0 c0 mem pl st sp po 12 (regs r) (regs (y % 8).toNat) y (by omega) (by omega) (by omega)) zPre_blind (z_pre hp [0, 1] rfl (by decide) [.ref q0, .int (iZ (12)), .int (iZ (regs r)), .int (iZ (regs ((y % 8).toNat))), .int (iZ (y))]) (cwV 4 hts gX0_act_X0_reckon rfl rfl rfl (by decide +kernel) ⟨Nat.le_of_ble_eq_true rfl, Nat.le_of_ble_eq_true rfl⟩) [0, 1] [2, 3] [2, 3, 0, 1] rfl rfl ⟨by decide, by decide, by decide⟩ (fun _ => rfl) 0 0 rfl rfl rfl rfl hl.1 rfl (Nat.le_of_ble_eq_true rfl) dX0_act_186 ⟨Nat.le_of_ble_eq_true rfl, Nat.le_of_ble_eq_true rfl⟩ (fun rv u H locs hq24 hp => ?_)
    obtain rfl : rv = iZ (rVal mem 12 (regs r) (regs (y % 8).toNat) y) := hq24
    refine z_sipush hx hb dX0_act_189 (by decide +kernel) ?_
    refine z_iand hx hb (aVal mem regs 12 r y) (by rw [iZ_and255]; exact congrArg iZ (rVal_m (by omega) h_mem h_regs h_r h_y)) dX0_act_192 ?_
    refine z_iast hx hb hp 2 rfl (r) (by omega) dX0_act_193 (ws' := [oM q0 a0 b0 c0 pl st sp po, aI cI a0 256 mem, aI cI b0 8 (upZ regs r (aVal mem regs 12 r y)), aI cI c0 32 kept]) rfl (fun H locs hp => ?_)
    exact hret _ _ _ _ _ _ () (trivial) hp dX0_act_194 (Nat.le_of_ble_eq_true rfl) (Nat.le_of_ble_eq_true rfl)
  by_cases hk25 : k = 13
  · skip
    refine z_top (13) hk25 ?_
    refine z_tsI (off := 158) (tgt := 170) hx hb dX0_act_12 (by decide) (by decide) (by decide) (by decide +kernel) (by decide) ?_
    subst hk25
    refine lv_aload_n hx hb dX0_act_170 rfl (lv_at hl 1 rfl) ?_
    refine z_get hx hb hts hi0 hown hp 0 rfl rfl 1 (by decide) f15 rfl dX0_act_171 ?_
    refine lv_iload_n hx hb dX0_act_174 rfl (lv_at hl 3 rfl) ?_
    refine lv_aload_n hx hb dX0_act_175 rfl (lv_at hl 1 rfl) ?_
    refine lv_iload_n hx hb dX0_act_176 rfl (lv_at hl 2 rfl) ?_
    refine lv_aload_n hx hb dX0_act_177 rfl (lv_at hl 1 rfl) ?_
    refine z_get hx hb hts hi0 hown hp 0 rfl rfl 1 (by decide) f15 rfl dX0_act_178 ?_
    refine lv_iload_n hx hb dX0_act_181 rfl (lv_at hl 3 rfl) ?_
    refine z_iald hx hb hp 2 rfl (r) (by omega) dX0_act_182 (regs r) (rfl) ?_
    refine lv_iload hx hb dX0_act_183 (lv_at hl 0 rfl) ?_
    refine lv_iload_n hx hb dX0_act_185 rfl (lv_at hl 4 rfl) ?_
    refine zc_i (wr := [aI cI b0 8 regs, aI cI c0 32 kept]) (W0 := [oM q0 a0 b0 c0 pl st sp po, aI cI a0 256 mem]) (wl2 := fun (u : Unit) => [oM q0 a0 b0 c0 pl st sp po, aI cI a0 256 mem, aI cI b0 8 regs, aI cI c0 32 kept]) (As := [.int (iZ (13)), .int (iZ (regs r)), .int (iZ (regs ((y % 8).toNat))), .int (iZ (y))]) (rest := [.int (iZ (↑r)), .ref b0]) hx hb hml hown hts hp (c_X0_reckon l G cI H.size q0 a0 b0 c0 mem pl st sp po 13 (regs r) (regs (y % 8).toNat) y (by omega) (by omega) (by omega)) zPre_blind (z_pre hp [0, 1] rfl (by decide) [.ref q0, .int (iZ (13)), .int (iZ (regs r)), .int (iZ (regs ((y % 8).toNat))), .int (iZ (y))]) (cwV 4 hts gX0_act_X0_reckon rfl rfl rfl (by decide +kernel) ⟨Nat.le_of_ble_eq_true rfl, Nat.le_of_ble_eq_true rfl⟩) [0, 1] [2, 3] [2, 3, 0, 1] rfl rfl ⟨by decide, by decide, by decide⟩ (fun _ => rfl) 0 0 rfl rfl rfl rfl hl.1 rfl (Nat.le_of_ble_eq_true rfl) dX0_act_186 ⟨Nat.le_of_ble_eq_true rfl, Nat.le_of_ble_eq_true rfl⟩ (fun rv u H locs hq26 hp => ?_)
    obtain rfl : rv = iZ (rVal mem 13 (regs r) (regs (y % 8).toNat) y) := hq26
    refine z_sipush hx hb dX0_act_189 (by decide +kernel) ?_
    refine z_iand hx hb (aVal mem regs 13 r y) (by rw [iZ_and255]; exact congrArg iZ (rVal_m (by omega) h_mem h_regs h_r h_y)) dX0_act_192 ?_
    refine z_iast hx hb hp 2 rfl (r) (by omega) dX0_act_193 (ws' := [oM q0 a0 b0 c0 pl st sp po, aI cI a0 256 mem, aI cI b0 8 (upZ regs r (aVal mem regs 13 r y)), aI cI c0 32 kept]) rfl (fun H locs hp => ?_)
    exact hret _ _ _ _ _ _ () (trivial) hp dX0_act_194 (Nat.le_of_ble_eq_true rfl) (Nat.le_of_ble_eq_true rfl)
  by_cases hk27 : k = 14
  · skip
    refine z_top (14) hk27 ?_
    refine z_tsI (off := 119) (tgt := 131) hx hb dX0_act_12 (by decide) (by decide) (by decide) (by decide +kernel) (by decide) ?_
    subst hk27
    refine lv_aload_n hx hb dX0_act_131 rfl (lv_at hl 1 rfl) ?_
    refine z_get hx hb hts hi0 hown hp 0 rfl rfl 2 (by decide) f18 rfl dX0_act_132 ?_
    refine lv_aload_n hx hb dX0_act_135 rfl (lv_at hl 1 rfl) ?_
    refine z_get hx hb hts hi0 hown hp 0 rfl rfl 6 (by decide) f25 rfl dX0_act_136 ?_
    refine z_bipush hx hb dX0_act_139 (by decide +kernel) ?_
    refine z_irem hx hb (po % 32) (by omega) dX0_act_141 ?_
    refine lv_aload_n hx hb dX0_act_142 rfl (lv_at hl 1 rfl) ?_
    refine z_get hx hb hts hi0 hown hp 0 rfl rfl 1 (by decide) f15 rfl dX0_act_143 ?_
    refine lv_iload_n hx hb dX0_act_146 rfl (lv_at hl 3 rfl) ?_
    refine z_iald hx hb hp 2 rfl (r) (by omega) dX0_act_147 (regs r) (rfl) ?_
    refine z_iast hx hb hp 3 rfl ((po % 32).toNat) (by omega) dX0_act_148 (ws' := [oM q0 a0 b0 c0 pl st sp po, aI cI a0 256 mem, aI cI b0 8 regs, aI cI c0 32 (upZ kept ((po % 32).toNat) (regs r))]) rfl (fun H locs hp => ?_)
    refine lv_aload_n hx hb dX0_act_149 rfl (lv_at hl 1 rfl) ?_
    refine lv_dup hx hb dX0_act_150 rfl ?_
    refine z_get hx hb hts hi0 hown hp 0 rfl rfl 6 (by decide) f25 rfl dX0_act_151 ?_
    refine z_iconst hx hb dX0_act_154 ?_
    refine z_iadd hx hb (po + 1) (rfl) dX0_act_155 ?_
    refine z_put hx hb hts hi0 tyX0 tyX0_ok nmX0 hown hp 0 rfl rfl 6 (by decide) f25 rfl (rfl) (rfl) (Nat.le_of_ble_eq_true rfl) dX0_act_156 (ws' := [oM q0 a0 b0 c0 pl st sp (po + 1), aI cI a0 256 mem, aI cI b0 8 regs, aI cI c0 32 (upZ kept ((po % 32).toNat) (regs r))]) rfl (fun H locs hp => ?_)
    refine lv_goto (tgt := 194) hx hb dX0_act_159 (by decide) ?_
    exact hret _ _ _ _ _ _ () (trivial) hp dX0_act_194 (Nat.le_of_ble_eq_true rfl) (Nat.le_of_ble_eq_true rfl)
  by_cases hk28 : k = 15
  · skip
    refine z_top (15) hk28 ?_
    refine z_tsI (off := 150) (tgt := 162) hx hb dX0_act_12 (by decide) (by decide) (by decide) (by decide +kernel) (by decide) ?_
    subst hk28
    refine lv_aload_n hx hb dX0_act_162 rfl (lv_at hl 1 rfl) ?_
    refine z_iconst hx hb dX0_act_163 ?_
    refine z_put hx hb hts hi0 tyX0 tyX0_ok nmX0 hown hp 0 rfl rfl 4 (by decide) f21 rfl (rfl) (rfl) (Nat.le_of_ble_eq_true rfl) dX0_act_164 (ws' := [oM q0 a0 b0 c0 pl 2 sp po, aI cI a0 256 mem, aI cI b0 8 regs, aI cI c0 32 kept]) rfl (fun H locs hp => ?_)
    refine lv_goto (tgt := 194) hx hb dX0_act_167 (by decide) ?_
    exact hret _ _ _ _ _ _ () (trivial) hp dX0_act_194 (Nat.le_of_ble_eq_true rfl) (Nat.le_of_ble_eq_true rfl)
  exfalso; omega
abbrev rmX0_step : Room := { frames := 2, cells := 0, slots := 0, locals := 70 }
set_option maxRecDepth 100000 in
set_option maxHeartbeats 4000000 in
theorem c_X0_step (l : Launch) (G : va_G) (cI : ClassId) (sz : Nat) (q0 a0 b0 c0 : Nat) (w : MS) (b : Int) (h_0 : MB w b) (h_1 : b < 2147483646) : Met l yX0_step wsX0_step rmX0_step (zPre G cI [oM q0 a0 b0 c0 w.2.2.2.1 w.2.2.2.2.1 w.2.2.2.2.2.1 w.2.2.2.2.2.2, aI cI a0 256 w.1, aI cI b0 8 w.2.1, aI cI c0 32 w.2.2.1] sz [.ref q0]) (va_Qv (fun (u : Unit) => True) (fun (u : Unit) t => zB G cI (va_A [oM q0 a0 b0 c0 w.2.2.2.1 w.2.2.2.2.1 w.2.2.2.2.2.1 w.2.2.2.2.2.2, aI cI a0 256 w.1, aI cI b0 8 w.2.1, aI cI c0 32 w.2.2.1] sz) [oM q0 a0 b0 c0 ((mstep w).2.2.2.1) ((mstep w).2.2.2.2.1) ((mstep w).2.2.2.2.2.1) ((mstep w).2.2.2.2.2.2), aI cI a0 256 ((mstep w).1), aI cI b0 8 ((mstep w).2.1), aI cI c0 32 ((mstep w).2.2.1)] t) (va_A [oM q0 a0 b0 c0 w.2.2.2.1 w.2.2.2.2.1 w.2.2.2.2.2.1 w.2.2.2.2.2.2, aI cI a0 256 w.1, aI cI b0 8 w.2.1, aI cI c0 32 w.2.2.1] sz)) 0 0 (va_A [oM q0 a0 b0 c0 w.2.2.2.1 w.2.2.2.2.1 w.2.2.2.2.2.1 w.2.2.2.2.2.2, aI cI a0 256 w.1, aI cI b0 8 w.2.1, aI cI c0 32 w.2.2.1] sz) := by
  refine zm_v (W1 := fun (u : Unit) => [oM q0 a0 b0 c0 ((mstep w).2.2.2.1) ((mstep w).2.2.2.2.1) ((mstep w).2.2.2.2.2.1) ((mstep w).2.2.2.2.2.2), aI cI a0 256 ((mstep w).1), aI cI b0 8 ((mstep w).2.1), aI cI c0 32 ((mstep w).2.2.1)]) (cc := cX0_step) (maxL := 3) (by decide) rfl (Nat.le_of_ble_eq_true rfl) ?_
  intro p e s m args below meth c A Q ls hsz hx hb hml hown hts hnm hret hp hl
  have hl : lv_has ls 3 [(0, .ref q0)] := hl
  have hi0 : ∀ w ∈ wsX00, w ∈ wsX0_step := fun w h => List.mem_cons_of_mem _ (List.mem_append_right _ (h))
  have f9 := hts (.fieldLink RX0 9 "SelfOpener$Machine" "memory" "[I") (List.mem_of_getElem? (i := 1) rfl)
  have f28 := hts (.fieldLink RX0 28 "SelfOpener$Machine" "place" "I") (List.mem_of_getElem? (i := 2) rfl)
  have f31 := hts (.fieldLink RX0 31 "SelfOpener$Machine" "steps" "I") (List.mem_of_getElem? (i := 3) rfl)
  obtain ⟨h1, h2, h3, h4, h5, h6, h7⟩ := h_0
  have hxb : 0 ≤ w.1 w.2.2.2.1.toNat ∧ w.1 w.2.2.2.1.toNat < 256 := h1 _ (by omega)
  have hyb : 0 ≤ w.1 ((w.2.2.2.1 + 1) % 256).toNat ∧ w.1 ((w.2.2.2.1 + 1) % 256).toNat < 256 := h1 _ (by omega)
  suffices hw : ∀ (H : Heap) (locs : List Loc), Hp G cI A s H locs [oM q0 a0 b0 c0 w.2.2.2.1 w.2.2.2.2.1 w.2.2.2.2.2.1 w.2.2.2.2.2.2, aI cI a0 256 w.1, aI cI b0 8 w.2.1, aI cI c0 32 w.2.2.1] → W p l e rmX0_step s m args below meth c H locs 0 0 Q (F0 m 0 ls []) from hw _ _ hp
  clear hp; intro H locs hp
  refine lv_aload_n hx hb dX0_step_0 rfl (lv_at hl 0 rfl) ?_
  refine z_get hx hb hts hi0 hown hp 0 rfl rfl 0 (by decide) f9 rfl dX0_step_1 ?_
  refine lv_aload_n hx hb dX0_step_4 rfl (lv_at hl 0 rfl) ?_
  refine z_get hx hb hts hi0 hown hp 0 rfl rfl 3 (by decide) f28 rfl dX0_step_5 ?_
  refine z_iald hx hb hp 1 rfl (w.2.2.2.1.toNat) (by omega) dX0_step_8 (w.1 w.2.2.2.1.toNat) (rfl) ?_
  refine lv_istore_n (lv' := [(1, .int (iZ (w.1 w.2.2.2.1.toNat))), (0, .ref q0)]) hx hb dX0_step_9 rfl hl (by decide) rfl (fun ls hl => ?_)
  refine lv_aload_n hx hb dX0_step_10 rfl (lv_at hl 1 rfl) ?_
  refine z_get hx hb hts hi0 hown hp 0 rfl rfl 0 (by decide) f9 rfl dX0_step_11 ?_
  refine lv_aload_n hx hb dX0_step_14 rfl (lv_at hl 1 rfl) ?_
  refine z_get hx hb hts hi0 hown hp 0 rfl rfl 3 (by decide) f28 rfl dX0_step_15 ?_
  refine z_iconst hx hb dX0_step_18 ?_
  refine z_iadd hx hb (w.2.2.2.1 + 1) (rfl) dX0_step_19 ?_
  refine z_sipush hx hb dX0_step_20 (by decide +kernel) ?_
  refine z_iand hx hb ((w.2.2.2.1 + 1) % 256) (iZ_and255 _) dX0_step_23 ?_
  refine z_iald hx hb hp 1 rfl (((w.2.2.2.1 + 1) % 256).toNat) (by omega) dX0_step_24 (w.1 (((w.2.2.2.1 + 1) % 256).toNat)) (rfl) ?_
  refine lv_istore_n (lv' := [(2, .int (iZ (w.1 (((w.2.2.2.1 + 1) % 256).toNat)))), (1, .int (iZ (w.1 w.2.2.2.1.toNat))), (0, .ref q0)]) hx hb dX0_step_25 rfl hl (by decide) rfl (fun ls hl => ?_)
  refine lv_aload_n hx hb dX0_step_26 rfl (lv_at hl 2 rfl) ?_
  refine lv_aload_n hx hb dX0_step_27 rfl (lv_at hl 2 rfl) ?_
  refine z_get hx hb hts hi0 hown hp 0 rfl rfl 3 (by decide) f28 rfl dX0_step_28 ?_
  refine z_iconst hx hb dX0_step_31 ?_
  refine z_iadd hx hb (w.2.2.2.1 + 2) (rfl) dX0_step_32 ?_
  refine z_sipush hx hb dX0_step_33 (by decide +kernel) ?_
  refine z_iand hx hb ((w.2.2.2.1 + 2) % 256) (iZ_and255 _) dX0_step_36 ?_
  refine z_put hx hb hts hi0 tyX0 tyX0_ok nmX0 hown hp 0 rfl rfl 3 (by decide) f28 rfl (rfl) (rfl) (Nat.le_of_ble_eq_true rfl) dX0_step_37 (ws' := [oM q0 a0 b0 c0 ((w.2.2.2.1 + 2) % 256) w.2.2.2.2.1 w.2.2.2.2.2.1 w.2.2.2.2.2.2, aI cI a0 256 w.1, aI cI b0 8 w.2.1, aI cI c0 32 w.2.2.1]) rfl (fun H locs hp => ?_)
  refine lv_aload_n hx hb dX0_step_40 rfl (lv_at hl 2 rfl) ?_
  refine lv_dup hx hb dX0_step_41 rfl ?_
  refine z_get hx hb hts hi0 hown hp 0 rfl rfl 5 (by decide) f31 rfl dX0_step_42 ?_
  refine z_iconst hx hb dX0_step_45 ?_
  refine z_iadd hx hb (w.2.2.2.2.2.1 + 1) (rfl) dX0_step_46 ?_
  refine z_put hx hb hts hi0 tyX0 tyX0_ok nmX0 hown hp 0 rfl rfl 5 (by decide) f31 rfl (rfl) (rfl) (Nat.le_of_ble_eq_true rfl) dX0_step_47 (ws' := [oM q0 a0 b0 c0 ((w.2.2.2.1 + 2) % 256) w.2.2.2.2.1 (w.2.2.2.2.2.1 + 1) w.2.2.2.2.2.2, aI cI a0 256 w.1, aI cI b0 8 w.2.1, aI cI c0 32 w.2.2.1]) rfl (fun H locs hp => ?_)
  refine lv_aload_n hx hb dX0_step_50 rfl (lv_at hl 2 rfl) ?_
  refine lv_iload_n hx hb dX0_step_51 rfl (lv_at hl 1 rfl) ?_
  refine z_iconst hx hb dX0_step_52 ?_
  refine z_ishr hx hb (w.1 w.2.2.2.1.toNat / 16) (zshr_4 ⟨by omega, by omega⟩) dX0_step_53 ?_
  refine lv_iload_n hx hb dX0_step_54 rfl (lv_at hl 1 rfl) ?_
  refine z_bipush hx hb dX0_step_55 (by decide +kernel) ?_
  refine z_iand hx hb ((w.1 w.2.2.2.1.toNat) % 8) (iZ_and7 _) dX0_step_57 ?_
  refine z_top (↑((w.1 w.2.2.2.1.toNat % 8).toNat)) (by omega) ?_
  refine lv_iload_n hx hb dX0_step_58 rfl (lv_at hl 0 rfl) ?_
  refine zc_v (wr := []) (W0 := [oM q0 a0 b0 c0 ((w.2.2.2.1 + 2) % 256) w.2.2.2.2.1 (w.2.2.2.2.2.1 + 1) w.2.2.2.2.2.2, aI cI a0 256 w.1, aI cI b0 8 w.2.1, aI cI c0 32 w.2.2.1]) (wl2 := fun (u : Unit) => [oM q0 a0 b0 c0 (aPl w.2.1 (w.1 w.2.2.2.1.toNat / 16) ((w.1 w.2.2.2.1.toNat % 8).toNat) (w.1 ((w.2.2.2.1 + 1) % 256).toNat) ((w.2.2.2.1 + 2) % 256)) (aSt (w.1 w.2.2.2.1.toNat / 16) w.2.2.2.2.1) (w.2.2.2.2.2.1 + 1) (aPo (w.1 w.2.2.2.1.toNat / 16) w.2.2.2.2.2.2), aI cI a0 256 (aMem w.1 w.2.1 (w.1 w.2.2.2.1.toNat / 16) ((w.1 w.2.2.2.1.toNat % 8).toNat) (w.1 ((w.2.2.2.1 + 1) % 256).toNat)), aI cI b0 8 (aRegs w.1 w.2.1 (w.1 w.2.2.2.1.toNat / 16) ((w.1 w.2.2.2.1.toNat % 8).toNat) (w.1 ((w.2.2.2.1 + 1) % 256).toNat)), aI cI c0 32 (aKept w.2.1 w.2.2.1 (w.1 w.2.2.2.1.toNat / 16) ((w.1 w.2.2.2.1.toNat % 8).toNat) w.2.2.2.2.2.2)]) (As := [.int (iZ (w.1 w.2.2.2.1.toNat / 16)), .int (iZ (↑((w.1 w.2.2.2.1.toNat % 8).toNat))), .int (iZ (w.1 (((w.2.2.2.1 + 1) % 256).toNat)))]) (rest := []) hx hb hml hown hts hp (c_X0_act l G cI H.size q0 a0 b0 c0 w.1 w.2.1 w.2.2.1 ((w.2.2.2.1 + 2) % 256) w.2.2.2.2.1 (w.2.2.2.2.2.1 + 1) w.2.2.2.2.2.2 (w.1 w.2.2.2.1.toNat / 16) ((w.1 w.2.2.2.1.toNat % 8).toNat) (w.1 ((w.2.2.2.1 + 1) % 256).toNat) (by omega) (by omega) (by omega) (h1) (h2) (by omega)) zPre_blind (z_pre hp [0, 1, 2, 3] rfl (by decide) [.ref q0, .int (iZ (w.1 w.2.2.2.1.toNat / 16)), .int (iZ (↑((w.1 w.2.2.2.1.toNat % 8).toNat))), .int (iZ (w.1 (((w.2.2.2.1 + 1) % 256).toNat)))]) (cwV 3 hts gX0_step_X0_act rfl rfl rfl (by decide +kernel) ⟨Nat.le_of_ble_eq_true rfl, Nat.le_of_ble_eq_true rfl⟩) [0, 1, 2, 3] [] [0, 1, 2, 3] rfl rfl ⟨by decide, by decide, by decide⟩ (fun _ => rfl) 0 0 rfl rfl rfl rfl hl.1 rfl (Nat.le_of_ble_eq_true rfl) dX0_step_59 ⟨Nat.le_of_ble_eq_true rfl, Nat.le_of_ble_eq_true rfl⟩ (fun u H locs hq1 hp => ?_)
  exact hret _ _ _ _ _ _ () (trivial) hp dX0_step_62 (Nat.le_of_ble_eq_true rfl) (Nat.le_of_ble_eq_true rfl)
end
section
abbrev rmX0_writeStub : Room := { frames := 0, cells := 0, slots := 0, locals := 0 }
set_option maxRecDepth 100000 in
set_option maxHeartbeats 4000000 in
theorem c_X0_writeStub (l : Launch) (G : va_G) (cI : ClassId) (t : Nat) (sz : Nat) (q0 a0 b0 c0 : Nat) (mem : Nat → Int) (pl st sp po : Int) (stub : Nat) (start org ent : Int) (h_0 : stub + 60 ≤ 256) : Met l yX0_writeStub wsX0_writeStub rmX0_writeStub (zPreC t G cI [oM q0 a0 b0 c0 pl st sp po, aI cI a0 256 mem] sz [.ref q0, .int (iZ (↑stub)), .int (iZ (start)), .int (iZ (org)), .int (iZ (ent))]) (va_Qv (fun (u : Unit) => True) (fun (u : Unit) t => zB G cI (va_A [oM q0 a0 b0 c0 pl st sp po, aI cI a0 256 mem] sz) [oM q0 a0 b0 c0 pl st sp po, aI cI a0 256 (stubRow mem stub start org ent)] t) (va_A [oM q0 a0 b0 c0 pl st sp po, aI cI a0 256 mem] sz)) 0 0 (va_A [oM q0 a0 b0 c0 pl st sp po, aI cI a0 256 mem] sz) := by
  refine zm_cv (W1 := fun (u : Unit) => [oM q0 a0 b0 c0 pl st sp po, aI cI a0 256 (stubRow mem stub start org ent)]) (cc := cX0_writeStub) (maxL := 7) (by decide) rfl (Nat.le_of_ble_eq_true rfl) ?_
  intro p e s m args below meth c A Q ls hsz hx hb hml hown hts hC hret hp hl
  have hl : lv_has ls 7 [(0, .ref q0), (1, .int (iZ (↑stub))), (2, .int (iZ (start))), (3, .int (iZ (org))), (4, .int (iZ (ent)))] := hl
  have hi0 : ∀ w ∈ wsX00, w ∈ wsX0_writeStub := fun w h => List.mem_cons_of_mem _ (List.mem_append_right _ (h))
  have f9 := hts (.fieldLink RX0 9 "SelfOpener$Machine" "memory" "[I") (List.mem_of_getElem? (i := 2) rfl)
  have f40 := hts (.fieldLink RX0 40 "SelfOpener$Machine" "STUB" "[I") (List.mem_of_getElem? (i := 1) rfl)
  suffices hw : ∀ (H : Heap) (locs : List Loc), Hp G cI A s H locs [oM q0 a0 b0 c0 pl st sp po, aI cI a0 256 mem] → W p l e rmX0_writeStub s m args below meth c H locs 0 0 Q (F0 m 0 ls []) from hw _ _ hp
  clear hp; intro H locs hp
  refine z_iconst hx hb dX0_writeStub_0 ?_
  refine lv_istore (lv' := [(5, .int (iZ (0))), (0, .ref q0), (1, .int (iZ (↑stub))), (2, .int (iZ (start))), (3, .int (iZ (org))), (4, .int (iZ (ent)))]) hx hb dX0_writeStub_1 hl (by decide) rfl (fun ls hl => ?_)
  have lp1 : ∀ (N_lp1 : Nat) (i : Nat) (f : Nat → Int) (H : Heap) (locs : List Loc) (ls : Array Slot), (i ≤ 60) → (i % 2 = 0) → (∀ j, f j = if stub ≤ j ∧ j < stub + i then stubS stub (j - stub) else mem j) → (60 - i) < N_lp1 → Hp G cI A s H locs [oM q0 a0 b0 c0 pl st sp po, aI cI a0 256 f] → lv_has ls 7 [(5, .int (iZ (↑i))), (0, .ref q0), (1, .int (iZ (↑stub))), (2, .int (iZ (start))), (3, .int (iZ (org))), (4, .int (iZ (ent)))] → W p l e rmX0_writeStub s m args below meth c H locs 0 0 Q (F0 m 3 ls []) := by
    intro N_lp1
    induction N_lp1 with
    | zero => intros; exfalso; omega
    | succ N_lp1 ih_lp1 =>
      intro i f H locs ls hi he hf hN hp hl
      refine lv_iload hx hb dX0_writeStub_3 (lv_at hl 0 rfl) ?_
      refine z_bipush hx hb dX0_writeStub_5 (by decide +kernel) ?_
      refine z_icmp_ge (tgt := 76) hx hb dX0_writeStub_7 (by decide) (by omega) (fun h2 => ?_) (fun h2 => ?_)
      · skip
        obtain rfl : i = 60 := by omega
        refine lv_aload_n hx hb dX0_writeStub_76 rfl (lv_at hl 1 rfl) ?_
        refine z_get hx hb hts hi0 hown hp 0 rfl rfl 0 (by decide) f9 rfl dX0_writeStub_77 ?_
        refine lv_iload_n hx hb dX0_writeStub_80 rfl (lv_at hl 2 rfl) ?_
        refine z_iconst hx hb dX0_writeStub_81 ?_
        refine z_iadd hx hb ((↑stub) + 1) (rfl) dX0_writeStub_82 ?_
        refine lv_iload_n hx hb dX0_writeStub_83 rfl (lv_at hl 3 rfl) ?_
        refine z_iast hx hb hp 1 rfl (stub + 1) (by omega) dX0_writeStub_84 (ws' := [oM q0 a0 b0 c0 pl st sp po, aI cI a0 256 (upZ f (stub + 1) start)]) rfl (fun H locs hp => ?_)
        refine lv_aload_n hx hb dX0_writeStub_85 rfl (lv_at hl 1 rfl) ?_
        refine z_get hx hb hts hi0 hown hp 0 rfl rfl 0 (by decide) f9 rfl dX0_writeStub_86 ?_
        refine lv_iload_n hx hb dX0_writeStub_89 rfl (lv_at hl 2 rfl) ?_
        refine z_iconst hx hb dX0_writeStub_90 ?_
        refine z_iadd hx hb ((↑stub) + 3) (rfl) dX0_writeStub_91 ?_
        refine lv_iload_n hx hb dX0_writeStub_92 rfl (lv_at hl 4 rfl) ?_
        refine z_iast hx hb hp 1 rfl (stub + 3) (by omega) dX0_writeStub_93 (ws' := [oM q0 a0 b0 c0 pl st sp po, aI cI a0 256 (upZ (upZ f (stub + 1) start) (stub + 3) org)]) rfl (fun H locs hp => ?_)
        refine lv_aload_n hx hb dX0_writeStub_94 rfl (lv_at hl 1 rfl) ?_
        refine z_get hx hb hts hi0 hown hp 0 rfl rfl 0 (by decide) f9 rfl dX0_writeStub_95 ?_
        refine lv_iload_n hx hb dX0_writeStub_98 rfl (lv_at hl 2 rfl) ?_
        refine z_bipush hx hb dX0_writeStub_99 (by decide +kernel) ?_
        refine z_iadd hx hb ((↑stub) + 60) (rfl) dX0_writeStub_101 ?_
        refine z_iconst hx hb dX0_writeStub_102 ?_
        refine z_isub hx hb (((↑stub) + 60) - 1) (rfl) dX0_writeStub_103 ?_
        refine lv_iload hx hb dX0_writeStub_104 (lv_at hl 5 rfl) ?_
        refine z_iast hx hb hp 1 rfl (stub + 59) (by omega) dX0_writeStub_106 (ws' := [oM q0 a0 b0 c0 pl st sp po, aI cI a0 256 (upZ (upZ (upZ f (stub + 1) start) (stub + 3) org) (stub + 59) ent)]) rfl (fun H locs hp => ?_)
        have hp := z_alike hp 1 rfl (stubRow mem stub start org ent) (fun j _ => stub_end hf j) (ws' := [oM q0 a0 b0 c0 pl st sp po, aI cI a0 256 (stubRow mem stub start org ent)]) rfl
        exact hret _ _ _ _ _ _ () (trivial) hp dX0_writeStub_107 (Nat.le_of_ble_eq_true rfl) (Nat.le_of_ble_eq_true rfl)
      · skip
        have hs := stubZ_b i
        have hs2 := stubZ_b (i + 1)
        have jn3 : ∀ (v : Int) (H : Heap) (locs : List Loc) (ls : Array Slot), (v = if 128 ≤ stubZ i then (stub : Int) else 0) → Hp G cI A s H locs [oM q0 a0 b0 c0 pl st sp po, aI cI a0 256 f] → lv_has ls 7 [(5, .int (iZ (↑i))), (0, .ref q0), (1, .int (iZ (↑stub))), (2, .int (iZ (start))), (3, .int (iZ (org))), (4, .int (iZ (ent)))] → W p l e rmX0_writeStub s m args below meth c H locs 0 0 Q (F0 m 27 ls [.int (iZ (v))]) := by
          intro v H locs ls hv hp hl
          refine lv_istore (lv' := [(6, .int (iZ (v))), (5, .int (iZ (↑i))), (0, .ref q0), (1, .int (iZ (↑stub))), (2, .int (iZ (start))), (3, .int (iZ (org))), (4, .int (iZ (ent)))]) hx hb dX0_writeStub_27 hl (by decide) rfl (fun ls hl => ?_)
          refine lv_aload_n hx hb dX0_writeStub_29 rfl (lv_at hl 2 rfl) ?_
          refine z_get hx hb hts hi0 hown hp 0 rfl rfl 0 (by decide) f9 rfl dX0_writeStub_30 ?_
          refine lv_iload_n hx hb dX0_writeStub_33 rfl (lv_at hl 3 rfl) ?_
          refine lv_iload hx hb dX0_writeStub_34 (lv_at hl 1 rfl) ?_
          refine z_iadd hx hb ((↑stub) + (↑i)) (rfl) dX0_writeStub_36 ?_
          refine va_gets hx hb hC.2.2.1 hp.2.2.1 hown f40 (fun _ h => h) dX0_writeStub_37 ?_
          refine lv_iload hx hb dX0_writeStub_40 (lv_at hl 1 rfl) ?_
          refine z_tab hx hb hC hp (i) (by omega) dX0_writeStub_42 ?_
          refine z_iast hx hb hp 1 rfl (stub + i) (by omega) dX0_writeStub_43 (ws' := [oM q0 a0 b0 c0 pl st sp po, aI cI a0 256 (upZ f (stub + i) (stubZ i))]) rfl (fun H locs hp => ?_)
          refine lv_aload_n hx hb dX0_writeStub_44 rfl (lv_at hl 2 rfl) ?_
          refine z_get hx hb hts hi0 hown hp 0 rfl rfl 0 (by decide) f9 rfl dX0_writeStub_45 ?_
          refine lv_iload_n hx hb dX0_writeStub_48 rfl (lv_at hl 3 rfl) ?_
          refine lv_iload hx hb dX0_writeStub_49 (lv_at hl 1 rfl) ?_
          refine z_iadd hx hb ((↑stub) + (↑i)) (rfl) dX0_writeStub_51 ?_
          refine z_iconst hx hb dX0_writeStub_52 ?_
          refine z_iadd hx hb (((↑stub) + (↑i)) + 1) (rfl) dX0_writeStub_53 ?_
          refine va_gets hx hb hC.2.2.1 hp.2.2.1 hown f40 (fun _ h => h) dX0_writeStub_54 ?_
          refine lv_iload hx hb dX0_writeStub_57 (lv_at hl 1 rfl) ?_
          refine z_iconst hx hb dX0_writeStub_59 ?_
          refine z_iadd hx hb ((↑i) + 1) (rfl) dX0_writeStub_60 ?_
          refine z_tab hx hb hC hp (i + 1) (by omega) dX0_writeStub_61 ?_
          refine lv_iload hx hb dX0_writeStub_62 (lv_at hl 0 rfl) ?_
          refine z_iadd hx hb (stubZ (i + 1) + v) (rfl) dX0_writeStub_64 ?_
          refine z_sipush hx hb dX0_writeStub_65 (by decide +kernel) ?_
          refine z_iand hx hb ((stubZ (i + 1) + v) % 256) (iZ_and255 _) dX0_writeStub_68 ?_
          refine z_iast hx hb hp 1 rfl (stub + i + 1) (by omega) dX0_writeStub_69 (ws' := [oM q0 a0 b0 c0 pl st sp po, aI cI a0 256 (upZ (upZ f (stub + i) (stubZ i)) (stub + i + 1) ((stubZ (i + 1) + v) % 256))]) rfl (fun H locs hp => ?_)
          refine z_iinc (k := 1) (lv' := [(5, .int (iZ (↑(i + 2)))), (6, .int (iZ (v))), (0, .ref q0), (1, .int (iZ (↑stub))), (2, .int (iZ (start))), (3, .int (iZ (org))), (4, .int (iZ (ent)))]) hx hb (↑(i + 2)) (by omega) dX0_writeStub_70 hl rfl (by decide) rfl (fun ls hl => ?_)
          refine lv_goto (tgt := 3) hx hb dX0_writeStub_73 (by decide) ?_
          exact ih_lp1 (i + 2) (upZ (upZ f (stub + i) (stubZ i)) (stub + i + 1) ((stubZ (i + 1) + v) % 256)) _ _ _ (by omega) (by omega) (stub_step he hv hf) (by omega) hp (lv_sub hl [0, 2, 3, 4, 5, 6] rfl)
        refine va_gets hx hb hC.2.2.1 hp.2.2.1 hown f40 (fun _ h => h) dX0_writeStub_10 ?_
        refine lv_iload hx hb dX0_writeStub_13 (lv_at hl 0 rfl) ?_
        refine z_tab hx hb hC hp (i) (by omega) dX0_writeStub_15 ?_
        refine z_sipush hx hb dX0_writeStub_16 (by decide +kernel) ?_
        refine z_icmp_lt (tgt := 26) hx hb dX0_writeStub_19 (by decide) (by omega) (fun h5 => ?_) (fun h5 => ?_)
        · skip
          refine z_iconst hx hb dX0_writeStub_26 ?_
          exact jn3 0 _ _ _ (by (repeat' split) <;> omega) hp (lv_sub hl [0, 1, 2, 3, 4, 5] rfl)
        · skip
          refine lv_iload_n hx hb dX0_writeStub_22 rfl (lv_at hl 2 rfl) ?_
          refine lv_goto (tgt := 27) hx hb dX0_writeStub_23 (by decide) ?_
          exact jn3 (↑stub) _ _ _ (by (repeat' split) <;> omega) hp (lv_sub hl [0, 1, 2, 3, 4, 5] rfl)
  exact lp1 _ 0 mem _ _ _ (by omega) (by omega) (fun j => by rw [if_neg (by omega)]) (Nat.lt_succ_self _) hp (lv_sub hl [0, 1, 2, 3, 4, 5] rfl)
end
section
abbrev rmX2_init : Room := { frames := 1, cells := 2, slots := 320, locals := 12 }
set_option maxRecDepth 100000 in
set_option maxHeartbeats 4000000 in
theorem c_X2_init (l : Launch) (G : va_G) (cI : ClassId) (sz : Nat) (q2 : Nat)  : Met l yX2_init wsX2_init rmX2_init (zPre G cI [(q2, .inr (2, [.null, .null, .int (iZ (0)), .int (iZ (0)), .int (iZ (0)), .int (iZ (0))]))] sz [.ref q2]) (va_Qv (fun (u : Nat × Nat) => True) (fun (u : Nat × Nat) t => zB G cI (va_A [(q2, .inr (2, [.null, .null, .int (iZ (0)), .int (iZ (0)), .int (iZ (0)), .int (iZ (0))]))] sz) [oP q2 u.1 u.2 0 0 0 0, aI cI u.1 160 (fun _ => 0), aI cI u.2 160 (fun _ => 0)] t) (va_A [(q2, .inr (2, [.null, .null, .int (iZ (0)), .int (iZ (0)), .int (iZ (0)), .int (iZ (0))]))] sz)) 2 320 (va_A [(q2, .inr (2, [.null, .null, .int (iZ (0)), .int (iZ (0)), .int (iZ (0)), .int (iZ (0))]))] sz) := by
  refine zm_v (W1 := fun (u : Nat × Nat) => [oP q2 u.1 u.2 0 0 0 0, aI cI u.1 160 (fun _ => 0), aI cI u.2 160 (fun _ => 0)]) (cc := cX2_init) (maxL := 1) (by decide) rfl (Nat.le_of_ble_eq_true rfl) ?_
  intro p e s m args below meth c A Q ls hsz hx hb hml hown hts hnm hret hp hl
  have hl : lv_has ls 1 [(0, .ref q2)] := hl
  have m3 := hts (.methodLink RX2 3 objectInit) (List.mem_of_getElem? (i := 1) rfl)
  have io := hts (.instanceMethod objectInit) (List.mem_of_getElem? (i := 2) rfl)
  have co := hts (.code objectInit ⟨#[0xb1]⟩ 1 none) (List.mem_of_getElem? (i := 3) rfl)
  have ac := hts (.arrayClass .int) (List.mem_of_getElem? (i := 4) rfl)
  have hi2 : ∀ w ∈ wsX20, w ∈ wsX2_init := fun w h => List.mem_cons_of_mem _ (List.mem_append_right _ (h))
  have f9 := hts (.fieldLink RX2 9 "SelfOpener$Program" "bytes" "[I") (List.mem_of_getElem? (i := 5) rfl)
  have f15 := hts (.fieldLink RX2 15 "SelfOpener$Program" "opened" "[I") (List.mem_of_getElem? (i := 6) rfl)
  suffices hw : ∀ (H : Heap) (locs : List Loc), Hp G cI A s H locs [(q2, .inr (2, [.null, .null, .int (iZ (0)), .int (iZ (0)), .int (iZ (0)), .int (iZ (0))]))] → W p l e rmX2_init s m args below meth c H locs 0 0 Q (F0 m 0 ls []) from hw _ _ hp
  clear hp; intro H locs hp
  refine lv_aload_n hx hb dX2_init_0 rfl (lv_at hl 0 rfl) ?_
  refine W.objInit hx hb hown m3 io co rfl (by rw [hml]; exact hl.1) rfl dX2_init_1 (Nat.le_of_ble_eq_true rfl) (Nat.le_of_ble_eq_true rfl) ?_
  refine W.eq (g2 := F0 m 4 ls []) rfl ?_
  refine lv_aload_n hx hb dX2_init_4 rfl (lv_at hl 0 rfl) ?_
  refine z_sipush hx hb dX2_init_5 (by decide +kernel) ?_
  refine z_newa hx hb 160 ac hp (by decide) (by decide) rfl (Nat.le_of_ble_eq_true rfl) (Nat.le_of_ble_eq_true rfl) dX2_init_8 (fun b1 H hp => ?_)
  have hp : Hp G cI A s H locs [(q2, .inr (2, [.null, .null, .int (iZ (0)), .int (iZ (0)), .int (iZ (0)), .int (iZ (0))])), aI cI b1 160 (fun _ => 0)] := hp
  refine z_putF hx hb hts hi2 tyX2 tyX2_ok nmX2 hown hp 0 rfl rfl 0 (by decide) f9 rfl hnm rfl (rfl) (rfl) (Nat.le_of_ble_eq_true rfl) dX2_init_10 (ws' := [(q2, .inr (2, [.ref b1, .null, .int (iZ (0)), .int (iZ (0)), .int (iZ (0)), .int (iZ (0))])), aI cI b1 160 (fun _ => 0)]) rfl (fun H locs hp => ?_)
  refine lv_aload_n hx hb dX2_init_13 rfl (lv_at hl 0 rfl) ?_
  refine z_sipush hx hb dX2_init_14 (by decide +kernel) ?_
  refine z_newa hx hb 160 ac hp (by decide) (by decide) rfl (Nat.le_of_ble_eq_true rfl) (Nat.le_of_ble_eq_true rfl) dX2_init_17 (fun b3 H hp => ?_)
  have hp : Hp G cI A s H locs [(q2, .inr (2, [.ref b1, .null, .int (iZ (0)), .int (iZ (0)), .int (iZ (0)), .int (iZ (0))])), aI cI b1 160 (fun _ => 0), aI cI b3 160 (fun _ => 0)] := hp
  refine z_putF hx hb hts hi2 tyX2 tyX2_ok nmX2 hown hp 0 rfl rfl 1 (by decide) f15 rfl hnm rfl (rfl) (rfl) (Nat.le_of_ble_eq_true rfl) dX2_init_19 (ws' := [oP q2 b1 b3 0 0 0 0, aI cI b1 160 (fun _ => 0), aI cI b3 160 (fun _ => 0)]) rfl (fun H locs hp => ?_)
  exact hret _ _ _ _ _ _ (b1, b3) (trivial) hp dX2_init_22 (Nat.le_of_ble_eq_true rfl) (Nat.le_of_ble_eq_true rfl)
abbrev rmX2_hasRoom : Room := { frames := 0, cells := 0, slots := 0, locals := 0 }
set_option maxRecDepth 100000 in
set_option maxHeartbeats 4000000 in
theorem c_X2_hasRoom (l : Launch) (G : va_G) (cI : ClassId) (sz : Nat) (q2 b2 o2 : Nat) (n org : Nat) (ent ed : Int) (k : Int) (h_n : n ≤ 160) (h_k : rg k) : Met l yX2_hasRoom wsX2_hasRoom rmX2_hasRoom (zPre G cI [oP q2 b2 o2 (↑n) (↑org) ent ed] sz [.ref q2, .int (iZ (k))]) (va_Qi (fun (r : Int32) (u : Unit) => r = iZ (if k ≤ 160 - ↑n then 1 else 0)) (fun (u : Unit) t => zB G cI (va_A [oP q2 b2 o2 (↑n) (↑org) ent ed] sz) [oP q2 b2 o2 (↑n) (↑org) ent ed] t) (va_A [oP q2 b2 o2 (↑n) (↑org) ent ed] sz)) 0 0 (va_A [oP q2 b2 o2 (↑n) (↑org) ent ed] sz) := by
  refine zm_i (W1 := fun (u : Unit) => [oP q2 b2 o2 (↑n) (↑org) ent ed]) (cc := cX2_hasRoom) (maxL := 2) (ty := .boolean) (by decide) rfl (Nat.le_of_ble_eq_true rfl) ?_
  intro p e s m args below meth c A Q ls hsz hx hb hml hown hts hret hp hl
  have hl : lv_has ls 2 [(0, .ref q2), (1, .int (iZ (k)))] := hl
  have hi2 : ∀ w ∈ wsX20, w ∈ wsX2_hasRoom := fun w h => List.mem_cons_of_mem _ (List.mem_append_right _ (h))
  have f18 := hts (.fieldLink RX2 18 "SelfOpener$Program" "size" "I") (List.mem_of_getElem? (i := 1) rfl)
  suffices hw : ∀ (H : Heap) (locs : List Loc), Hp G cI A s H locs [oP q2 b2 o2 (↑n) (↑org) ent ed] → W p l e rmX2_hasRoom s m args below meth c H locs 0 0 Q (F0 m 0 ls []) from hw _ _ hp
  clear hp; intro H locs hp
  refine lv_iload_n hx hb dX2_hasRoom_0 rfl (lv_at hl 1 rfl) ?_
  refine z_sipush hx hb dX2_hasRoom_1 (by decide +kernel) ?_
  refine lv_aload_n hx hb dX2_hasRoom_4 rfl (lv_at hl 0 rfl) ?_
  refine z_get hx hb hts hi2 hown hp 0 rfl rfl 2 (by decide) f18 rfl dX2_hasRoom_5 ?_
  refine z_isub hx hb (160 - (↑n)) (rfl) dX2_hasRoom_8 ?_
  refine z_icmp_gt (tgt := 16) hx hb dX2_hasRoom_9 (by decide) (by omega) (fun h1 => ?_) (fun h1 => ?_)
  · skip
    refine z_iconst hx hb dX2_hasRoom_16 ?_
    exact hret _ _ _ _ _ _ _ () (congrArg iZ (by (repeat' split) <;> omega)) hp dX2_hasRoom_17 (by decide +kernel) (Nat.le_of_ble_eq_true rfl) (Nat.le_of_ble_eq_true rfl)
  · skip
    refine z_iconst hx hb dX2_hasRoom_12 ?_
    refine lv_goto (tgt := 17) hx hb dX2_hasRoom_13 (by decide) ?_
    exact hret _ _ _ _ _ _ _ () (congrArg iZ (by (repeat' split) <;> omega)) hp dX2_hasRoom_17 (by decide +kernel) (Nat.le_of_ble_eq_true rfl) (Nat.le_of_ble_eq_true rfl)
abbrev rmX2_fits : Room := { frames := 0, cells := 0, slots := 0, locals := 0 }
set_option maxRecDepth 100000 in
set_option maxHeartbeats 4000000 in
theorem c_X2_fits (l : Launch) (G : va_G) (cI : ClassId) (sz : Nat) (q2 b2 o2 : Nat) (n org : Nat) (ent ed : Int) (h_n : n ≤ 160) (h_o : org ≤ 256) : Met l yX2_fits wsX2_fits rmX2_fits (zPre G cI [oP q2 b2 o2 (↑n) (↑org) ent ed] sz [.ref q2]) (va_Qi (fun (r : Int32) (u : Unit) => r = iZ (if org + n ≤ 256 then 1 else 0)) (fun (u : Unit) t => zB G cI (va_A [oP q2 b2 o2 (↑n) (↑org) ent ed] sz) [oP q2 b2 o2 (↑n) (↑org) ent ed] t) (va_A [oP q2 b2 o2 (↑n) (↑org) ent ed] sz)) 0 0 (va_A [oP q2 b2 o2 (↑n) (↑org) ent ed] sz) := by
  refine zm_i (W1 := fun (u : Unit) => [oP q2 b2 o2 (↑n) (↑org) ent ed]) (cc := cX2_fits) (maxL := 1) (ty := .boolean) (by decide) rfl (Nat.le_of_ble_eq_true rfl) ?_
  intro p e s m args below meth c A Q ls hsz hx hb hml hown hts hret hp hl
  have hl : lv_has ls 1 [(0, .ref q2)] := hl
  have hi2 : ∀ w ∈ wsX20, w ∈ wsX2_fits := fun w h => List.mem_cons_of_mem _ (List.mem_append_right _ (h))
  have f22 := hts (.fieldLink RX2 22 "SelfOpener$Program" "origin" "I") (List.mem_of_getElem? (i := 1) rfl)
  have f18 := hts (.fieldLink RX2 18 "SelfOpener$Program" "size" "I") (List.mem_of_getElem? (i := 2) rfl)
  suffices hw : ∀ (H : Heap) (locs : List Loc), Hp G cI A s H locs [oP q2 b2 o2 (↑n) (↑org) ent ed] → W p l e rmX2_fits s m args below meth c H locs 0 0 Q (F0 m 0 ls []) from hw _ _ hp
  clear hp; intro H locs hp
  refine lv_aload_n hx hb dX2_fits_0 rfl (lv_at hl 0 rfl) ?_
  refine z_get hx hb hts hi2 hown hp 0 rfl rfl 3 (by decide) f22 rfl dX2_fits_1 ?_
  refine lv_aload_n hx hb dX2_fits_4 rfl (lv_at hl 0 rfl) ?_
  refine z_get hx hb hts hi2 hown hp 0 rfl rfl 2 (by decide) f18 rfl dX2_fits_5 ?_
  refine z_iadd hx hb ((↑org) + (↑n)) (rfl) dX2_fits_8 ?_
  refine z_sipush hx hb dX2_fits_9 (by decide +kernel) ?_
  refine z_icmp_gt (tgt := 19) hx hb dX2_fits_12 (by decide) (by omega) (fun h1 => ?_) (fun h1 => ?_)
  · skip
    refine z_iconst hx hb dX2_fits_19 ?_
    exact hret _ _ _ _ _ _ _ () (congrArg iZ (by (repeat' split) <;> omega)) hp dX2_fits_20 (by decide +kernel) (Nat.le_of_ble_eq_true rfl) (Nat.le_of_ble_eq_true rfl)
  · skip
    refine z_iconst hx hb dX2_fits_15 ?_
    refine lv_goto (tgt := 20) hx hb dX2_fits_16 (by decide) ?_
    exact hret _ _ _ _ _ _ _ () (congrArg iZ (by (repeat' split) <;> omega)) hp dX2_fits_20 (by decide +kernel) (Nat.le_of_ble_eq_true rfl) (Nat.le_of_ble_eq_true rfl)
abbrev rmX2_append : Room := { frames := 0, cells := 0, slots := 0, locals := 0 }
set_option maxRecDepth 100000 in
set_option maxHeartbeats 4000000 in
theorem c_X2_append (l : Launch) (G : va_G) (cI : ClassId) (sz : Nat) (q2 b2 o2 : Nat) (pb : Nat → Int) (n org : Nat) (ent ed : Int) (v : Int) (h_n : n < 160) : Met l yX2_append wsX2_append rmX2_append (zPre G cI [oP q2 b2 o2 (↑n) (↑org) ent ed, aI cI b2 160 pb] sz [.ref q2, .int (iZ (v))]) (va_Qv (fun (u : Unit) => True) (fun (u : Unit) t => zB G cI (va_A [oP q2 b2 o2 (↑n) (↑org) ent ed, aI cI b2 160 pb] sz) [oP q2 b2 o2 (↑(n + 1)) (↑org) ent (ed + 1), aI cI b2 160 (upZ pb n v)] t) (va_A [oP q2 b2 o2 (↑n) (↑org) ent ed, aI cI b2 160 pb] sz)) 0 0 (va_A [oP q2 b2 o2 (↑n) (↑org) ent ed, aI cI b2 160 pb] sz) := by
  refine zm_v (W1 := fun (u : Unit) => [oP q2 b2 o2 (↑(n + 1)) (↑org) ent (ed + 1), aI cI b2 160 (upZ pb n v)]) (cc := cX2_append) (maxL := 2) (by decide) rfl (Nat.le_of_ble_eq_true rfl) ?_
  intro p e s m args below meth c A Q ls hsz hx hb hml hown hts hnm hret hp hl
  have hl : lv_has ls 2 [(0, .ref q2), (1, .int (iZ (v)))] := hl
  have hi2 : ∀ w ∈ wsX20, w ∈ wsX2_append := fun w h => List.mem_cons_of_mem _ (List.mem_append_right _ (h))
  have f9 := hts (.fieldLink RX2 9 "SelfOpener$Program" "bytes" "[I") (List.mem_of_getElem? (i := 1) rfl)
  have f18 := hts (.fieldLink RX2 18 "SelfOpener$Program" "size" "I") (List.mem_of_getElem? (i := 2) rfl)
  have f25 := hts (.fieldLink RX2 25 "SelfOpener$Program" "edition" "I") (List.mem_of_getElem? (i := 3) rfl)
  suffices hw : ∀ (H : Heap) (locs : List Loc), Hp G cI A s H locs [oP q2 b2 o2 (↑n) (↑org) ent ed, aI cI b2 160 pb] → W p l e rmX2_append s m args below meth c H locs 0 0 Q (F0 m 0 ls []) from hw _ _ hp
  clear hp; intro H locs hp
  refine lv_aload_n hx hb dX2_append_0 rfl (lv_at hl 0 rfl) ?_
  refine z_get hx hb hts hi2 hown hp 0 rfl rfl 0 (by decide) f9 rfl dX2_append_1 ?_
  refine lv_aload_n hx hb dX2_append_4 rfl (lv_at hl 0 rfl) ?_
  refine z_get hx hb hts hi2 hown hp 0 rfl rfl 2 (by decide) f18 rfl dX2_append_5 ?_
  refine lv_iload_n hx hb dX2_append_8 rfl (lv_at hl 1 rfl) ?_
  refine z_iast hx hb hp 1 rfl (n) (by omega) dX2_append_9 (ws' := [oP q2 b2 o2 (↑n) (↑org) ent ed, aI cI b2 160 (upZ pb n v)]) rfl (fun H locs hp => ?_)
  refine lv_aload_n hx hb dX2_append_10 rfl (lv_at hl 0 rfl) ?_
  refine lv_dup hx hb dX2_append_11 rfl ?_
  refine z_get hx hb hts hi2 hown hp 0 rfl rfl 2 (by decide) f18 rfl dX2_append_12 ?_
  refine z_iconst hx hb dX2_append_15 ?_
  refine z_iadd hx hb (↑(n + 1)) (by omega) dX2_append_16 ?_
  refine z_put hx hb hts hi2 tyX2 tyX2_ok nmX2 hown hp 0 rfl rfl 2 (by decide) f18 rfl (rfl) (rfl) (Nat.le_of_ble_eq_true rfl) dX2_append_17 (ws' := [oP q2 b2 o2 (↑(n + 1)) (↑org) ent ed, aI cI b2 160 (upZ pb n v)]) rfl (fun H locs hp => ?_)
  refine lv_aload_n hx hb dX2_append_20 rfl (lv_at hl 0 rfl) ?_
  refine lv_dup hx hb dX2_append_21 rfl ?_
  refine z_get hx hb hts hi2 hown hp 0 rfl rfl 5 (by decide) f25 rfl dX2_append_22 ?_
  refine z_iconst hx hb dX2_append_25 ?_
  refine z_iadd hx hb (ed + 1) (rfl) dX2_append_26 ?_
  refine z_put hx hb hts hi2 tyX2 tyX2_ok nmX2 hown hp 0 rfl rfl 5 (by decide) f25 rfl (rfl) (rfl) (Nat.le_of_ble_eq_true rfl) dX2_append_27 (ws' := [oP q2 b2 o2 (↑(n + 1)) (↑org) ent (ed + 1), aI cI b2 160 (upZ pb n v)]) rfl (fun H locs hp => ?_)
  exact hret _ _ _ _ _ _ () (trivial) hp dX2_append_30 (Nat.le_of_ble_eq_true rfl) (Nat.le_of_ble_eq_true rfl)
abbrev rmX2_set : Room := { frames := 0, cells := 0, slots := 0, locals := 0 }
set_option maxRecDepth 100000 in
set_option maxHeartbeats 4000000 in
theorem c_X2_set (l : Launch) (G : va_G) (cI : ClassId) (sz : Nat) (q2 b2 o2 : Nat) (pb : Nat → Int) (n org : Nat) (ent ed : Int) (i : Nat) (v : Int) (h_i : i < 160) : Met l yX2_set wsX2_set rmX2_set (zPre G cI [oP q2 b2 o2 (↑n) (↑org) ent ed, aI cI b2 160 pb] sz [.ref q2, .int (iZ (↑i)), .int (iZ (v))]) (va_Qv (fun (u : Unit) => True) (fun (u : Unit) t => zB G cI (va_A [oP q2 b2 o2 (↑n) (↑org) ent ed, aI cI b2 160 pb] sz) [oP q2 b2 o2 (↑n) (↑org) ent (ed + 1), aI cI b2 160 (upZ pb i v)] t) (va_A [oP q2 b2 o2 (↑n) (↑org) ent ed, aI cI b2 160 pb] sz)) 0 0 (va_A [oP q2 b2 o2 (↑n) (↑org) ent ed, aI cI b2 160 pb] sz) := by
  refine zm_v (W1 := fun (u : Unit) => [oP q2 b2 o2 (↑n) (↑org) ent (ed + 1), aI cI b2 160 (upZ pb i v)]) (cc := cX2_set) (maxL := 3) (by decide) rfl (Nat.le_of_ble_eq_true rfl) ?_
  intro p e s m args below meth c A Q ls hsz hx hb hml hown hts hnm hret hp hl
  have hl : lv_has ls 3 [(0, .ref q2), (1, .int (iZ (↑i))), (2, .int (iZ (v)))] := hl
  have hi2 : ∀ w ∈ wsX20, w ∈ wsX2_set := fun w h => List.mem_cons_of_mem _ (List.mem_append_right _ (h))
  have f9 := hts (.fieldLink RX2 9 "SelfOpener$Program" "bytes" "[I") (List.mem_of_getElem? (i := 1) rfl)
  have f25 := hts (.fieldLink RX2 25 "SelfOpener$Program" "edition" "I") (List.mem_of_getElem? (i := 2) rfl)
  suffices hw : ∀ (H : Heap) (locs : List Loc), Hp G cI A s H locs [oP q2 b2 o2 (↑n) (↑org) ent ed, aI cI b2 160 pb] → W p l e rmX2_set s m args below meth c H locs 0 0 Q (F0 m 0 ls []) from hw _ _ hp
  clear hp; intro H locs hp
  refine lv_aload_n hx hb dX2_set_0 rfl (lv_at hl 0 rfl) ?_
  refine z_get hx hb hts hi2 hown hp 0 rfl rfl 0 (by decide) f9 rfl dX2_set_1 ?_
  refine lv_iload_n hx hb dX2_set_4 rfl (lv_at hl 1 rfl) ?_
  refine lv_iload_n hx hb dX2_set_5 rfl (lv_at hl 2 rfl) ?_
  refine z_iast hx hb hp 1 rfl (i) (by omega) dX2_set_6 (ws' := [oP q2 b2 o2 (↑n) (↑org) ent ed, aI cI b2 160 (upZ pb i v)]) rfl (fun H locs hp => ?_)
  refine lv_aload_n hx hb dX2_set_7 rfl (lv_at hl 0 rfl) ?_
  refine lv_dup hx hb dX2_set_8 rfl ?_
  refine z_get hx hb hts hi2 hown hp 0 rfl rfl 5 (by decide) f25 rfl dX2_set_9 ?_
  refine z_iconst hx hb dX2_set_12 ?_
  refine z_iadd hx hb (ed + 1) (rfl) dX2_set_13 ?_
  refine z_put hx hb hts hi2 tyX2 tyX2_ok nmX2 hown hp 0 rfl rfl 5 (by decide) f25 rfl (rfl) (rfl) (Nat.le_of_ble_eq_true rfl) dX2_set_14 (ws' := [oP q2 b2 o2 (↑n) (↑org) ent (ed + 1), aI cI b2 160 (upZ pb i v)]) rfl (fun H locs hp => ?_)
  exact hret _ _ _ _ _ _ () (trivial) hp dX2_set_17 (Nat.le_of_ble_eq_true rfl) (Nat.le_of_ble_eq_true rfl)
abbrev rmX2_shorten : Room := { frames := 0, cells := 0, slots := 0, locals := 0 }
set_option maxRecDepth 100000 in
set_option maxHeartbeats 4000000 in
theorem c_X2_shorten (l : Launch) (G : va_G) (cI : ClassId) (sz : Nat) (q2 b2 o2 : Nat) (n org : Nat) (ent ed : Int) (k : Nat)  : Met l yX2_shorten wsX2_shorten rmX2_shorten (zPre G cI [oP q2 b2 o2 (↑n) (↑org) ent ed] sz [.ref q2, .int (iZ (↑k))]) (va_Qv (fun (u : Unit) => True) (fun (u : Unit) t => zB G cI (va_A [oP q2 b2 o2 (↑n) (↑org) ent ed] sz) [oP q2 b2 o2 (↑k) (↑org) ent (ed + 1)] t) (va_A [oP q2 b2 o2 (↑n) (↑org) ent ed] sz)) 0 0 (va_A [oP q2 b2 o2 (↑n) (↑org) ent ed] sz) := by
  refine zm_v (W1 := fun (u : Unit) => [oP q2 b2 o2 (↑k) (↑org) ent (ed + 1)]) (cc := cX2_shorten) (maxL := 2) (by decide) rfl (Nat.le_of_ble_eq_true rfl) ?_
  intro p e s m args below meth c A Q ls hsz hx hb hml hown hts hnm hret hp hl
  have hl : lv_has ls 2 [(0, .ref q2), (1, .int (iZ (↑k)))] := hl
  have hi2 : ∀ w ∈ wsX20, w ∈ wsX2_shorten := fun w h => List.mem_cons_of_mem _ (List.mem_append_right _ (h))
  have f18 := hts (.fieldLink RX2 18 "SelfOpener$Program" "size" "I") (List.mem_of_getElem? (i := 1) rfl)
  have f25 := hts (.fieldLink RX2 25 "SelfOpener$Program" "edition" "I") (List.mem_of_getElem? (i := 2) rfl)
  suffices hw : ∀ (H : Heap) (locs : List Loc), Hp G cI A s H locs [oP q2 b2 o2 (↑n) (↑org) ent ed] → W p l e rmX2_shorten s m args below meth c H locs 0 0 Q (F0 m 0 ls []) from hw _ _ hp
  clear hp; intro H locs hp
  refine lv_aload_n hx hb dX2_shorten_0 rfl (lv_at hl 0 rfl) ?_
  refine lv_iload_n hx hb dX2_shorten_1 rfl (lv_at hl 1 rfl) ?_
  refine z_put hx hb hts hi2 tyX2 tyX2_ok nmX2 hown hp 0 rfl rfl 2 (by decide) f18 rfl (rfl) (rfl) (Nat.le_of_ble_eq_true rfl) dX2_shorten_2 (ws' := [oP q2 b2 o2 (↑k) (↑org) ent ed]) rfl (fun H locs hp => ?_)
  refine lv_aload_n hx hb dX2_shorten_5 rfl (lv_at hl 0 rfl) ?_
  refine lv_dup hx hb dX2_shorten_6 rfl ?_
  refine z_get hx hb hts hi2 hown hp 0 rfl rfl 5 (by decide) f25 rfl dX2_shorten_7 ?_
  refine z_iconst hx hb dX2_shorten_10 ?_
  refine z_iadd hx hb (ed + 1) (rfl) dX2_shorten_11 ?_
  refine z_put hx hb hts hi2 tyX2 tyX2_ok nmX2 hown hp 0 rfl rfl 5 (by decide) f25 rfl (rfl) (rfl) (Nat.le_of_ble_eq_true rfl) dX2_shorten_12 (ws' := [oP q2 b2 o2 (↑k) (↑org) ent (ed + 1)]) rfl (fun H locs hp => ?_)
  exact hret _ _ _ _ _ _ () (trivial) hp dX2_shorten_15 (Nat.le_of_ble_eq_true rfl) (Nat.le_of_ble_eq_true rfl)
abbrev rmX2_loadedAt : Room := { frames := 0, cells := 0, slots := 0, locals := 0 }
set_option maxRecDepth 100000 in
set_option maxHeartbeats 4000000 in
theorem c_X2_loadedAt (l : Launch) (G : va_G) (cI : ClassId) (sz : Nat) (q2 b2 o2 : Nat) (pb : Nat → Int) (n org : Nat) (ent ed : Int) (a : Nat) (h_n : n ≤ 160) (h_o : org < 256) (h_a : a < 256) : Met l yX2_loadedAt wsX2_loadedAt rmX2_loadedAt (zPre G cI [oP q2 b2 o2 (↑n) (↑org) ent ed, aI cI b2 160 pb] sz [.ref q2, .int (iZ (↑a))]) (va_Qi (fun (r : Int32) (u : Unit) => r = iZ (if org ≤ a ∧ a < org + n then pb (a - org) else 0)) (fun (u : Unit) t => zB G cI (va_A [oP q2 b2 o2 (↑n) (↑org) ent ed, aI cI b2 160 pb] sz) [oP q2 b2 o2 (↑n) (↑org) ent ed, aI cI b2 160 pb] t) (va_A [oP q2 b2 o2 (↑n) (↑org) ent ed, aI cI b2 160 pb] sz)) 0 0 (va_A [oP q2 b2 o2 (↑n) (↑org) ent ed, aI cI b2 160 pb] sz) := by
  refine zm_i (W1 := fun (u : Unit) => [oP q2 b2 o2 (↑n) (↑org) ent ed, aI cI b2 160 pb]) (cc := cX2_loadedAt) (maxL := 3) (ty := .int) (by decide) rfl (Nat.le_of_ble_eq_true rfl) ?_
  intro p e s m args below meth c A Q ls hsz hx hb hml hown hts hret hp hl
  have hl : lv_has ls 3 [(0, .ref q2), (1, .int (iZ (↑a)))] := hl
  have hi2 : ∀ w ∈ wsX20, w ∈ wsX2_loadedAt := fun w h => List.mem_cons_of_mem _ (List.mem_append_right _ (h))
  have f22 := hts (.fieldLink RX2 22 "SelfOpener$Program" "origin" "I") (List.mem_of_getElem? (i := 1) rfl)
  have f18 := hts (.fieldLink RX2 18 "SelfOpener$Program" "size" "I") (List.mem_of_getElem? (i := 2) rfl)
  have f9 := hts (.fieldLink RX2 9 "SelfOpener$Program" "bytes" "[I") (List.mem_of_getElem? (i := 3) rfl)
  suffices hw : ∀ (H : Heap) (locs : List Loc), Hp G cI A s H locs [oP q2 b2 o2 (↑n) (↑org) ent ed, aI cI b2 160 pb] → W p l e rmX2_loadedAt s m args below meth c H locs 0 0 Q (F0 m 0 ls []) from hw _ _ hp
  clear hp; intro H locs hp
  refine lv_iload_n hx hb dX2_loadedAt_0 rfl (lv_at hl 1 rfl) ?_
  refine lv_aload_n hx hb dX2_loadedAt_1 rfl (lv_at hl 0 rfl) ?_
  refine z_get hx hb hts hi2 hown hp 0 rfl rfl 3 (by decide) f22 rfl dX2_loadedAt_2 ?_
  refine z_isub hx hb ((↑a) - (↑org)) (rfl) dX2_loadedAt_5 ?_
  refine lv_istore_n (lv' := [(2, .int (iZ ((↑a) - (↑org)))), (0, .ref q2), (1, .int (iZ (↑a)))]) hx hb dX2_loadedAt_6 rfl hl (by decide) rfl (fun ls hl => ?_)
  refine lv_iload_n hx hb dX2_loadedAt_7 rfl (lv_at hl 0 rfl) ?_
  refine z_if_lt (tgt := 28) hx hb dX2_loadedAt_8 (by decide) (by omega) (fun h1 => ?_) (fun h1 => ?_)
  · skip
    refine z_iconst hx hb dX2_loadedAt_28 ?_
    exact hret _ _ _ _ _ _ _ () (congrArg iZ (by split <;> first | rfl | omega)) hp dX2_loadedAt_29 (rfl) (Nat.le_of_ble_eq_true rfl) (Nat.le_of_ble_eq_true rfl)
  · skip
    refine lv_iload_n hx hb dX2_loadedAt_11 rfl (lv_at hl 0 rfl) ?_
    refine lv_aload_n hx hb dX2_loadedAt_12 rfl (lv_at hl 1 rfl) ?_
    refine z_get hx hb hts hi2 hown hp 0 rfl rfl 2 (by decide) f18 rfl dX2_loadedAt_13 ?_
    refine z_icmp_ge (tgt := 28) hx hb dX2_loadedAt_16 (by decide) (by omega) (fun h2 => ?_) (fun h2 => ?_)
    · skip
      refine z_iconst hx hb dX2_loadedAt_28 ?_
      exact hret _ _ _ _ _ _ _ () (congrArg iZ (by split <;> first | rfl | omega)) hp dX2_loadedAt_29 (rfl) (Nat.le_of_ble_eq_true rfl) (Nat.le_of_ble_eq_true rfl)
    · skip
      refine lv_aload_n hx hb dX2_loadedAt_19 rfl (lv_at hl 1 rfl) ?_
      refine z_get hx hb hts hi2 hown hp 0 rfl rfl 0 (by decide) f9 rfl dX2_loadedAt_20 ?_
      refine lv_iload_n hx hb dX2_loadedAt_23 rfl (lv_at hl 0 rfl) ?_
      refine z_iald hx hb hp 1 rfl (a - org) (by omega) dX2_loadedAt_24 (pb (a - org)) (rfl) ?_
      refine lv_goto (tgt := 29) hx hb dX2_loadedAt_25 (by decide) ?_
      exact hret _ _ _ _ _ _ _ () (congrArg iZ (by split <;> first | rfl | omega)) hp dX2_loadedAt_29 (rfl) (Nat.le_of_ble_eq_true rfl) (Nat.le_of_ble_eq_true rfl)
abbrev rmX2_openRun : Room := { frames := 6, cells := 1, slots := 6, locals := 89 }
set_option maxRecDepth 100000 in
set_option maxHeartbeats 4000000 in
theorem c_X2_openRun (l : Launch) (G : va_G) (cI : ClassId) (t : Nat) (hst : l.stackTraces = false) (sz : Nat) (q2 b2 o2 : Nat) (pb ob : Nat → Int) (n org : Nat) (ent ed : Int) (rd t_ gr : Nat) (h_n : n ≤ 160) (h_rd : rd < n) (h_gr : gr ≤ 160) (h_t : t_ < 256) : vx_Met l yX2_openRun wsX2_openRun rmX2_openRun (zPreC t G cI [oP q2 b2 o2 (↑n) (↑org) ent ed, aI cI b2 160 pb, aI cI o2 160 ob] sz [.ref q2, .int (iZ (↑rd)), .int (iZ (↑t_)), .int (iZ (↑gr))]) (va_Qi (fun (r : Int32) (u : Unit) => r = iZ (↑(gr + t_)) ∧ t_ ≤ n - rd - 1 ∧ t_ ≤ 160 - gr) (fun (u : Unit) t => zB G cI (va_A [oP q2 b2 o2 (↑n) (↑org) ent ed, aI cI b2 160 pb, aI cI o2 160 ob] sz) [oP q2 b2 o2 (↑n) (↑org) ent ed, aI cI b2 160 pb, aI cI o2 160 (cpZ pb ob (rd + 1) gr t_)] t) (va_A [oP q2 b2 o2 (↑n) (↑org) ent ed, aI cI b2 160 pb, aI cI o2 160 ob] sz)) (vx_X (fun _ => True) (fun X (u : Unit) t => ((X = nNS ∧ n - rd - 1 < t_) ∨ (X = nUO ∧ t_ ≤ n - rd - 1 ∧ 160 - gr < t_)) ∧ zB G cI (va_A [oP q2 b2 o2 (↑n) (↑org) ent ed, aI cI b2 160 pb, aI cI o2 160 ob] sz) [oP q2 b2 o2 (↑n) (↑org) ent ed, aI cI b2 160 pb, aI cI o2 160 ob] t) (va_A [oP q2 b2 o2 (↑n) (↑org) ent ed, aI cI b2 160 pb, aI cI o2 160 ob] sz)) 1 6 (va_A [oP q2 b2 o2 (↑n) (↑org) ent ed, aI cI b2 160 pb, aI cI o2 160 ob] sz) := by
  refine zm_xi (W1 := fun (u : Unit) => [oP q2 b2 o2 (↑n) (↑org) ent ed, aI cI b2 160 pb, aI cI o2 160 (cpZ pb ob (rd + 1) gr t_)]) (WX := fun (u : Unit) => [oP q2 b2 o2 (↑n) (↑org) ent ed, aI cI b2 160 pb, aI cI o2 160 ob]) (cc := cX2_openRun) (maxL := 4) (ty := .int) hst rfl rfl (by decide) rfl (Nat.le_of_ble_eq_true rfl) ?_
  intro p e s m args below meth c A Q ls hsz hx hb hml hown hts hC hret hthr hout hp hl
  have hl : lv_has ls 4 [(0, .ref q2), (1, .int (iZ (↑rd))), (2, .int (iZ (↑t_))), (3, .int (iZ (↑gr)))] := hl
  have hi2 : ∀ w ∈ wsX20, w ∈ wsX2_openRun := fun w h => List.mem_cons_of_mem _ (List.mem_append_left _ (List.mem_append_left _ (List.mem_append_right _ (h))))
  have f18 := hts (.fieldLink RX2 18 "SelfOpener$Program" "size" "I") (List.mem_of_getElem? (i := 5) rfl)
  have f9 := hts (.fieldLink RX2 9 "SelfOpener$Program" "bytes" "[I") (List.mem_of_getElem? (i := 6) rfl)
  have f15 := hts (.fieldLink RX2 15 "SelfOpener$Program" "opened" "[I") (List.mem_of_getElem? (i := 7) rfl)
  have m43 := hts (.methodLink RX2 43 arraycopyName) (List.mem_of_getElem? (i := 8) rfl)
  have na := hts (.native arraycopyName) (List.mem_of_getElem? (i := 9) rfl)
  have sa := hts (.static arraycopyName) (List.mem_of_getElem? (i := 10) rfl)
  have is := hts (.initialized "java/lang/System") (List.mem_of_getElem? (i := 11) rfl)
  have l53 := hts (.classLink RX2 53 "java/lang/UnsupportedOperationException") (List.mem_of_getElem? (i := 3) rfl)
  have ini53 := hts (.initialized "java/lang/UnsupportedOperationException") (List.mem_of_getElem? (i := 4) rfl)
  have l37 := hts (.classLink RX2 37 "java/util/NoSuchElementException") (List.mem_of_getElem? (i := 1) rfl)
  have ini37 := hts (.initialized "java/util/NoSuchElementException") (List.mem_of_getElem? (i := 2) rfl)
  suffices hw : ∀ (H : Heap) (locs : List Loc), Hp G cI A s H locs [oP q2 b2 o2 (↑n) (↑org) ent ed, aI cI b2 160 pb, aI cI o2 160 ob] → W p l e rmX2_openRun s m args below meth c H locs 0 0 Q (F0 m 0 ls []) from hw _ _ hp
  clear hp; intro H locs hp
  refine lv_iload_n hx hb dX2_openRun_0 rfl (lv_at hl 2 rfl) ?_
  refine lv_aload_n hx hb dX2_openRun_1 rfl (lv_at hl 0 rfl) ?_
  refine z_get hx hb hts hi2 hown hp 0 rfl rfl 2 (by decide) f18 rfl dX2_openRun_2 ?_
  refine lv_iload_n hx hb dX2_openRun_5 rfl (lv_at hl 1 rfl) ?_
  refine z_isub hx hb ((↑n) - (↑rd)) (rfl) dX2_openRun_6 ?_
  refine z_iconst hx hb dX2_openRun_7 ?_
  refine z_isub hx hb (((↑n) - (↑rd)) - 1) (rfl) dX2_openRun_8 ?_
  refine z_icmp_le (tgt := 20) hx hb dX2_openRun_9 (by decide) (by omega) (fun h1 => ?_) (fun h1 => ?_)
  · skip
    refine lv_iload_n hx hb dX2_openRun_20 rfl (lv_at hl 2 rfl) ?_
    refine z_sipush hx hb dX2_openRun_21 (by decide +kernel) ?_
    refine lv_iload_n hx hb dX2_openRun_24 rfl (lv_at hl 3 rfl) ?_
    refine z_isub hx hb (160 - (↑gr)) (rfl) dX2_openRun_25 ?_
    refine z_icmp_le (tgt := 37) hx hb dX2_openRun_26 (by decide) (by omega) (fun h2 => ?_) (fun h2 => ?_)
    · skip
      refine lv_aload_n hx hb dX2_openRun_37 rfl (lv_at hl 0 rfl) ?_
      refine z_get hx hb hts hi2 hown hp 0 rfl rfl 0 (by decide) f9 rfl dX2_openRun_38 ?_
      refine lv_iload_n hx hb dX2_openRun_41 rfl (lv_at hl 1 rfl) ?_
      refine z_iconst hx hb dX2_openRun_42 ?_
      refine z_iadd hx hb ((↑rd) + 1) (rfl) dX2_openRun_43 ?_
      refine lv_aload_n hx hb dX2_openRun_44 rfl (lv_at hl 0 rfl) ?_
      refine z_get hx hb hts hi2 hown hp 0 rfl rfl 1 (by decide) f15 rfl dX2_openRun_45 ?_
      refine lv_iload_n hx hb dX2_openRun_48 rfl (lv_at hl 3 rfl) ?_
      refine lv_iload_n hx hb dX2_openRun_49 rfl (lv_at hl 2 rfl) ?_
      refine z_copy hx hb (by rw [hml]; exact hl.1.symm) hown m43 na sa is hp 1 2 rfl rfl (rd + 1) (gr) (t_) (by omega) (by omega) (by omega) (by omega) (Nat.le_of_ble_eq_true rfl) (Nat.le_of_ble_eq_true rfl) dX2_openRun_50 (ws' := [oP q2 b2 o2 (↑n) (↑org) ent ed, aI cI b2 160 pb, aI cI o2 160 (cpZ pb ob (rd + 1) gr t_)]) rfl (fun H locs hp => ?_)
      refine lv_iload_n hx hb dX2_openRun_53 rfl (lv_at hl 3 rfl) ?_
      refine lv_iload_n hx hb dX2_openRun_54 rfl (lv_at hl 2 rfl) ?_
      refine z_iadd hx hb (↑(gr + t_)) (by omega) dX2_openRun_55 ?_
      exact hret _ _ _ _ _ _ _ () (⟨rfl, by omega, by omega⟩) hp dX2_openRun_56 (rfl) (Nat.le_of_ble_eq_true rfl) (Nat.le_of_ble_eq_true rfl)
    · skip
      exact hthr _ _ _ _ _ _ _ "java/lang/UnsupportedOperationException" 53 55 () (Or.inr ⟨rfl, by omega, by omega⟩) hp hl.1 (by decide) l53 ini53 (fun w h => hts w (List.mem_cons_of_mem _ (List.mem_append_right _ (h)))) (by decide +kernel) (by decide +kernel) dX2_openRun_29 dX2_openRun_32 dX2_openRun_33 dX2_openRun_36 (Nat.le_of_ble_eq_true rfl) (Nat.le_of_ble_eq_true rfl) (Nat.le_of_ble_eq_true rfl) (Nat.le_of_ble_eq_true rfl) (Nat.le_of_ble_eq_true rfl)
  · skip
    exact hthr _ _ _ _ _ _ _ "java/util/NoSuchElementException" 37 39 () (Or.inl ⟨rfl, by omega⟩) hp hl.1 (by decide) l37 ini37 (fun w h => hts w (List.mem_cons_of_mem _ (List.mem_append_left _ (List.mem_append_right _ (h))))) (by decide +kernel) (by decide +kernel) dX2_openRun_12 dX2_openRun_15 dX2_openRun_16 dX2_openRun_19 (Nat.le_of_ble_eq_true rfl) (Nat.le_of_ble_eq_true rfl) (Nat.le_of_ble_eq_true rfl) (Nat.le_of_ble_eq_true rfl) (Nat.le_of_ble_eq_true rfl)
abbrev rmX2_openRun_ok : Room := { frames := 1, cells := 0, slots := 0, locals := 80 }
set_option maxRecDepth 100000 in
set_option maxHeartbeats 4000000 in
theorem c_X2_openRun_ok (l : Launch) (G : va_G) (cI : ClassId) (sz : Nat) (q2 b2 o2 : Nat) (pb ob : Nat → Int) (n org : Nat) (ent ed : Int) (rd t_ gr : Nat) (h_n : n ≤ 160) (h_rd : rd < n) (h_gr : gr ≤ 160) (h_t : t_ < 256) (h_ok : t_ ≤ n - rd - 1 ∧ t_ ≤ 160 - gr) : Met l yX2_openRun wsX2_openRun rmX2_openRun_ok (zPre G cI [oP q2 b2 o2 (↑n) (↑org) ent ed, aI cI b2 160 pb, aI cI o2 160 ob] sz [.ref q2, .int (iZ (↑rd)), .int (iZ (↑t_)), .int (iZ (↑gr))]) (va_Qi (fun (r : Int32) (u : Unit) => r = iZ (↑(gr + t_))) (fun (u : Unit) t => zB G cI (va_A [oP q2 b2 o2 (↑n) (↑org) ent ed, aI cI b2 160 pb, aI cI o2 160 ob] sz) [oP q2 b2 o2 (↑n) (↑org) ent ed, aI cI b2 160 pb, aI cI o2 160 (cpZ pb ob (rd + 1) gr t_)] t) (va_A [oP q2 b2 o2 (↑n) (↑org) ent ed, aI cI b2 160 pb, aI cI o2 160 ob] sz)) 0 0 (va_A [oP q2 b2 o2 (↑n) (↑org) ent ed, aI cI b2 160 pb, aI cI o2 160 ob] sz) := by
  refine zm_i (W1 := fun (u : Unit) => [oP q2 b2 o2 (↑n) (↑org) ent ed, aI cI b2 160 pb, aI cI o2 160 (cpZ pb ob (rd + 1) gr t_)]) (cc := cX2_openRun) (maxL := 4) (ty := .int) (by decide) rfl (Nat.le_of_ble_eq_true rfl) ?_
  intro p e s m args below meth c A Q ls hsz hx hb hml hown hts hret hp hl
  have hl : lv_has ls 4 [(0, .ref q2), (1, .int (iZ (↑rd))), (2, .int (iZ (↑t_))), (3, .int (iZ (↑gr)))] := hl
  have hi2 : ∀ w ∈ wsX20, w ∈ wsX2_openRun := fun w h => List.mem_cons_of_mem _ (List.mem_append_left _ (List.mem_append_left _ (List.mem_append_right _ (h))))
  have f18 := hts (.fieldLink RX2 18 "SelfOpener$Program" "size" "I") (List.mem_of_getElem? (i := 5) rfl)
  have f9 := hts (.fieldLink RX2 9 "SelfOpener$Program" "bytes" "[I") (List.mem_of_getElem? (i := 6) rfl)
  have f15 := hts (.fieldLink RX2 15 "SelfOpener$Program" "opened" "[I") (List.mem_of_getElem? (i := 7) rfl)
  have m43 := hts (.methodLink RX2 43 arraycopyName) (List.mem_of_getElem? (i := 8) rfl)
  have na := hts (.native arraycopyName) (List.mem_of_getElem? (i := 9) rfl)
  have sa := hts (.static arraycopyName) (List.mem_of_getElem? (i := 10) rfl)
  have is := hts (.initialized "java/lang/System") (List.mem_of_getElem? (i := 11) rfl)
  suffices hw : ∀ (H : Heap) (locs : List Loc), Hp G cI A s H locs [oP q2 b2 o2 (↑n) (↑org) ent ed, aI cI b2 160 pb, aI cI o2 160 ob] → W p l e rmX2_openRun_ok s m args below meth c H locs 0 0 Q (F0 m 0 ls []) from hw _ _ hp
  clear hp; intro H locs hp
  refine lv_iload_n hx hb dX2_openRun_0 rfl (lv_at hl 2 rfl) ?_
  refine lv_aload_n hx hb dX2_openRun_1 rfl (lv_at hl 0 rfl) ?_
  refine z_get hx hb hts hi2 hown hp 0 rfl rfl 2 (by decide) f18 rfl dX2_openRun_2 ?_
  refine lv_iload_n hx hb dX2_openRun_5 rfl (lv_at hl 1 rfl) ?_
  refine z_isub hx hb ((↑n) - (↑rd)) (rfl) dX2_openRun_6 ?_
  refine z_iconst hx hb dX2_openRun_7 ?_
  refine z_isub hx hb (((↑n) - (↑rd)) - 1) (rfl) dX2_openRun_8 ?_
  refine z_icmp_le (tgt := 20) hx hb dX2_openRun_9 (by decide) (by omega) (fun h1 => ?_) (fun h1 => ?_)
  · skip
    refine lv_iload_n hx hb dX2_openRun_20 rfl (lv_at hl 2 rfl) ?_
    refine z_sipush hx hb dX2_openRun_21 (by decide +kernel) ?_
    refine lv_iload_n hx hb dX2_openRun_24 rfl (lv_at hl 3 rfl) ?_
    refine z_isub hx hb (160 - (↑gr)) (rfl) dX2_openRun_25 ?_
    refine z_icmp_le (tgt := 37) hx hb dX2_openRun_26 (by decide) (by omega) (fun h2 => ?_) (fun h2 => ?_)
    · skip
      refine lv_aload_n hx hb dX2_openRun_37 rfl (lv_at hl 0 rfl) ?_
      refine z_get hx hb hts hi2 hown hp 0 rfl rfl 0 (by decide) f9 rfl dX2_openRun_38 ?_
      refine lv_iload_n hx hb dX2_openRun_41 rfl (lv_at hl 1 rfl) ?_
      refine z_iconst hx hb dX2_openRun_42 ?_
      refine z_iadd hx hb ((↑rd) + 1) (rfl) dX2_openRun_43 ?_
      refine lv_aload_n hx hb dX2_openRun_44 rfl (lv_at hl 0 rfl) ?_
      refine z_get hx hb hts hi2 hown hp 0 rfl rfl 1 (by decide) f15 rfl dX2_openRun_45 ?_
      refine lv_iload_n hx hb dX2_openRun_48 rfl (lv_at hl 3 rfl) ?_
      refine lv_iload_n hx hb dX2_openRun_49 rfl (lv_at hl 2 rfl) ?_
      refine z_copy hx hb (by rw [hml]; exact hl.1.symm) hown m43 na sa is hp 1 2 rfl rfl (rd + 1) (gr) (t_) (by omega) (by omega) (by omega) (by omega) (Nat.le_of_ble_eq_true rfl) (Nat.le_of_ble_eq_true rfl) dX2_openRun_50 (ws' := [oP q2 b2 o2 (↑n) (↑org) ent ed, aI cI b2 160 pb, aI cI o2 160 (cpZ pb ob (rd + 1) gr t_)]) rfl (fun H locs hp => ?_)
      refine lv_iload_n hx hb dX2_openRun_53 rfl (lv_at hl 3 rfl) ?_
      refine lv_iload_n hx hb dX2_openRun_54 rfl (lv_at hl 2 rfl) ?_
      refine z_iadd hx hb (↑(gr + t_)) (by omega) dX2_openRun_55 ?_
      exact hret _ _ _ _ _ _ _ () (rfl) hp dX2_openRun_56 (rfl) (Nat.le_of_ble_eq_true rfl) (Nat.le_of_ble_eq_true rfl)
    · skip
      exfalso; omega
  · skip
    exfalso; omega
abbrev rmX2_openCopy : Room := { frames := 6, cells := 1, slots := 6, locals := 89 }
set_option maxRecDepth 100000 in
set_option maxHeartbeats 4000000 in
theorem c_X2_openCopy (l : Launch) (G : va_G) (cI : ClassId) (t : Nat) (hst : l.stackTraces = false) (sz : Nat) (q2 b2 o2 : Nat) (pb ob : Nat → Int) (n org : Nat) (ent ed : Int) (rd t_ gr : Nat) (h_n : n ≤ 160) (h_rd : rd < n) (h_gr : gr ≤ 160) (h_t : t_ < 256) (h_b : BB pb 160) : vx_Met l yX2_openCopy wsX2_openCopy rmX2_openCopy (zPreC t G cI [oP q2 b2 o2 (↑n) (↑org) ent ed, aI cI b2 160 pb, aI cI o2 160 ob] sz [.ref q2, .int (iZ (↑rd)), .int (iZ (↑t_)), .int (iZ (↑gr))]) (va_Qi (fun (r : Int32) (u : Unit) => r = iZ (↑(gr + t_)) ∧ rd + 1 < n ∧ pb (rd + 1) ≠ 0 ∧ (pb (rd + 1)).toNat ≤ gr ∧ t_ ≤ 160 - gr) (fun (u : Unit) t => zB G cI (va_A [oP q2 b2 o2 (↑n) (↑org) ent ed, aI cI b2 160 pb, aI cI o2 160 ob] sz) [oP q2 b2 o2 (↑n) (↑org) ent ed, aI cI b2 160 pb, aI cI o2 160 (cpy1 ob gr (pb (rd + 1)).toNat t_)] t) (va_A [oP q2 b2 o2 (↑n) (↑org) ent ed, aI cI b2 160 pb, aI cI o2 160 ob] sz)) (vx_X (fun _ => True) (fun X (u : Unit) t => ((X = nNS ∧ n ≤ rd + 1) ∨ (X = nIA ∧ rd + 1 < n ∧ (pb (rd + 1) = 0 ∨ gr < (pb (rd + 1)).toNat)) ∨ (X = nUO ∧ rd + 1 < n ∧ pb (rd + 1) ≠ 0 ∧ (pb (rd + 1)).toNat ≤ gr ∧ 160 - gr < t_)) ∧ zB G cI (va_A [oP q2 b2 o2 (↑n) (↑org) ent ed, aI cI b2 160 pb, aI cI o2 160 ob] sz) [oP q2 b2 o2 (↑n) (↑org) ent ed, aI cI b2 160 pb, aI cI o2 160 ob] t) (va_A [oP q2 b2 o2 (↑n) (↑org) ent ed, aI cI b2 160 pb, aI cI o2 160 ob] sz)) 1 6 (va_A [oP q2 b2 o2 (↑n) (↑org) ent ed, aI cI b2 160 pb, aI cI o2 160 ob] sz) := by
  refine zm_xi (W1 := fun (u : Unit) => [oP q2 b2 o2 (↑n) (↑org) ent ed, aI cI b2 160 pb, aI cI o2 160 (cpy1 ob gr (pb (rd + 1)).toNat t_)]) (WX := fun (u : Unit) => [oP q2 b2 o2 (↑n) (↑org) ent ed, aI cI b2 160 pb, aI cI o2 160 ob]) (cc := cX2_openCopy) (maxL := 6) (ty := .int) hst rfl rfl (by decide) rfl (Nat.le_of_ble_eq_true rfl) ?_
  intro p e s m args below meth c A Q ls hsz hx hb hml hown hts hC hret hthr hout hp hl
  have hl : lv_has ls 6 [(0, .ref q2), (1, .int (iZ (↑rd))), (2, .int (iZ (↑t_))), (3, .int (iZ (↑gr)))] := hl
  have hi2 : ∀ w ∈ wsX20, w ∈ wsX2_openCopy := fun w h => List.mem_cons_of_mem _ (List.mem_append_left _ (List.mem_append_left _ (List.mem_append_left _ (List.mem_append_right _ (h)))))
  have f18 := hts (.fieldLink RX2 18 "SelfOpener$Program" "size" "I") (List.mem_of_getElem? (i := 7) rfl)
  have f9 := hts (.fieldLink RX2 9 "SelfOpener$Program" "bytes" "[I") (List.mem_of_getElem? (i := 8) rfl)
  have l56 := hts (.classLink RX2 56 "java/lang/IllegalArgumentException") (List.mem_of_getElem? (i := 3) rfl)
  have ini56 := hts (.initialized "java/lang/IllegalArgumentException") (List.mem_of_getElem? (i := 4) rfl)
  have f15 := hts (.fieldLink RX2 15 "SelfOpener$Program" "opened" "[I") (List.mem_of_getElem? (i := 9) rfl)
  have l53 := hts (.classLink RX2 53 "java/lang/UnsupportedOperationException") (List.mem_of_getElem? (i := 5) rfl)
  have ini53 := hts (.initialized "java/lang/UnsupportedOperationException") (List.mem_of_getElem? (i := 6) rfl)
  have l37 := hts (.classLink RX2 37 "java/util/NoSuchElementException") (List.mem_of_getElem? (i := 1) rfl)
  have ini37 := hts (.initialized "java/util/NoSuchElementException") (List.mem_of_getElem? (i := 2) rfl)
  suffices hw : ∀ (H : Heap) (locs : List Loc), Hp G cI A s H locs [oP q2 b2 o2 (↑n) (↑org) ent ed, aI cI b2 160 pb, aI cI o2 160 ob] → W p l e rmX2_openCopy s m args below meth c H locs 0 0 Q (F0 m 0 ls []) from hw _ _ hp
  clear hp; intro H locs hp
  refine lv_iload_n hx hb dX2_openCopy_0 rfl (lv_at hl 1 rfl) ?_
  refine z_iconst hx hb dX2_openCopy_1 ?_
  refine z_iadd hx hb ((↑rd) + 1) (rfl) dX2_openCopy_2 ?_
  refine lv_aload_n hx hb dX2_openCopy_3 rfl (lv_at hl 0 rfl) ?_
  refine z_get hx hb hts hi2 hown hp 0 rfl rfl 2 (by decide) f18 rfl dX2_openCopy_4 ?_
  refine z_icmp_lt (tgt := 18) hx hb dX2_openCopy_7 (by decide) (by omega) (fun h1 => ?_) (fun h1 => ?_)
  · skip
    have hd := h_b (rd + 1) (by omega)
    refine lv_aload_n hx hb dX2_openCopy_18 rfl (lv_at hl 0 rfl) ?_
    refine z_get hx hb hts hi2 hown hp 0 rfl rfl 0 (by decide) f9 rfl dX2_openCopy_19 ?_
    refine lv_iload_n hx hb dX2_openCopy_22 rfl (lv_at hl 1 rfl) ?_
    refine z_iconst hx hb dX2_openCopy_23 ?_
    refine z_iadd hx hb ((↑rd) + 1) (rfl) dX2_openCopy_24 ?_
    refine z_iald hx hb hp 1 rfl (rd + 1) (by omega) dX2_openCopy_25 (pb (rd + 1)) (rfl) ?_
    refine z_top (↑((pb (rd + 1)).toNat)) (by omega) ?_
    refine lv_istore (lv' := [(4, .int (iZ (↑((pb (rd + 1)).toNat)))), (0, .ref q2), (1, .int (iZ (↑rd))), (2, .int (iZ (↑t_))), (3, .int (iZ (↑gr)))]) hx hb dX2_openCopy_26 hl (by decide) rfl (fun ls hl => ?_)
    refine lv_iload hx hb dX2_openCopy_28 (lv_at hl 0 rfl) ?_
    refine z_if_eq (tgt := 39) hx hb dX2_openCopy_30 (by decide) (by omega) (fun h2 => ?_) (fun h2 => ?_)
    · skip
      exact hthr _ _ _ _ _ _ _ "java/lang/IllegalArgumentException" 56 58 () (Or.inr (Or.inl ⟨rfl, by omega, by omega⟩)) hp hl.1 (by decide) l56 ini56 (fun w h => hts w (List.mem_cons_of_mem _ (List.mem_append_left _ (List.mem_append_right _ (h))))) (by decide +kernel) (by decide +kernel) dX2_openCopy_39 dX2_openCopy_42 dX2_openCopy_43 dX2_openCopy_46 (Nat.le_of_ble_eq_true rfl) (Nat.le_of_ble_eq_true rfl) (Nat.le_of_ble_eq_true rfl) (Nat.le_of_ble_eq_true rfl) (Nat.le_of_ble_eq_true rfl)
    · skip
      refine lv_iload hx hb dX2_openCopy_33 (lv_at hl 0 rfl) ?_
      refine lv_iload_n hx hb dX2_openCopy_35 rfl (lv_at hl 4 rfl) ?_
      refine z_icmp_le (tgt := 47) hx hb dX2_openCopy_36 (by decide) (by omega) (fun h3 => ?_) (fun h3 => ?_)
      · skip
        refine lv_iload_n hx hb dX2_openCopy_47 rfl (lv_at hl 3 rfl) ?_
        refine z_sipush hx hb dX2_openCopy_48 (by decide +kernel) ?_
        refine lv_iload_n hx hb dX2_openCopy_51 rfl (lv_at hl 4 rfl) ?_
        refine z_isub hx hb (160 - (↑gr)) (rfl) dX2_openCopy_52 ?_
        refine z_icmp_le (tgt := 64) hx hb dX2_openCopy_53 (by decide) (by omega) (fun h4 => ?_) (fun h4 => ?_)
        · skip
          refine lv_iload_n hx hb dX2_openCopy_64 rfl (lv_at hl 4 rfl) ?_
          refine lv_istore (lv' := [(5, .int (iZ (↑gr))), (4, .int (iZ (↑((pb (rd + 1)).toNat)))), (0, .ref q2), (1, .int (iZ (↑rd))), (2, .int (iZ (↑t_))), (3, .int (iZ (↑gr)))]) hx hb dX2_openCopy_65 hl (by decide) rfl (fun ls hl => ?_)
          have lp5 : ∀ (N_lp5 : Nat) (k : Nat) (H : Heap) (locs : List Loc) (ls : Array Slot), (k ≤ t_) → (t_ - k) < N_lp5 → Hp G cI A s H locs [oP q2 b2 o2 (↑n) (↑org) ent ed, aI cI b2 160 pb, aI cI o2 160 (cpy1 ob gr (pb (rd + 1)).toNat k)] → lv_has ls 6 [(5, .int (iZ (↑(gr + k)))), (4, .int (iZ (↑((pb (rd + 1)).toNat)))), (0, .ref q2), (1, .int (iZ (↑rd))), (2, .int (iZ (↑t_))), (3, .int (iZ (↑gr)))] → W p l e rmX2_openCopy s m args below meth c H locs 0 0 Q (F0 m 67 ls []) := by
            intro N_lp5
            induction N_lp5 with
            | zero => intros; exfalso; omega
            | succ N_lp5 ih_lp5 =>
              intro k H locs ls hk hN hp hl
              refine lv_iload hx hb dX2_openCopy_67 (lv_at hl 0 rfl) ?_
              refine lv_iload_n hx hb dX2_openCopy_69 rfl (lv_at hl 5 rfl) ?_
              refine lv_iload_n hx hb dX2_openCopy_70 rfl (lv_at hl 4 rfl) ?_
              refine z_iadd hx hb ((↑gr) + (↑t_)) (rfl) dX2_openCopy_71 ?_
              refine z_icmp_ge (tgt := 98) hx hb dX2_openCopy_72 (by decide) (by omega) (fun h6 => ?_) (fun h6 => ?_)
              · skip
                obtain rfl : t_ = k := by omega
                refine lv_iload_n hx hb dX2_openCopy_98 rfl (lv_at hl 5 rfl) ?_
                refine lv_iload_n hx hb dX2_openCopy_99 rfl (lv_at hl 4 rfl) ?_
                refine z_iadd hx hb (↑(gr + t_)) (by omega) dX2_openCopy_100 ?_
                exact hret _ _ _ _ _ _ _ () (⟨rfl, by omega, by omega, by omega, by omega⟩) hp dX2_openCopy_101 (rfl) (Nat.le_of_ble_eq_true rfl) (Nat.le_of_ble_eq_true rfl)
              · skip
                refine lv_aload_n hx hb dX2_openCopy_75 rfl (lv_at hl 2 rfl) ?_
                refine z_get hx hb hts hi2 hown hp 0 rfl rfl 1 (by decide) f15 rfl dX2_openCopy_76 ?_
                refine lv_iload hx hb dX2_openCopy_79 (lv_at hl 0 rfl) ?_
                refine lv_aload_n hx hb dX2_openCopy_81 rfl (lv_at hl 2 rfl) ?_
                refine z_get hx hb hts hi2 hown hp 0 rfl rfl 1 (by decide) f15 rfl dX2_openCopy_82 ?_
                refine lv_iload hx hb dX2_openCopy_85 (lv_at hl 0 rfl) ?_
                refine lv_iload hx hb dX2_openCopy_87 (lv_at hl 1 rfl) ?_
                refine z_isub hx hb (↑(gr + k - (pb (rd + 1)).toNat)) (by omega) dX2_openCopy_89 ?_
                refine z_iald hx hb hp 2 rfl (gr + k - (pb (rd + 1)).toNat) (by omega) dX2_openCopy_90 (cpy1 ob gr (pb (rd + 1)).toNat k (gr + k - (pb (rd + 1)).toNat)) (rfl) ?_
                refine z_iast hx hb hp 2 rfl (gr + k) (by omega) dX2_openCopy_91 (ws' := [oP q2 b2 o2 (↑n) (↑org) ent ed, aI cI b2 160 pb, aI cI o2 160 (upZ (cpy1 ob gr (pb (rd + 1)).toNat k) (gr + k) (cpy1 ob gr (pb (rd + 1)).toNat k (gr + k - (pb (rd + 1)).toNat)))]) rfl (fun H locs hp => ?_)
                refine z_iinc (k := 0) (lv' := [(5, .int (iZ (↑(gr + (k + 1))))), (4, .int (iZ (↑((pb (rd + 1)).toNat)))), (0, .ref q2), (1, .int (iZ (↑rd))), (2, .int (iZ (↑t_))), (3, .int (iZ (↑gr)))]) hx hb (↑(gr + (k + 1))) (by omega) dX2_openCopy_92 hl rfl (by decide) rfl (fun ls hl => ?_)
                refine lv_goto (tgt := 67) hx hb dX2_openCopy_95 (by decide) ?_
                exact ih_lp5 (k + 1) _ _ _ (by omega) (by omega) hp (lv_sub hl [0, 1, 2, 3, 4, 5] rfl)
          exact lp5 _ 0 _ _ _ (by omega) (Nat.lt_succ_self _) hp (lv_sub hl [0, 1, 2, 3, 4, 5] rfl)
        · skip
          exact hthr _ _ _ _ _ _ _ "java/lang/UnsupportedOperationException" 53 55 () (Or.inr (Or.inr ⟨rfl, by omega, by omega, by omega, by omega⟩)) hp hl.1 (by decide) l53 ini53 (fun w h => hts w (List.mem_cons_of_mem _ (List.mem_append_right _ (h)))) (by decide +kernel) (by decide +kernel) dX2_openCopy_56 dX2_openCopy_59 dX2_openCopy_60 dX2_openCopy_63 (Nat.le_of_ble_eq_true rfl) (Nat.le_of_ble_eq_true rfl) (Nat.le_of_ble_eq_true rfl) (Nat.le_of_ble_eq_true rfl) (Nat.le_of_ble_eq_true rfl)
      · skip
        exact hthr _ _ _ _ _ _ _ "java/lang/IllegalArgumentException" 56 58 () (Or.inr (Or.inl ⟨rfl, by omega, by omega⟩)) hp hl.1 (by decide) l56 ini56 (fun w h => hts w (List.mem_cons_of_mem _ (List.mem_append_left _ (List.mem_append_right _ (h))))) (by decide +kernel) (by decide +kernel) dX2_openCopy_39 dX2_openCopy_42 dX2_openCopy_43 dX2_openCopy_46 (Nat.le_of_ble_eq_true rfl) (Nat.le_of_ble_eq_true rfl) (Nat.le_of_ble_eq_true rfl) (Nat.le_of_ble_eq_true rfl) (Nat.le_of_ble_eq_true rfl)
  · skip
    exact hthr _ _ _ _ _ _ _ "java/util/NoSuchElementException" 37 39 () (Or.inl ⟨rfl, by omega⟩) hp hl.1 (by decide) l37 ini37 (fun w h => hts w (List.mem_cons_of_mem _ (List.mem_append_left _ (List.mem_append_left _ (List.mem_append_right _ (h)))))) (by decide +kernel) (by decide +kernel) dX2_openCopy_10 dX2_openCopy_13 dX2_openCopy_14 dX2_openCopy_17 (Nat.le_of_ble_eq_true rfl) (Nat.le_of_ble_eq_true rfl) (Nat.le_of_ble_eq_true rfl) (Nat.le_of_ble_eq_true rfl) (Nat.le_of_ble_eq_true rfl)
abbrev rmX2_openCopy_ok : Room := { frames := 0, cells := 0, slots := 0, locals := 0 }
set_option maxRecDepth 100000 in
set_option maxHeartbeats 4000000 in
theorem c_X2_openCopy_ok (l : Launch) (G : va_G) (cI : ClassId) (sz : Nat) (q2 b2 o2 : Nat) (pb ob : Nat → Int) (n org : Nat) (ent ed : Int) (rd t_ gr : Nat) (h_n : n ≤ 160) (h_rd : rd < n) (h_gr : gr ≤ 160) (h_t : t_ < 256) (h_b : BB pb 160) (h_ok : rd + 1 < n ∧ pb (rd + 1) ≠ 0 ∧ (pb (rd + 1)).toNat ≤ gr ∧ t_ ≤ 160 - gr) : Met l yX2_openCopy wsX2_openCopy rmX2_openCopy_ok (zPre G cI [oP q2 b2 o2 (↑n) (↑org) ent ed, aI cI b2 160 pb, aI cI o2 160 ob] sz [.ref q2, .int (iZ (↑rd)), .int (iZ (↑t_)), .int (iZ (↑gr))]) (va_Qi (fun (r : Int32) (u : Unit) => r = iZ (↑(gr + t_))) (fun (u : Unit) t => zB G cI (va_A [oP q2 b2 o2 (↑n) (↑org) ent ed, aI cI b2 160 pb, aI cI o2 160 ob] sz) [oP q2 b2 o2 (↑n) (↑org) ent ed, aI cI b2 160 pb, aI cI o2 160 (cpy1 ob gr (pb (rd + 1)).toNat t_)] t) (va_A [oP q2 b2 o2 (↑n) (↑org) ent ed, aI cI b2 160 pb, aI cI o2 160 ob] sz)) 0 0 (va_A [oP q2 b2 o2 (↑n) (↑org) ent ed, aI cI b2 160 pb, aI cI o2 160 ob] sz) := by
  refine zm_i (W1 := fun (u : Unit) => [oP q2 b2 o2 (↑n) (↑org) ent ed, aI cI b2 160 pb, aI cI o2 160 (cpy1 ob gr (pb (rd + 1)).toNat t_)]) (cc := cX2_openCopy) (maxL := 6) (ty := .int) (by decide) rfl (Nat.le_of_ble_eq_true rfl) ?_
  intro p e s m args below meth c A Q ls hsz hx hb hml hown hts hret hp hl
  have hl : lv_has ls 6 [(0, .ref q2), (1, .int (iZ (↑rd))), (2, .int (iZ (↑t_))), (3, .int (iZ (↑gr)))] := hl
  have hi2 : ∀ w ∈ wsX20, w ∈ wsX2_openCopy := fun w h => List.mem_cons_of_mem _ (List.mem_append_left _ (List.mem_append_left _ (List.mem_append_left _ (List.mem_append_right _ (h)))))
  have f18 := hts (.fieldLink RX2 18 "SelfOpener$Program" "size" "I") (List.mem_of_getElem? (i := 7) rfl)
  have f9 := hts (.fieldLink RX2 9 "SelfOpener$Program" "bytes" "[I") (List.mem_of_getElem? (i := 8) rfl)
  have f15 := hts (.fieldLink RX2 15 "SelfOpener$Program" "opened" "[I") (List.mem_of_getElem? (i := 9) rfl)
  suffices hw : ∀ (H : Heap) (locs : List Loc), Hp G cI A s H locs [oP q2 b2 o2 (↑n) (↑org) ent ed, aI cI b2 160 pb, aI cI o2 160 ob] → W p l e rmX2_openCopy_ok s m args below meth c H locs 0 0 Q (F0 m 0 ls []) from hw _ _ hp
  clear hp; intro H locs hp
  refine lv_iload_n hx hb dX2_openCopy_0 rfl (lv_at hl 1 rfl) ?_
  refine z_iconst hx hb dX2_openCopy_1 ?_
  refine z_iadd hx hb ((↑rd) + 1) (rfl) dX2_openCopy_2 ?_
  refine lv_aload_n hx hb dX2_openCopy_3 rfl (lv_at hl 0 rfl) ?_
  refine z_get hx hb hts hi2 hown hp 0 rfl rfl 2 (by decide) f18 rfl dX2_openCopy_4 ?_
  refine z_icmp_lt (tgt := 18) hx hb dX2_openCopy_7 (by decide) (by omega) (fun h1 => ?_) (fun h1 => ?_)
  · skip
    have hd := h_b (rd + 1) (by omega)
    refine lv_aload_n hx hb dX2_openCopy_18 rfl (lv_at hl 0 rfl) ?_
    refine z_get hx hb hts hi2 hown hp 0 rfl rfl 0 (by decide) f9 rfl dX2_openCopy_19 ?_
    refine lv_iload_n hx hb dX2_openCopy_22 rfl (lv_at hl 1 rfl) ?_
    refine z_iconst hx hb dX2_openCopy_23 ?_
    refine z_iadd hx hb ((↑rd) + 1) (rfl) dX2_openCopy_24 ?_
    refine z_iald hx hb hp 1 rfl (rd + 1) (by omega) dX2_openCopy_25 (pb (rd + 1)) (rfl) ?_
    refine z_top (↑((pb (rd + 1)).toNat)) (by omega) ?_
    refine lv_istore (lv' := [(4, .int (iZ (↑((pb (rd + 1)).toNat)))), (0, .ref q2), (1, .int (iZ (↑rd))), (2, .int (iZ (↑t_))), (3, .int (iZ (↑gr)))]) hx hb dX2_openCopy_26 hl (by decide) rfl (fun ls hl => ?_)
    refine lv_iload hx hb dX2_openCopy_28 (lv_at hl 0 rfl) ?_
    refine z_if_eq (tgt := 39) hx hb dX2_openCopy_30 (by decide) (by omega) (fun h2 => ?_) (fun h2 => ?_)
    · skip
      exfalso; omega
    · skip
      refine lv_iload hx hb dX2_openCopy_33 (lv_at hl 0 rfl) ?_
      refine lv_iload_n hx hb dX2_openCopy_35 rfl (lv_at hl 4 rfl) ?_
      refine z_icmp_le (tgt := 47) hx hb dX2_openCopy_36 (by decide) (by omega) (fun h3 => ?_) (fun h3 => ?_)
      · skip
        refine lv_iload_n hx hb dX2_openCopy_47 rfl (lv_at hl 3 rfl) ?_
        refine z_sipush hx hb dX2_openCopy_48 (by decide +kernel) ?_
        refine lv_iload_n hx hb dX2_openCopy_51 rfl (lv_at hl 4 rfl) ?_
        refine z_isub hx hb (160 - (↑gr)) (rfl) dX2_openCopy_52 ?_
        refine z_icmp_le (tgt := 64) hx hb dX2_openCopy_53 (by decide) (by omega) (fun h4 => ?_) (fun h4 => ?_)
        · skip
          refine lv_iload_n hx hb dX2_openCopy_64 rfl (lv_at hl 4 rfl) ?_
          refine lv_istore (lv' := [(5, .int (iZ (↑gr))), (4, .int (iZ (↑((pb (rd + 1)).toNat)))), (0, .ref q2), (1, .int (iZ (↑rd))), (2, .int (iZ (↑t_))), (3, .int (iZ (↑gr)))]) hx hb dX2_openCopy_65 hl (by decide) rfl (fun ls hl => ?_)
          have lp5 : ∀ (N_lp5 : Nat) (k : Nat) (H : Heap) (locs : List Loc) (ls : Array Slot), (k ≤ t_) → (t_ - k) < N_lp5 → Hp G cI A s H locs [oP q2 b2 o2 (↑n) (↑org) ent ed, aI cI b2 160 pb, aI cI o2 160 (cpy1 ob gr (pb (rd + 1)).toNat k)] → lv_has ls 6 [(5, .int (iZ (↑(gr + k)))), (4, .int (iZ (↑((pb (rd + 1)).toNat)))), (0, .ref q2), (1, .int (iZ (↑rd))), (2, .int (iZ (↑t_))), (3, .int (iZ (↑gr)))] → W p l e rmX2_openCopy_ok s m args below meth c H locs 0 0 Q (F0 m 67 ls []) := by
            intro N_lp5
            induction N_lp5 with
            | zero => intros; exfalso; omega
            | succ N_lp5 ih_lp5 =>
              intro k H locs ls hk hN hp hl
              refine lv_iload hx hb dX2_openCopy_67 (lv_at hl 0 rfl) ?_
              refine lv_iload_n hx hb dX2_openCopy_69 rfl (lv_at hl 5 rfl) ?_
              refine lv_iload_n hx hb dX2_openCopy_70 rfl (lv_at hl 4 rfl) ?_
              refine z_iadd hx hb ((↑gr) + (↑t_)) (rfl) dX2_openCopy_71 ?_
              refine z_icmp_ge (tgt := 98) hx hb dX2_openCopy_72 (by decide) (by omega) (fun h6 => ?_) (fun h6 => ?_)
              · skip
                obtain rfl : t_ = k := by omega
                refine lv_iload_n hx hb dX2_openCopy_98 rfl (lv_at hl 5 rfl) ?_
                refine lv_iload_n hx hb dX2_openCopy_99 rfl (lv_at hl 4 rfl) ?_
                refine z_iadd hx hb (↑(gr + t_)) (by omega) dX2_openCopy_100 ?_
                exact hret _ _ _ _ _ _ _ () (rfl) hp dX2_openCopy_101 (rfl) (Nat.le_of_ble_eq_true rfl) (Nat.le_of_ble_eq_true rfl)
              · skip
                refine lv_aload_n hx hb dX2_openCopy_75 rfl (lv_at hl 2 rfl) ?_
                refine z_get hx hb hts hi2 hown hp 0 rfl rfl 1 (by decide) f15 rfl dX2_openCopy_76 ?_
                refine lv_iload hx hb dX2_openCopy_79 (lv_at hl 0 rfl) ?_
                refine lv_aload_n hx hb dX2_openCopy_81 rfl (lv_at hl 2 rfl) ?_
                refine z_get hx hb hts hi2 hown hp 0 rfl rfl 1 (by decide) f15 rfl dX2_openCopy_82 ?_
                refine lv_iload hx hb dX2_openCopy_85 (lv_at hl 0 rfl) ?_
                refine lv_iload hx hb dX2_openCopy_87 (lv_at hl 1 rfl) ?_
                refine z_isub hx hb (↑(gr + k - (pb (rd + 1)).toNat)) (by omega) dX2_openCopy_89 ?_
                refine z_iald hx hb hp 2 rfl (gr + k - (pb (rd + 1)).toNat) (by omega) dX2_openCopy_90 (cpy1 ob gr (pb (rd + 1)).toNat k (gr + k - (pb (rd + 1)).toNat)) (rfl) ?_
                refine z_iast hx hb hp 2 rfl (gr + k) (by omega) dX2_openCopy_91 (ws' := [oP q2 b2 o2 (↑n) (↑org) ent ed, aI cI b2 160 pb, aI cI o2 160 (upZ (cpy1 ob gr (pb (rd + 1)).toNat k) (gr + k) (cpy1 ob gr (pb (rd + 1)).toNat k (gr + k - (pb (rd + 1)).toNat)))]) rfl (fun H locs hp => ?_)
                refine z_iinc (k := 0) (lv' := [(5, .int (iZ (↑(gr + (k + 1))))), (4, .int (iZ (↑((pb (rd + 1)).toNat)))), (0, .ref q2), (1, .int (iZ (↑rd))), (2, .int (iZ (↑t_))), (3, .int (iZ (↑gr)))]) hx hb (↑(gr + (k + 1))) (by omega) dX2_openCopy_92 hl rfl (by decide) rfl (fun ls hl => ?_)
                refine lv_goto (tgt := 67) hx hb dX2_openCopy_95 (by decide) ?_
                exact ih_lp5 (k + 1) _ _ _ (by omega) (by omega) hp (lv_sub hl [0, 1, 2, 3, 4, 5] rfl)
          exact lp5 _ 0 _ _ _ (by omega) (Nat.lt_succ_self _) hp (lv_sub hl [0, 1, 2, 3, 4, 5] rfl)
        · skip
          exfalso; omega
      · skip
        exfalso; omega
  · skip
    exfalso; omega
abbrev rmX2_openAsStream : Room := { frames := 7, cells := 1, slots := 6, locals := 120 }
set_option maxRecDepth 100000 in
set_option maxHeartbeats 4000000 in
theorem c_X2_openAsStream (l : Launch) (G : va_G) (cI : ClassId) (t : Nat) (hst : l.stackTraces = false) (sz : Nat) (q2 b2 o2 : Nat) (pb ob : Nat → Int) (n org : Nat) (ent ed : Int) (h_n : n ≤ 160) (h_b : BB pb 160) : vx_Met l yX2_openAsStream wsX2_openAsStream rmX2_openAsStream (zPreC t G cI [oP q2 b2 o2 (↑n) (↑org) ent ed, aI cI b2 160 pb, aI cI o2 160 ob] sz [.ref q2]) (va_Qv (fun (u : Unit) => (unp pb n (n + 1) 0 0 ob).1 = 0) (fun (u : Unit) t => zB G cI (va_A [oP q2 b2 o2 (↑n) (↑org) ent ed, aI cI b2 160 pb, aI cI o2 160 ob] sz) [oP q2 b2 o2 (↑(unp pb n (n + 1) 0 0 ob).2.1) (↑org) ent (ed + 1), aI cI b2 160 (cpZ (unp pb n (n + 1) 0 0 ob).2.2 pb 0 0 (unp pb n (n + 1) 0 0 ob).2.1), aI cI o2 160 ((unp pb n (n + 1) 0 0 ob).2.2)] t) (va_A [oP q2 b2 o2 (↑n) (↑org) ent ed, aI cI b2 160 pb, aI cI o2 160 ob] sz)) (vx_X (fun _ => True) (fun X (u : Nat → Int) t => ((unp pb n (n + 1) 0 0 ob).1 ≠ 0 ∧ X = unpX (unp pb n (n + 1) 0 0 ob).1) ∧ zB G cI (va_A [oP q2 b2 o2 (↑n) (↑org) ent ed, aI cI b2 160 pb, aI cI o2 160 ob] sz) [oP q2 b2 o2 (↑n) (↑org) ent ed, aI cI b2 160 pb, aI cI o2 160 u] t) (va_A [oP q2 b2 o2 (↑n) (↑org) ent ed, aI cI b2 160 pb, aI cI o2 160 ob] sz)) 1 6 (va_A [oP q2 b2 o2 (↑n) (↑org) ent ed, aI cI b2 160 pb, aI cI o2 160 ob] sz) := by
  refine zm_xv (W1 := fun (u : Unit) => [oP q2 b2 o2 (↑(unp pb n (n + 1) 0 0 ob).2.1) (↑org) ent (ed + 1), aI cI b2 160 (cpZ (unp pb n (n + 1) 0 0 ob).2.2 pb 0 0 (unp pb n (n + 1) 0 0 ob).2.1), aI cI o2 160 ((unp pb n (n + 1) 0 0 ob).2.2)]) (WX := fun (u : Nat → Int) => [oP q2 b2 o2 (↑n) (↑org) ent ed, aI cI b2 160 pb, aI cI o2 160 u]) (cc := cX2_openAsStream) (maxL := 4) hst rfl rfl (by decide) rfl (Nat.le_of_ble_eq_true rfl) ?_
  intro p e s m args below meth c A Q ls hsz hx hb hml hown hts hC hret hthr hout hp hl
  have hl : lv_has ls 4 [(0, .ref q2)] := hl
  have hi2 : ∀ w ∈ wsX20, w ∈ wsX2_openAsStream := fun w h => List.mem_cons_of_mem _ (List.mem_append_left _ (List.mem_append_left _ (List.mem_append_left _ (List.mem_append_left _ (List.mem_append_right _ (h))))))
  have f18 := hts (.fieldLink RX2 18 "SelfOpener$Program" "size" "I") (List.mem_of_getElem? (i := 5) rfl)
  have f15 := hts (.fieldLink RX2 15 "SelfOpener$Program" "opened" "[I") (List.mem_of_getElem? (i := 7) rfl)
  have f9 := hts (.fieldLink RX2 9 "SelfOpener$Program" "bytes" "[I") (List.mem_of_getElem? (i := 6) rfl)
  have m43 := hts (.methodLink RX2 43 arraycopyName) (List.mem_of_getElem? (i := 8) rfl)
  have na := hts (.native arraycopyName) (List.mem_of_getElem? (i := 9) rfl)
  have sa := hts (.static arraycopyName) (List.mem_of_getElem? (i := 10) rfl)
  have is := hts (.initialized "java/lang/System") (List.mem_of_getElem? (i := 11) rfl)
  have l40 := hts (.classLink RX2 40 "java/lang/IllegalStateException") (List.mem_of_getElem? (i := 3) rfl)
  have ini40 := hts (.initialized "java/lang/IllegalStateException") (List.mem_of_getElem? (i := 4) rfl)
  have l37 := hts (.classLink RX2 37 "java/util/NoSuchElementException") (List.mem_of_getElem? (i := 1) rfl)
  have ini37 := hts (.initialized "java/util/NoSuchElementException") (List.mem_of_getElem? (i := 2) rfl)
  obtain ⟨R, hR0⟩ : ∃ z, z = unp pb n (n + 1) 0 0 ob := ⟨_, rfl⟩
  rw [← hR0] at hret hthr hout
  suffices hw : ∀ (H : Heap) (locs : List Loc), Hp G cI A s H locs [oP q2 b2 o2 (↑n) (↑org) ent ed, aI cI b2 160 pb, aI cI o2 160 ob] → W p l e rmX2_openAsStream s m args below meth c H locs 0 0 Q (F0 m 0 ls []) from hw _ _ hp
  clear hp; intro H locs hp
  refine z_iconst hx hb dX2_openAsStream_0 ?_
  refine lv_istore_n (lv' := [(1, .int (iZ (0))), (0, .ref q2)]) hx hb dX2_openAsStream_1 rfl hl (by decide) rfl (fun ls hl => ?_)
  refine z_iconst hx hb dX2_openAsStream_2 ?_
  refine lv_istore_n (lv' := [(2, .int (iZ (0))), (1, .int (iZ (0))), (0, .ref q2)]) hx hb dX2_openAsStream_3 rfl hl (by decide) rfl (fun ls hl => ?_)
  have jn1 : ∀ (rd gr : Nat) (op : Nat → Int) (H : Heap) (locs : List Loc) (ls : Array Slot), (rd ≤ n) → (gr ≤ 160) → ((if n ≤ rd then (1, gr, op) else if rd < n - 1 then (2, gr, op) else (0, gr, op)) = R) → Hp G cI A s H locs [oP q2 b2 o2 (↑n) (↑org) ent ed, aI cI b2 160 pb, aI cI o2 160 op] → lv_has ls 4 [(0, .ref q2), (1, .int (iZ (↑rd))), (2, .int (iZ (↑gr)))] → W p l e rmX2_openAsStream s m args below meth c H locs 0 0 Q (F0 m 69 ls []) := by
    intro rd gr op H locs ls hrd hgr hR hp hl
    refine lv_iload_n hx hb dX2_openAsStream_69 rfl (lv_at hl 1 rfl) ?_
    refine lv_aload_n hx hb dX2_openAsStream_70 rfl (lv_at hl 0 rfl) ?_
    refine z_get hx hb hts hi2 hown hp 0 rfl rfl 2 (by decide) f18 rfl dX2_openAsStream_71 ?_
    refine z_icmp_lt (tgt := 85) hx hb dX2_openAsStream_74 (by decide) (by omega) (fun h5 => ?_) (fun h5 => ?_)
    · skip
      refine lv_iload_n hx hb dX2_openAsStream_85 rfl (lv_at hl 1 rfl) ?_
      refine lv_aload_n hx hb dX2_openAsStream_86 rfl (lv_at hl 0 rfl) ?_
      refine z_get hx hb hts hi2 hown hp 0 rfl rfl 2 (by decide) f18 rfl dX2_openAsStream_87 ?_
      refine z_iconst hx hb dX2_openAsStream_90 ?_
      refine z_isub hx hb ((↑n) - 1) (rfl) dX2_openAsStream_91 ?_
      refine z_icmp_ge (tgt := 103) hx hb dX2_openAsStream_92 (by decide) (by omega) (fun h6 => ?_) (fun h6 => ?_)
      · skip
        rw [if_neg (by omega), if_neg (by omega)] at hR
        subst hR
        refine lv_aload_n hx hb dX2_openAsStream_103 rfl (lv_at hl 0 rfl) ?_
        refine z_get hx hb hts hi2 hown hp 0 rfl rfl 1 (by decide) f15 rfl dX2_openAsStream_104 ?_
        refine z_iconst hx hb dX2_openAsStream_107 ?_
        refine lv_aload_n hx hb dX2_openAsStream_108 rfl (lv_at hl 0 rfl) ?_
        refine z_get hx hb hts hi2 hown hp 0 rfl rfl 0 (by decide) f9 rfl dX2_openAsStream_109 ?_
        refine z_iconst hx hb dX2_openAsStream_112 ?_
        refine lv_iload_n hx hb dX2_openAsStream_113 rfl (lv_at hl 2 rfl) ?_
        refine z_copy hx hb (by rw [hml]; exact hl.1.symm) hown m43 na sa is hp 2 1 rfl rfl (0) (0) (gr) (by omega) (by omega) (by omega) (by omega) (Nat.le_of_ble_eq_true rfl) (Nat.le_of_ble_eq_true rfl) dX2_openAsStream_114 (ws' := [oP q2 b2 o2 (↑n) (↑org) ent ed, aI cI b2 160 (cpZ op pb 0 0 gr), aI cI o2 160 op]) rfl (fun H locs hp => ?_)
        refine lv_aload_n hx hb dX2_openAsStream_117 rfl (lv_at hl 0 rfl) ?_
        refine lv_iload_n hx hb dX2_openAsStream_118 rfl (lv_at hl 2 rfl) ?_
        refine zc_v (wr := [aI cI b2 160 (cpZ op pb 0 0 gr), aI cI o2 160 op]) (W0 := [oP q2 b2 o2 (↑n) (↑org) ent ed]) (wl2 := fun (u : Unit) => [oP q2 b2 o2 (↑gr) (↑org) ent (ed + 1), aI cI b2 160 (cpZ op pb 0 0 gr), aI cI o2 160 op]) (As := [.int (iZ (↑gr))]) (rest := []) hx hb hml hown hts hp (c_X2_shorten l G cI H.size q2 b2 o2 n org ent ed gr) zPre_blind (z_pre hp [0] rfl (by decide) [.ref q2, .int (iZ (↑gr))]) (cwV 1 hts gX2_openAsStream_X2_shorten rfl rfl rfl (by decide +kernel) ⟨Nat.le_of_ble_eq_true rfl, Nat.le_of_ble_eq_true rfl⟩) [0] [1, 2] [2, 0, 1] rfl rfl ⟨by decide, by decide, by decide⟩ (fun _ => rfl) 0 2 rfl rfl rfl rfl hl.1 rfl (Nat.le_of_ble_eq_true rfl) dX2_openAsStream_119 ⟨Nat.le_of_ble_eq_true rfl, Nat.le_of_ble_eq_true rfl⟩ (fun u H locs hq7 hp => ?_)
        exact hret _ _ _ _ _ _ () (rfl) hp dX2_openAsStream_122 (Nat.le_of_ble_eq_true rfl) (Nat.le_of_ble_eq_true rfl)
      · skip
        exact hthr _ _ _ _ _ _ _ "java/lang/IllegalStateException" 40 42 op (by rw [if_neg (by omega), if_pos (by omega)] at hR; rw [← hR]; exact ⟨show (2 : Int) ≠ 0 by decide, rfl⟩) hp hl.1 (by decide) l40 ini40 (fun w h => hts w (List.mem_cons_of_mem _ (List.mem_append_left _ (List.mem_append_left _ (List.mem_append_right _ (h)))))) (by decide +kernel) (by decide +kernel) dX2_openAsStream_95 dX2_openAsStream_98 dX2_openAsStream_99 dX2_openAsStream_102 (Nat.le_of_ble_eq_true rfl) (Nat.le_of_ble_eq_true rfl) (Nat.le_of_ble_eq_true rfl) (Nat.le_of_ble_eq_true rfl) (Nat.le_of_ble_eq_true rfl)
    · skip
      exact hthr _ _ _ _ _ _ _ "java/util/NoSuchElementException" 37 39 op (by rw [if_pos (by omega)] at hR; rw [← hR]; exact ⟨show (1 : Int) ≠ 0 by decide, rfl⟩) hp hl.1 (by decide) l37 ini37 (fun w h => hts w (List.mem_cons_of_mem _ (List.mem_append_left _ (List.mem_append_left _ (List.mem_append_left _ (List.mem_append_right _ (h))))))) (by decide +kernel) (by decide +kernel) dX2_openAsStream_77 dX2_openAsStream_80 dX2_openAsStream_81 dX2_openAsStream_84 (Nat.le_of_ble_eq_true rfl) (Nat.le_of_ble_eq_true rfl) (Nat.le_of_ble_eq_true rfl) (Nat.le_of_ble_eq_true rfl) (Nat.le_of_ble_eq_true rfl)
  have lp8 : ∀ (N_lp8 : Nat) (f rd gr : Nat) (op : Nat → Int) (H : Heap) (locs : List Loc) (ls : Array Slot), (rd ≤ n) → (gr ≤ 160) → (n + 1 ≤ f + rd) → (unp pb n f rd gr op = R) → (n - rd) < N_lp8 → Hp G cI A s H locs [oP q2 b2 o2 (↑n) (↑org) ent ed, aI cI b2 160 pb, aI cI o2 160 op] → lv_has ls 4 [(0, .ref q2), (1, .int (iZ (↑rd))), (2, .int (iZ (↑gr)))] → W p l e rmX2_openAsStream s m args below meth c H locs 0 0 Q (F0 m 4 ls []) := by
    intro N_lp8
    induction N_lp8 with
    | zero => intros; exfalso; omega
    | succ N_lp8 ih_lp8 =>
      intro f rd gr op H locs ls hrd hgr hf hR hN hp hl
      obtain ⟨f, rfl⟩ : ∃ f9, f = f9 + 1 := ⟨f - 1, by omega⟩
      refine lv_iload_n hx hb dX2_openAsStream_4 rfl (lv_at hl 1 rfl) ?_
      refine lv_aload_n hx hb dX2_openAsStream_5 rfl (lv_at hl 0 rfl) ?_
      refine z_get hx hb hts hi2 hown hp 0 rfl rfl 2 (by decide) f18 rfl dX2_openAsStream_6 ?_
      refine z_icmp_ge (tgt := 69) hx hb dX2_openAsStream_9 (by decide) (by omega) (fun h9 => ?_) (fun h9 => ?_)
      · skip
        exact jn1 rd gr op _ _ _ (by omega) (by omega) (by rw [unp_end (by omega)] at hR; exact hR) hp (lv_sub hl [0, 1, 2] rfl)
      · skip
        have hb1 := h_b rd (by omega)
        refine lv_aload_n hx hb dX2_openAsStream_12 rfl (lv_at hl 0 rfl) ?_
        refine z_get hx hb hts hi2 hown hp 0 rfl rfl 0 (by decide) f9 rfl dX2_openAsStream_13 ?_
        refine lv_iload_n hx hb dX2_openAsStream_16 rfl (lv_at hl 1 rfl) ?_
        refine z_iald hx hb hp 1 rfl (rd) (by omega) dX2_openAsStream_17 (pb rd) (rfl) ?_
        refine z_if_eq (tgt := 69) hx hb dX2_openAsStream_18 (by decide) (by omega) (fun h10 => ?_) (fun h10 => ?_)
        · skip
          exact jn1 rd gr op _ _ _ (by omega) (by omega) (by rw [unp_end (by omega)] at hR; exact hR) hp (lv_sub hl [0, 1, 2] rfl)
        · skip
          refine lv_aload_n hx hb dX2_openAsStream_21 rfl (lv_at hl 0 rfl) ?_
          refine z_get hx hb hts hi2 hown hp 0 rfl rfl 0 (by decide) f9 rfl dX2_openAsStream_22 ?_
          refine lv_iload_n hx hb dX2_openAsStream_25 rfl (lv_at hl 1 rfl) ?_
          refine z_iald hx hb hp 1 rfl (rd) (by omega) dX2_openAsStream_26 (pb rd) (rfl) ?_
          refine z_top (↑((pb rd).toNat)) (by omega) ?_
          refine lv_istore_n (lv' := [(3, .int (iZ (↑((pb rd).toNat)))), (0, .ref q2), (1, .int (iZ (↑rd))), (2, .int (iZ (↑gr)))]) hx hb dX2_openAsStream_27 rfl hl (by decide) rfl (fun ls hl => ?_)
          refine lv_iload_n hx hb dX2_openAsStream_28 rfl (lv_at hl 0 rfl) ?_
          refine z_sipush hx hb dX2_openAsStream_29 (by decide +kernel) ?_
          refine z_icmp_ge (tgt := 52) hx hb dX2_openAsStream_32 (by decide) (by omega) (fun h11 => ?_) (fun h11 => ?_)
          · skip
            refine lv_aload_n hx hb dX2_openAsStream_52 rfl (lv_at hl 1 rfl) ?_
            refine lv_iload_n hx hb dX2_openAsStream_53 rfl (lv_at hl 2 rfl) ?_
            refine lv_iload_n hx hb dX2_openAsStream_54 rfl (lv_at hl 0 rfl) ?_
            refine z_bipush hx hb dX2_openAsStream_55 (by decide +kernel) ?_
            refine z_isub hx hb (↑((pb rd).toNat - 126)) (by omega) dX2_openAsStream_57 ?_
            refine lv_iload_n hx hb dX2_openAsStream_58 rfl (lv_at hl 3 rfl) ?_
            by_cases hc : rd + 1 < n ∧ pb (rd + 1) ≠ 0 ∧ (pb (rd + 1)).toNat ≤ gr ∧ (pb rd).toNat - 126 ≤ 160 - gr
            · skip
              refine zc_i (wr := []) (W0 := [oP q2 b2 o2 (↑n) (↑org) ent ed, aI cI b2 160 pb, aI cI o2 160 op]) (wl2 := fun (u : Unit) => [oP q2 b2 o2 (↑n) (↑org) ent ed, aI cI b2 160 pb, aI cI o2 160 (cpy1 op gr (pb (rd + 1)).toNat ((pb rd).toNat - 126))]) (As := [.int (iZ (↑rd)), .int (iZ (↑((pb rd).toNat - 126))), .int (iZ (↑gr))]) (rest := []) hx hb hml hown hts hp (c_X2_openCopy_ok l G cI H.size q2 b2 o2 pb op n org ent ed rd ((pb rd).toNat - 126) gr (by omega) (by omega) (by omega) (by omega) (h_b) (by omega)) zPre_blind (z_pre hp [0, 1, 2] rfl (by decide) [.ref q2, .int (iZ (↑rd)), .int (iZ (↑((pb rd).toNat - 126))), .int (iZ (↑gr))]) (cwV 3 hts gX2_openAsStream_X2_openCopy rfl rfl rfl (by decide +kernel) ⟨Nat.le_of_ble_eq_true rfl, Nat.le_of_ble_eq_true rfl⟩) [0, 1, 2] [] [0, 1, 2] rfl rfl ⟨by decide, by decide, by decide⟩ (fun _ => rfl) 0 2 rfl rfl rfl rfl hl.1 rfl (Nat.le_of_ble_eq_true rfl) dX2_openAsStream_59 ⟨Nat.le_of_ble_eq_true rfl, Nat.le_of_ble_eq_true rfl⟩ (fun rv u H locs hq12 hp => ?_)
              have hq1 := hc.1
              have hq2 := hc.2.1
              have hq3 := hc.2.2.1
              have hq4 := hc.2.2.2
              obtain rfl : rv = iZ (↑(gr + ((pb rd).toNat - 126))) := hq12
              refine lv_istore_n (lv' := [(2, .int (iZ (↑(gr + ((pb rd).toNat - 126))))), (3, .int (iZ (↑((pb rd).toNat)))), (0, .ref q2), (1, .int (iZ (↑rd)))]) hx hb dX2_openAsStream_62 rfl hl (by decide) rfl (fun ls hl => ?_)
              refine z_iinc (k := 3) (lv' := [(1, .int (iZ (↑(rd + 2)))), (2, .int (iZ (↑(gr + ((pb rd).toNat - 126))))), (3, .int (iZ (↑((pb rd).toNat)))), (0, .ref q2)]) hx hb (↑(rd + 2)) (by omega) dX2_openAsStream_63 hl rfl (by decide) rfl (fun ls hl => ?_)
              refine lv_goto (tgt := 4) hx hb dX2_openAsStream_66 (by decide) ?_
              exact ih_lp8 f (rd + 2) (gr + ((pb rd).toNat - 126)) (cpy1 op gr (pb (rd + 1)).toNat ((pb rd).toNat - 126)) _ _ _ (by omega) (by omega) (by omega) (by rw [unp_cpy (by omega) (by omega) (by omega), if_neg (by omega), if_neg (by omega), if_neg (by omega)] at hR; exact hR) (by omega) hp (lv_sub hl [3, 0, 1] rfl)
            · skip
              refine zx_i (wr := []) (W0 := [oP q2 b2 o2 (↑n) (↑org) ent ed, aI cI b2 160 pb, aI cI o2 160 op]) (wl2 := fun (u : Unit) => [oP q2 b2 o2 (↑n) (↑org) ent ed, aI cI b2 160 pb, aI cI o2 160 (cpy1 op gr (pb (rd + 1)).toNat ((pb rd).toNat - 126))]) (As := [.int (iZ (↑rd)), .int (iZ (↑((pb rd).toNat - 126))), .int (iZ (↑gr))]) (rest := []) (wlX := fun (u : Unit) => [oP q2 b2 o2 (↑n) (↑org) ent ed, aI cI b2 160 pb, aI cI o2 160 op]) hx hb hml hown hts hp (c_X2_openCopy l G cI t hst H.size q2 b2 o2 pb op n org ent ed rd ((pb rd).toNat - 126) gr (by omega) (by omega) (by omega) (by omega) (h_b)) zPreC_blind (z_preC hC hp [0, 1, 2] rfl (by decide) [.ref q2, .int (iZ (↑rd)), .int (iZ (↑((pb rd).toNat - 126))), .int (iZ (↑gr))]) (cwV 3 hts gX2_openAsStream_X2_openCopy rfl rfl rfl (by decide +kernel) ⟨Nat.le_of_ble_eq_true rfl, Nat.le_of_ble_eq_true rfl⟩) [0, 1, 2] [] [0, 1, 2] rfl rfl ⟨by decide, by decide, by decide⟩ (fun _ => rfl) (fun _ => rfl) 0 2 rfl rfl rfl rfl hl.1 rfl (Nat.le_of_ble_eq_true rfl) dX2_openAsStream_59 ⟨Nat.le_of_ble_eq_true rfl, Nat.le_of_ble_eq_true rfl⟩ (fun X ce q9 u H1 locs1 hpx hp9 hce hcv hcl => hout _ _ _ _ _ _ _ X ce q9 op (hpx.elim (fun ⟨e1, e2⟩ => by rw [unp_cpy (by omega) (by omega) (by omega), if_pos e2] at hR; rw [← hR]; exact ⟨show (1 : Int) ≠ 0 by decide, e1⟩) (fun hpx => hpx.elim (fun ⟨e1, e2, e3⟩ => by rw [unp_cpy (by omega) (by omega) (by omega), if_neg (by omega), if_pos e3] at hR; rw [← hR]; exact ⟨show (3 : Int) ≠ 0 by decide, e1⟩) (fun ⟨e1, e2, e3, e4, e5⟩ => by rw [unp_cpy (by omega) (by omega) (by omega), if_neg (by omega), if_neg (by omega), if_pos e5] at hR; rw [← hR]; exact ⟨show (4 : Int) ≠ 0 by decide, e1⟩))) hp9 hce hcv hcl (Nat.le_of_ble_eq_true rfl) (Nat.le_of_ble_eq_true rfl)) (fun rv u H locs hq13 hp => ?_)
              have hq1 := hq13.2.1
              have hq2 := hq13.2.2.1
              have hq3 := hq13.2.2.2.1
              have hq4 := hq13.2.2.2.2
              exfalso; exact hc ⟨hq13.2.1, hq13.2.2.1, hq13.2.2.2.1, hq13.2.2.2.2⟩
          · skip
            refine lv_aload_n hx hb dX2_openAsStream_35 rfl (lv_at hl 1 rfl) ?_
            refine lv_iload_n hx hb dX2_openAsStream_36 rfl (lv_at hl 2 rfl) ?_
            refine lv_iload_n hx hb dX2_openAsStream_37 rfl (lv_at hl 0 rfl) ?_
            refine lv_iload_n hx hb dX2_openAsStream_38 rfl (lv_at hl 3 rfl) ?_
            by_cases hc : (pb rd).toNat ≤ n - rd - 1 ∧ (pb rd).toNat ≤ 160 - gr
            · skip
              refine zc_i (wr := []) (W0 := [oP q2 b2 o2 (↑n) (↑org) ent ed, aI cI b2 160 pb, aI cI o2 160 op]) (wl2 := fun (u : Unit) => [oP q2 b2 o2 (↑n) (↑org) ent ed, aI cI b2 160 pb, aI cI o2 160 (cpZ pb op (rd + 1) gr ((pb rd).toNat))]) (As := [.int (iZ (↑rd)), .int (iZ (↑((pb rd).toNat))), .int (iZ (↑gr))]) (rest := []) hx hb hml hown hts hp (c_X2_openRun_ok l G cI H.size q2 b2 o2 pb op n org ent ed rd ((pb rd).toNat) gr (by omega) (by omega) (by omega) (by omega) (by omega)) zPre_blind (z_pre hp [0, 1, 2] rfl (by decide) [.ref q2, .int (iZ (↑rd)), .int (iZ (↑((pb rd).toNat))), .int (iZ (↑gr))]) (cwV 3 hts gX2_openAsStream_X2_openRun rfl rfl rfl (by decide +kernel) ⟨Nat.le_of_ble_eq_true rfl, Nat.le_of_ble_eq_true rfl⟩) [0, 1, 2] [] [0, 1, 2] rfl rfl ⟨by decide, by decide, by decide⟩ (fun _ => rfl) 0 2 rfl rfl rfl rfl hl.1 rfl (Nat.le_of_ble_eq_true rfl) dX2_openAsStream_39 ⟨Nat.le_of_ble_eq_true rfl, Nat.le_of_ble_eq_true rfl⟩ (fun rv u H locs hq14 hp => ?_)
              have hq1 := hc.1
              have hq2 := hc.2
              obtain rfl : rv = iZ (↑(gr + ((pb rd).toNat))) := hq14
              refine lv_istore_n (lv' := [(2, .int (iZ (↑(gr + ((pb rd).toNat))))), (3, .int (iZ (↑((pb rd).toNat)))), (0, .ref q2), (1, .int (iZ (↑rd)))]) hx hb dX2_openAsStream_42 rfl hl (by decide) rfl (fun ls hl => ?_)
              refine lv_iload_n hx hb dX2_openAsStream_43 rfl (lv_at hl 3 rfl) ?_
              refine z_iconst hx hb dX2_openAsStream_44 ?_
              refine lv_iload_n hx hb dX2_openAsStream_45 rfl (lv_at hl 1 rfl) ?_
              refine z_iadd hx hb (1 + (↑((pb rd).toNat))) (rfl) dX2_openAsStream_46 ?_
              refine z_iadd hx hb (↑(rd + 1 + (pb rd).toNat)) (by omega) dX2_openAsStream_47 ?_
              refine lv_istore_n (lv' := [(1, .int (iZ (↑(rd + 1 + (pb rd).toNat)))), (2, .int (iZ (↑(gr + ((pb rd).toNat))))), (3, .int (iZ (↑((pb rd).toNat)))), (0, .ref q2)]) hx hb dX2_openAsStream_48 rfl hl (by decide) rfl (fun ls hl => ?_)
              refine lv_goto (tgt := 66) hx hb dX2_openAsStream_49 (by decide) ?_
              refine lv_goto (tgt := 4) hx hb dX2_openAsStream_66 (by decide) ?_
              exact ih_lp8 f (rd + 1 + (pb rd).toNat) (gr + (pb rd).toNat) (cpZ pb op (rd + 1) gr (pb rd).toNat) _ _ _ (by omega) (by omega) (by omega) (by rw [unp_run (by omega) (by omega) (by omega), if_neg (by omega), if_neg (by omega)] at hR; exact hR) (by omega) hp (lv_sub hl [3, 0, 1] rfl)
            · skip
              refine zx_i (wr := []) (W0 := [oP q2 b2 o2 (↑n) (↑org) ent ed, aI cI b2 160 pb, aI cI o2 160 op]) (wl2 := fun (u : Unit) => [oP q2 b2 o2 (↑n) (↑org) ent ed, aI cI b2 160 pb, aI cI o2 160 (cpZ pb op (rd + 1) gr ((pb rd).toNat))]) (As := [.int (iZ (↑rd)), .int (iZ (↑((pb rd).toNat))), .int (iZ (↑gr))]) (rest := []) (wlX := fun (u : Unit) => [oP q2 b2 o2 (↑n) (↑org) ent ed, aI cI b2 160 pb, aI cI o2 160 op]) hx hb hml hown hts hp (c_X2_openRun l G cI t hst H.size q2 b2 o2 pb op n org ent ed rd ((pb rd).toNat) gr (by omega) (by omega) (by omega) (by omega)) zPreC_blind (z_preC hC hp [0, 1, 2] rfl (by decide) [.ref q2, .int (iZ (↑rd)), .int (iZ (↑((pb rd).toNat))), .int (iZ (↑gr))]) (cwV 3 hts gX2_openAsStream_X2_openRun rfl rfl rfl (by decide +kernel) ⟨Nat.le_of_ble_eq_true rfl, Nat.le_of_ble_eq_true rfl⟩) [0, 1, 2] [] [0, 1, 2] rfl rfl ⟨by decide, by decide, by decide⟩ (fun _ => rfl) (fun _ => rfl) 0 2 rfl rfl rfl rfl hl.1 rfl (Nat.le_of_ble_eq_true rfl) dX2_openAsStream_39 ⟨Nat.le_of_ble_eq_true rfl, Nat.le_of_ble_eq_true rfl⟩ (fun X ce q9 u H1 locs1 hpx hp9 hce hcv hcl => hout _ _ _ _ _ _ _ X ce q9 op (hpx.elim (fun ⟨e1, e2⟩ => by rw [unp_run (by omega) (by omega) (by omega), if_pos e2] at hR; rw [← hR]; exact ⟨show (1 : Int) ≠ 0 by decide, e1⟩) (fun ⟨e1, e2, e3⟩ => by rw [unp_run (by omega) (by omega) (by omega), if_neg (by omega), if_pos e3] at hR; rw [← hR]; exact ⟨show (4 : Int) ≠ 0 by decide, e1⟩)) hp9 hce hcv hcl (Nat.le_of_ble_eq_true rfl) (Nat.le_of_ble_eq_true rfl)) (fun rv u H locs hq15 hp => ?_)
              have hq1 := hq15.2.1
              have hq2 := hq15.2.2
              exfalso; exact hc ⟨hq15.2.1, hq15.2.2⟩
  exact lp8 _ (n + 1) 0 0 ob _ _ _ (by omega) (by omega) (by omega) (hR0.symm) (Nat.lt_succ_self _) hp (lv_sub hl [2, 1, 0] rfl)
end
section
abbrev rmX1_init : Room := { frames := 2, cells := 8, slots := 1130, locals := 40 }
set_option maxRecDepth 100000 in
set_option maxHeartbeats 4000000 in
theorem c_X1_init (l : Launch) (G : va_G) (cI : ClassId) (sz : Nat) (kq : Nat)  : Met l yX1_init wsX1_init rmX1_init (zPre G cI [(kq, .inr (1, [.null, .null, .int (iZ (0)), .int (iZ (0)), .int (iZ (0)), .null, .null, .null, .null]))] sz [.ref kq]) (va_Qv (fun (u : Nat × Nat × Nat × Nat × Nat × Nat × Nat × Nat) => True) (fun (u : Nat × Nat × Nat × Nat × Nat × Nat × Nat × Nat) t => zB G cI (va_A [(kq, .inr (1, [.null, .null, .int (iZ (0)), .int (iZ (0)), .int (iZ (0)), .null, .null, .null, .null]))] sz) [oK kq u.1 u.2.2.2.1 0 0 (-1) u.2.2.2.2.1 u.2.2.2.2.2.1 u.2.2.2.2.2.2.1 u.2.2.2.2.2.2.2, oP u.1 u.2.1 u.2.2.1 0 0 0 0, aI cI u.2.1 160 (fun _ => 0), aI cI u.2.2.1 160 (fun _ => 0), aI cI u.2.2.2.1 163 (fun _ => 0), aI cI u.2.2.2.2.1 161 (fun _ => 0), aI cI u.2.2.2.2.2.1 160 (fun _ => 0), aI cI u.2.2.2.2.2.2.1 160 (fun _ => 0), aI cI u.2.2.2.2.2.2.2 160 (fun _ => 0)] t) (va_A [(kq, .inr (1, [.null, .null, .int (iZ (0)), .int (iZ (0)), .int (iZ (0)), .null, .null, .null, .null]))] sz)) 8 1130 (va_A [(kq, .inr (1, [.null, .null, .int (iZ (0)), .int (iZ (0)), .int (iZ (0)), .null, .null, .null, .null]))] sz) := by
  refine zm_v (W1 := fun (u : Nat × Nat × Nat × Nat × Nat × Nat × Nat × Nat) => [oK kq u.1 u.2.2.2.1 0 0 (-1) u.2.2.2.2.1 u.2.2.2.2.2.1 u.2.2.2.2.2.2.1 u.2.2.2.2.2.2.2, oP u.1 u.2.1 u.2.2.1 0 0 0 0, aI cI u.2.1 160 (fun _ => 0), aI cI u.2.2.1 160 (fun _ => 0), aI cI u.2.2.2.1 163 (fun _ => 0), aI cI u.2.2.2.2.1 161 (fun _ => 0), aI cI u.2.2.2.2.2.1 160 (fun _ => 0), aI cI u.2.2.2.2.2.2.1 160 (fun _ => 0), aI cI u.2.2.2.2.2.2.2 160 (fun _ => 0)]) (cc := cX1_init) (maxL := 1) (by decide) rfl (Nat.le_of_ble_eq_true rfl) ?_
  intro p e s m args below meth c A Q ls hsz hx hb hml hown hts hnm hret hp hl
  have hl : lv_has ls 1 [(0, .ref kq)] := hl
  have m3 := hts (.methodLink RX1 3 objectInit) (List.mem_of_getElem? (i := 1) rfl)
  have io := hts (.instanceMethod objectInit) (List.mem_of_getElem? (i := 2) rfl)
  have co := hts (.code objectInit ⟨#[0xb1]⟩ 1 none) (List.mem_of_getElem? (i := 3) rfl)
  have l9 := hts (.classLink RX1 9 RX2) (List.mem_of_getElem? (i := 4) rfl)
  have nX2 := hts (.instantiable RX2 6) (List.mem_of_getElem? (i := 5) rfl)
  have iniX2 := hts (.initialized RX2) (List.mem_of_getElem? (i := 6) rfl)
  have hi2 : ∀ w ∈ wsX20, w ∈ wsX1_init := fun w h => List.mem_cons_of_mem _ (List.mem_append_left _ (List.mem_append_right _ (h)))
  have m11 := hts (.methodLink RX1 11 yX2_init) (List.mem_of_getElem? (i := 15) rfl)
  have iX2_init := hts (.instanceMethod yX2_init) (List.mem_of_getElem? (i := 16) rfl)
  have hi1 : ∀ w ∈ wsX10, w ∈ wsX1_init := fun w h => List.mem_cons_of_mem _ (List.mem_append_right _ (h))
  have f12 := hts (.fieldLink RX1 12 "SelfOpener$Packing" "program" "LSelfOpener$Program;") (List.mem_of_getElem? (i := 7) rfl)
  have ac := hts (.arrayClass .int) (List.mem_of_getElem? (i := 8) rfl)
  have f18 := hts (.fieldLink RX1 18 "SelfOpener$Packing" "stream" "[I") (List.mem_of_getElem? (i := 9) rfl)
  have f22 := hts (.fieldLink RX1 22 "SelfOpener$Packing" "cost" "[I") (List.mem_of_getElem? (i := 10) rfl)
  have f25 := hts (.fieldLink RX1 25 "SelfOpener$Packing" "makes" "[I") (List.mem_of_getElem? (i := 11) rfl)
  have f28 := hts (.fieldLink RX1 28 "SelfOpener$Packing" "distance" "[I") (List.mem_of_getElem? (i := 12) rfl)
  have f31 := hts (.fieldLink RX1 31 "SelfOpener$Packing" "alike" "[I") (List.mem_of_getElem? (i := 13) rfl)
  have f34 := hts (.fieldLink RX1 34 "SelfOpener$Packing" "edition" "I") (List.mem_of_getElem? (i := 14) rfl)
  suffices hw : ∀ (H : Heap) (locs : List Loc), Hp G cI A s H locs [(kq, .inr (1, [.null, .null, .int (iZ (0)), .int (iZ (0)), .int (iZ (0)), .null, .null, .null, .null]))] → W p l e rmX1_init s m args below meth c H locs 0 0 Q (F0 m 0 ls []) from hw _ _ hp
  clear hp; intro H locs hp
  refine lv_aload_n hx hb dX1_init_0 rfl (lv_at hl 0 rfl) ?_
  refine W.objInit hx hb hown m3 io co rfl (by rw [hml]; exact hl.1) rfl dX1_init_1 (Nat.le_of_ble_eq_true rfl) (Nat.le_of_ble_eq_true rfl) ?_
  refine W.eq (g2 := F0 m 4 ls []) rfl ?_
  refine lv_aload_n hx hb dX1_init_4 rfl (lv_at hl 0 rfl) ?_
  refine z_new (ci := 2) (fs := [.null, .null, .int (iZ (0)), .int (iZ (0)), .int (iZ (0)), .int (iZ (0))]) hx hb hts hi2 tyX2 tyX2_ok hown l9 nX2 iniX2 hp rfl (by decide +kernel) (Nat.le_of_ble_eq_true rfl) (Nat.le_of_ble_eq_true rfl) dX1_init_5 (fun q2 H hp => ?_)
  have hp : Hp G cI A s H locs [(kq, .inr (1, [.null, .null, .int (iZ (0)), .int (iZ (0)), .int (iZ (0)), .null, .null, .null, .null])), (q2, .inr (2, [.null, .null, .int (iZ (0)), .int (iZ (0)), .int (iZ (0)), .int (iZ (0))]))] := hp
  refine lv_dup hx hb dX1_init_8 rfl ?_
  refine zn_v (wr := [(kq, .inr (1, [.null, .null, .int (iZ (0)), .int (iZ (0)), .int (iZ (0)), .null, .null, .null, .null]))]) (W0 := [(q2, .inr (2, [.null, .null, .int (iZ (0)), .int (iZ (0)), .int (iZ (0)), .int (iZ (0))]))]) (wl2 := fun (u : Nat × Nat) => [(kq, .inr (1, [.null, .null, .int (iZ (0)), .int (iZ (0)), .int (iZ (0)), .null, .null, .null, .null])), oP q2 u.1 u.2 0 0 0 0, aI cI u.1 160 (fun _ => 0), aI cI u.2 160 (fun _ => 0)]) (As := []) (rest := [.ref q2, .ref kq]) hx hb hml hown hts hp (c_X2_init l G cI H.size q2) zPre_blind (z_pre hp [1] rfl (by decide) [.ref q2]) (cwI 0 hts gX1_init_X2_init rfl rfl rfl iniX2 m11 iX2_init rfl (by decide +kernel) ⟨Nat.le_of_ble_eq_true rfl, Nat.le_of_ble_eq_true rfl⟩) [1] [0] [0, 1, 2, 3] rfl rfl ⟨by decide, by decide, by decide⟩ (fun _ => rfl) rfl hl.1 rfl (Nat.le_of_ble_eq_true rfl) dX1_init_9 ⟨Nat.le_of_ble_eq_true rfl, Nat.le_of_ble_eq_true rfl⟩ (fun u9 H locs hq1 hp => ?_)
  obtain ⟨b2, o2⟩ := u9
  refine z_putF hx hb hts hi1 tyX1 tyX1_ok nmX1 hown hp 0 rfl rfl 0 (by decide) f12 rfl hnm rfl (rfl) (rfl) (Nat.le_of_ble_eq_true rfl) dX1_init_12 (ws' := [(kq, .inr (1, [.ref q2, .null, .int (iZ (0)), .int (iZ (0)), .int (iZ (0)), .null, .null, .null, .null])), oP q2 b2 o2 0 0 0 0, aI cI b2 160 (fun _ => 0), aI cI o2 160 (fun _ => 0)]) rfl (fun H locs hp => ?_)
  refine lv_aload_n hx hb dX1_init_15 rfl (lv_at hl 0 rfl) ?_
  refine z_sipush hx hb dX1_init_16 (by decide +kernel) ?_
  refine z_newa hx hb 163 ac hp (by decide) (by decide) rfl (Nat.le_of_ble_eq_true rfl) (Nat.le_of_ble_eq_true rfl) dX1_init_19 (fun ks H hp => ?_)
  have hp : Hp G cI A s H locs [(kq, .inr (1, [.ref q2, .null, .int (iZ (0)), .int (iZ (0)), .int (iZ (0)), .null, .null, .null, .null])), oP q2 b2 o2 0 0 0 0, aI cI b2 160 (fun _ => 0), aI cI o2 160 (fun _ => 0), aI cI ks 163 (fun _ => 0)] := hp
  refine z_putF hx hb hts hi1 tyX1 tyX1_ok nmX1 hown hp 0 rfl rfl 1 (by decide) f18 rfl hnm rfl (rfl) (rfl) (Nat.le_of_ble_eq_true rfl) dX1_init_21 (ws' := [(kq, .inr (1, [.ref q2, .ref ks, .int (iZ (0)), .int (iZ (0)), .int (iZ (0)), .null, .null, .null, .null])), oP q2 b2 o2 0 0 0 0, aI cI b2 160 (fun _ => 0), aI cI o2 160 (fun _ => 0), aI cI ks 163 (fun _ => 0)]) rfl (fun H locs hp => ?_)
  refine lv_aload_n hx hb dX1_init_24 rfl (lv_at hl 0 rfl) ?_
  refine z_sipush hx hb dX1_init_25 (by decide +kernel) ?_
  refine z_newa hx hb 161 ac hp (by decide) (by decide) rfl (Nat.le_of_ble_eq_true rfl) (Nat.le_of_ble_eq_true rfl) dX1_init_28 (fun kc H hp => ?_)
  have hp : Hp G cI A s H locs [(kq, .inr (1, [.ref q2, .ref ks, .int (iZ (0)), .int (iZ (0)), .int (iZ (0)), .null, .null, .null, .null])), oP q2 b2 o2 0 0 0 0, aI cI b2 160 (fun _ => 0), aI cI o2 160 (fun _ => 0), aI cI ks 163 (fun _ => 0), aI cI kc 161 (fun _ => 0)] := hp
  refine z_putF hx hb hts hi1 tyX1 tyX1_ok nmX1 hown hp 0 rfl rfl 5 (by decide) f22 rfl hnm rfl (rfl) (rfl) (Nat.le_of_ble_eq_true rfl) dX1_init_30 (ws' := [(kq, .inr (1, [.ref q2, .ref ks, .int (iZ (0)), .int (iZ (0)), .int (iZ (0)), .ref kc, .null, .null, .null])), oP q2 b2 o2 0 0 0 0, aI cI b2 160 (fun _ => 0), aI cI o2 160 (fun _ => 0), aI cI ks 163 (fun _ => 0), aI cI kc 161 (fun _ => 0)]) rfl (fun H locs hp => ?_)
  refine lv_aload_n hx hb dX1_init_33 rfl (lv_at hl 0 rfl) ?_
  refine z_sipush hx hb dX1_init_34 (by decide +kernel) ?_
  refine z_newa hx hb 160 ac hp (by decide) (by decide) rfl (Nat.le_of_ble_eq_true rfl) (Nat.le_of_ble_eq_true rfl) dX1_init_37 (fun km H hp => ?_)
  have hp : Hp G cI A s H locs [(kq, .inr (1, [.ref q2, .ref ks, .int (iZ (0)), .int (iZ (0)), .int (iZ (0)), .ref kc, .null, .null, .null])), oP q2 b2 o2 0 0 0 0, aI cI b2 160 (fun _ => 0), aI cI o2 160 (fun _ => 0), aI cI ks 163 (fun _ => 0), aI cI kc 161 (fun _ => 0), aI cI km 160 (fun _ => 0)] := hp
  refine z_putF hx hb hts hi1 tyX1 tyX1_ok nmX1 hown hp 0 rfl rfl 6 (by decide) f25 rfl hnm rfl (rfl) (rfl) (Nat.le_of_ble_eq_true rfl) dX1_init_39 (ws' := [(kq, .inr (1, [.ref q2, .ref ks, .int (iZ (0)), .int (iZ (0)), .int (iZ (0)), .ref kc, .ref km, .null, .null])), oP q2 b2 o2 0 0 0 0, aI cI b2 160 (fun _ => 0), aI cI o2 160 (fun _ => 0), aI cI ks 163 (fun _ => 0), aI cI kc 161 (fun _ => 0), aI cI km 160 (fun _ => 0)]) rfl (fun H locs hp => ?_)
  refine lv_aload_n hx hb dX1_init_42 rfl (lv_at hl 0 rfl) ?_
  refine z_sipush hx hb dX1_init_43 (by decide +kernel) ?_
  refine z_newa hx hb 160 ac hp (by decide) (by decide) rfl (Nat.le_of_ble_eq_true rfl) (Nat.le_of_ble_eq_true rfl) dX1_init_46 (fun kd H hp => ?_)
  have hp : Hp G cI A s H locs [(kq, .inr (1, [.ref q2, .ref ks, .int (iZ (0)), .int (iZ (0)), .int (iZ (0)), .ref kc, .ref km, .null, .null])), oP q2 b2 o2 0 0 0 0, aI cI b2 160 (fun _ => 0), aI cI o2 160 (fun _ => 0), aI cI ks 163 (fun _ => 0), aI cI kc 161 (fun _ => 0), aI cI km 160 (fun _ => 0), aI cI kd 160 (fun _ => 0)] := hp
  refine z_putF hx hb hts hi1 tyX1 tyX1_ok nmX1 hown hp 0 rfl rfl 7 (by decide) f28 rfl hnm rfl (rfl) (rfl) (Nat.le_of_ble_eq_true rfl) dX1_init_48 (ws' := [(kq, .inr (1, [.ref q2, .ref ks, .int (iZ (0)), .int (iZ (0)), .int (iZ (0)), .ref kc, .ref km, .ref kd, .null])), oP q2 b2 o2 0 0 0 0, aI cI b2 160 (fun _ => 0), aI cI o2 160 (fun _ => 0), aI cI ks 163 (fun _ => 0), aI cI kc 161 (fun _ => 0), aI cI km 160 (fun _ => 0), aI cI kd 160 (fun _ => 0)]) rfl (fun H locs hp => ?_)
  refine lv_aload_n hx hb dX1_init_51 rfl (lv_at hl 0 rfl) ?_
  refine z_sipush hx hb dX1_init_52 (by decide +kernel) ?_
  refine z_newa hx hb 160 ac hp (by decide) (by decide) rfl (Nat.le_of_ble_eq_true rfl) (Nat.le_of_ble_eq_true rfl) dX1_init_55 (fun kl H hp => ?_)
  have hp : Hp G cI A s H locs [(kq, .inr (1, [.ref q2, .ref ks, .int (iZ (0)), .int (iZ (0)), .int (iZ (0)), .ref kc, .ref km, .ref kd, .null])), oP q2 b2 o2 0 0 0 0, aI cI b2 160 (fun _ => 0), aI cI o2 160 (fun _ => 0), aI cI ks 163 (fun _ => 0), aI cI kc 161 (fun _ => 0), aI cI km 160 (fun _ => 0), aI cI kd 160 (fun _ => 0), aI cI kl 160 (fun _ => 0)] := hp
  refine z_putF hx hb hts hi1 tyX1 tyX1_ok nmX1 hown hp 0 rfl rfl 8 (by decide) f31 rfl hnm rfl (rfl) (rfl) (Nat.le_of_ble_eq_true rfl) dX1_init_57 (ws' := [oK kq q2 ks 0 0 0 kc km kd kl, oP q2 b2 o2 0 0 0 0, aI cI b2 160 (fun _ => 0), aI cI o2 160 (fun _ => 0), aI cI ks 163 (fun _ => 0), aI cI kc 161 (fun _ => 0), aI cI km 160 (fun _ => 0), aI cI kd 160 (fun _ => 0), aI cI kl 160 (fun _ => 0)]) rfl (fun H locs hp => ?_)
  refine lv_aload_n hx hb dX1_init_60 rfl (lv_at hl 0 rfl) ?_
  refine z_iconst hx hb dX1_init_61 ?_
  refine z_put hx hb hts hi1 tyX1 tyX1_ok nmX1 hown hp 0 rfl rfl 4 (by decide) f34 rfl (rfl) (rfl) (Nat.le_of_ble_eq_true rfl) dX1_init_62 (ws' := [oK kq q2 ks 0 0 (-1) kc km kd kl, oP q2 b2 o2 0 0 0 0, aI cI b2 160 (fun _ => 0), aI cI o2 160 (fun _ => 0), aI cI ks 163 (fun _ => 0), aI cI kc 161 (fun _ => 0), aI cI km 160 (fun _ => 0), aI cI kd 160 (fun _ => 0), aI cI kl 160 (fun _ => 0)]) rfl (fun H locs hp => ?_)
  exact hret _ _ _ _ _ _ (q2, b2, o2, ks, kc, km, kd, kl) (trivial) hp dX1_init_65 (Nat.le_of_ble_eq_true rfl) (Nat.le_of_ble_eq_true rfl)
abbrev rmX1_stubAddress : Room := { frames := 0, cells := 0, slots := 0, locals := 0 }
set_option maxRecDepth 100000 in
set_option maxHeartbeats 4000000 in
theorem c_X1_stubAddress (l : Launch) (G : va_G) (cI : ClassId) (sz : Nat) (kq ks kc km kd kl : Nat) (q2 b2 o2 : Nat) (n org : Nat) (ln gp ek ent ed : Int) (h_n : n ≤ 160) (h_o : org < 256) (h_g : 0 ≤ gp ∧ gp ≤ 200) : Met l yX1_stubAddress wsX1_stubAddress rmX1_stubAddress (zPre G cI [oK kq q2 ks ln gp ek kc km kd kl, oP q2 b2 o2 (↑n) (↑org) ent ed] sz [.ref kq]) (va_Qi (fun (r : Int32) (u : Unit) => r = iZ (↑org + ↑n + gp)) (fun (u : Unit) t => zB G cI (va_A [oK kq q2 ks ln gp ek kc km kd kl, oP q2 b2 o2 (↑n) (↑org) ent ed] sz) [oK kq q2 ks ln gp ek kc km kd kl, oP q2 b2 o2 (↑n) (↑org) ent ed] t) (va_A [oK kq q2 ks ln gp ek kc km kd kl, oP q2 b2 o2 (↑n) (↑org) ent ed] sz)) 0 0 (va_A [oK kq q2 ks ln gp ek kc km kd kl, oP q2 b2 o2 (↑n) (↑org) ent ed] sz) := by
  refine zm_i (W1 := fun (u : Unit) => [oK kq q2 ks ln gp ek kc km kd kl, oP q2 b2 o2 (↑n) (↑org) ent ed]) (cc := cX1_stubAddress) (maxL := 1) (ty := .int) (by decide) rfl (Nat.le_of_ble_eq_true rfl) ?_
  intro p e s m args below meth c A Q ls hsz hx hb hml hown hts hret hp hl
  have hl : lv_has ls 1 [(0, .ref kq)] := hl
  have hi1 : ∀ w ∈ wsX10, w ∈ wsX1_stubAddress := fun w h => List.mem_cons_of_mem _ (List.mem_append_left _ (List.mem_append_right _ (h)))
  have f12 := hts (.fieldLink RX1 12 "SelfOpener$Packing" "program" "LSelfOpener$Program;") (List.mem_of_getElem? (i := 1) rfl)
  have hi2 : ∀ w ∈ wsX20, w ∈ wsX1_stubAddress := fun w h => List.mem_cons_of_mem _ (List.mem_append_right _ (h))
  have f38 := hts (.fieldLink RX1 38 "SelfOpener$Program" "origin" "I") (List.mem_of_getElem? (i := 2) rfl)
  have f41 := hts (.fieldLink RX1 41 "SelfOpener$Program" "size" "I") (List.mem_of_getElem? (i := 3) rfl)
  have f44 := hts (.fieldLink RX1 44 "SelfOpener$Packing" "gap" "I") (List.mem_of_getElem? (i := 4) rfl)
  suffices hw : ∀ (H : Heap) (locs : List Loc), Hp G cI A s H locs [oK kq q2 ks ln gp ek kc km kd kl, oP q2 b2 o2 (↑n) (↑org) ent ed] → W p l e rmX1_stubAddress s m args below meth c H locs 0 0 Q (F0 m 0 ls []) from hw _ _ hp
  clear hp; intro H locs hp
  refine lv_aload_n hx hb dX1_stubAddress_0 rfl (lv_at hl 0 rfl) ?_
  refine z_get hx hb hts hi1 hown hp 0 rfl rfl 0 (by decide) f12 rfl dX1_stubAddress_1 ?_
  refine z_get hx hb hts hi2 hown hp 1 rfl rfl 3 (by decide) f38 rfl dX1_stubAddress_4 ?_
  refine lv_aload_n hx hb dX1_stubAddress_7 rfl (lv_at hl 0 rfl) ?_
  refine z_get hx hb hts hi1 hown hp 0 rfl rfl 0 (by decide) f12 rfl dX1_stubAddress_8 ?_
  refine z_get hx hb hts hi2 hown hp 1 rfl rfl 2 (by decide) f41 rfl dX1_stubAddress_11 ?_
  refine z_iadd hx hb ((↑org) + (↑n)) (rfl) dX1_stubAddress_14 ?_
  refine lv_aload_n hx hb dX1_stubAddress_15 rfl (lv_at hl 0 rfl) ?_
  refine z_get hx hb hts hi1 hown hp 0 rfl rfl 3 (by decide) f44 rfl dX1_stubAddress_16 ?_
  refine z_iadd hx hb (((↑org) + (↑n)) + gp) (rfl) dX1_stubAddress_19 ?_
  exact hret _ _ _ _ _ _ _ () (rfl) hp dX1_stubAddress_20 (rfl) (Nat.le_of_ble_eq_true rfl) (Nat.le_of_ble_eq_true rfl)
abbrev rmX1_layoutEnd : Room := { frames := 1, cells := 0, slots := 0, locals := 20 }
set_option maxRecDepth 100000 in
set_option maxHeartbeats 4000000 in
theorem c_X1_layoutEnd (l : Launch) (G : va_G) (cI : ClassId) (sz : Nat) (kq ks kc km kd kl : Nat) (q2 b2 o2 : Nat) (n org : Nat) (ln gp ek ent ed : Int) (h_n : n ≤ 160) (h_o : org < 256) (h_g : 0 ≤ gp ∧ gp ≤ 200) : Met l yX1_layoutEnd wsX1_layoutEnd rmX1_layoutEnd (zPre G cI [oK kq q2 ks ln gp ek kc km kd kl, oP q2 b2 o2 (↑n) (↑org) ent ed] sz [.ref kq]) (va_Qi (fun (r : Int32) (u : Unit) => r = iZ (↑org + ↑n + gp + 60)) (fun (u : Unit) t => zB G cI (va_A [oK kq q2 ks ln gp ek kc km kd kl, oP q2 b2 o2 (↑n) (↑org) ent ed] sz) [oK kq q2 ks ln gp ek kc km kd kl, oP q2 b2 o2 (↑n) (↑org) ent ed] t) (va_A [oK kq q2 ks ln gp ek kc km kd kl, oP q2 b2 o2 (↑n) (↑org) ent ed] sz)) 0 0 (va_A [oK kq q2 ks ln gp ek kc km kd kl, oP q2 b2 o2 (↑n) (↑org) ent ed] sz) := by
  refine zm_i (W1 := fun (u : Unit) => [oK kq q2 ks ln gp ek kc km kd kl, oP q2 b2 o2 (↑n) (↑org) ent ed]) (cc := cX1_layoutEnd) (maxL := 1) (ty := .int) (by decide) rfl (Nat.le_of_ble_eq_true rfl) ?_
  intro p e s m args below meth c A Q ls hsz hx hb hml hown hts hret hp hl
  have hl : lv_has ls 1 [(0, .ref kq)] := hl
  suffices hw : ∀ (H : Heap) (locs : List Loc), Hp G cI A s H locs [oK kq q2 ks ln gp ek kc km kd kl, oP q2 b2 o2 (↑n) (↑org) ent ed] → W p l e rmX1_layoutEnd s m args below meth c H locs 0 0 Q (F0 m 0 ls []) from hw _ _ hp
  clear hp; intro H locs hp
  refine lv_aload_n hx hb dX1_layoutEnd_0 rfl (lv_at hl 0 rfl) ?_
  refine zc_i (wr := []) (W0 := [oK kq q2 ks ln gp ek kc km kd kl, oP q2 b2 o2 (↑n) (↑org) ent ed]) (wl2 := fun (u : Unit) => [oK kq q2 ks ln gp ek kc km kd kl, oP q2 b2 o2 (↑n) (↑org) ent ed]) (As := []) (rest := []) hx hb hml hown hts hp (c_X1_stubAddress l G cI H.size kq ks kc km kd kl q2 b2 o2 n org ln gp ek ent ed (by omega) (by omega) (by omega)) zPre_blind (z_pre hp [0, 1] rfl (by decide) [.ref kq]) (cwV 0 hts gX1_layoutEnd_X1_stubAddress rfl rfl rfl (by decide +kernel) ⟨Nat.le_of_ble_eq_true rfl, Nat.le_of_ble_eq_true rfl⟩) [0, 1] [] [0, 1] rfl rfl ⟨by decide, by decide, by decide⟩ (fun _ => rfl) 0 1 rfl rfl rfl rfl hl.1 rfl (Nat.le_of_ble_eq_true rfl) dX1_layoutEnd_1 ⟨Nat.le_of_ble_eq_true rfl, Nat.le_of_ble_eq_true rfl⟩ (fun rv u H locs hq1 hp => ?_)
  obtain rfl : rv = iZ (↑org + ↑n + gp) := hq1
  refine z_bipush hx hb dX1_layoutEnd_4 (by decide +kernel) ?_
  refine z_iadd hx hb ((↑org + ↑n + gp) + 60) (rfl) dX1_layoutEnd_6 ?_
  exact hret _ _ _ _ _ _ _ () (rfl) hp dX1_layoutEnd_7 (rfl) (Nat.le_of_ble_eq_true rfl) (Nat.le_of_ble_eq_true rfl)
abbrev rmX1_fits : Room := { frames := 2, cells := 0, slots := 0, locals := 40 }
set_option maxRecDepth 100000 in
set_option maxHeartbeats 4000000 in
theorem c_X1_fits (l : Launch) (G : va_G) (cI : ClassId) (sz : Nat) (kq ks kc km kd kl : Nat) (q2 b2 o2 : Nat) (n org : Nat) (ln gp ek ent ed : Int) (h_n : n ≤ 160) (h_o : org < 256) (h_g : 0 ≤ gp ∧ gp ≤ 200) : Met l yX1_fits wsX1_fits rmX1_fits (zPre G cI [oK kq q2 ks ln gp ek kc km kd kl, oP q2 b2 o2 (↑n) (↑org) ent ed] sz [.ref kq]) (va_Qi (fun (r : Int32) (u : Unit) => r = iZ (if ↑org + ↑n + gp + 60 ≤ 256 then 1 else 0)) (fun (u : Unit) t => zB G cI (va_A [oK kq q2 ks ln gp ek kc km kd kl, oP q2 b2 o2 (↑n) (↑org) ent ed] sz) [oK kq q2 ks ln gp ek kc km kd kl, oP q2 b2 o2 (↑n) (↑org) ent ed] t) (va_A [oK kq q2 ks ln gp ek kc km kd kl, oP q2 b2 o2 (↑n) (↑org) ent ed] sz)) 0 0 (va_A [oK kq q2 ks ln gp ek kc km kd kl, oP q2 b2 o2 (↑n) (↑org) ent ed] sz) := by
  refine zm_i (W1 := fun (u : Unit) => [oK kq q2 ks ln gp ek kc km kd kl, oP q2 b2 o2 (↑n) (↑org) ent ed]) (cc := cX1_fits) (maxL := 1) (ty := .boolean) (by decide) rfl (Nat.le_of_ble_eq_true rfl) ?_
  intro p e s m args below meth c A Q ls hsz hx hb hml hown hts hret hp hl
  have hl : lv_has ls 1 [(0, .ref kq)] := hl
  suffices hw : ∀ (H : Heap) (locs : List Loc), Hp G cI A s H locs [oK kq q2 ks ln gp ek kc km kd kl, oP q2 b2 o2 (↑n) (↑org) ent ed] → W p l e rmX1_fits s m args below meth c H locs 0 0 Q (F0 m 0 ls []) from hw _ _ hp
  clear hp; intro H locs hp
  refine lv_aload_n hx hb dX1_fits_0 rfl (lv_at hl 0 rfl) ?_
  refine zc_i (wr := []) (W0 := [oK kq q2 ks ln gp ek kc km kd kl, oP q2 b2 o2 (↑n) (↑org) ent ed]) (wl2 := fun (u : Unit) => [oK kq q2 ks ln gp ek kc km kd kl, oP q2 b2 o2 (↑n) (↑org) ent ed]) (As := []) (rest := []) hx hb hml hown hts hp (c_X1_layoutEnd l G cI H.size kq ks kc km kd kl q2 b2 o2 n org ln gp ek ent ed (by omega) (by omega) (by omega)) zPre_blind (z_pre hp [0, 1] rfl (by decide) [.ref kq]) (cwV 0 hts gX1_fits_X1_layoutEnd rfl rfl rfl (by decide +kernel) ⟨Nat.le_of_ble_eq_true rfl, Nat.le_of_ble_eq_true rfl⟩) [0, 1] [] [0, 1] rfl rfl ⟨by decide, by decide, by decide⟩ (fun _ => rfl) 0 1 rfl rfl rfl rfl hl.1 rfl (Nat.le_of_ble_eq_true rfl) dX1_fits_1 ⟨Nat.le_of_ble_eq_true rfl, Nat.le_of_ble_eq_true rfl⟩ (fun rv u H locs hq1 hp => ?_)
  obtain rfl : rv = iZ (↑org + ↑n + gp + 60) := hq1
  refine z_sipush hx hb dX1_fits_4 (by decide +kernel) ?_
  refine z_icmp_gt (tgt := 14) hx hb dX1_fits_7 (by decide) (by omega) (fun h2 => ?_) (fun h2 => ?_)
  · skip
    refine z_iconst hx hb dX1_fits_14 ?_
    exact hret _ _ _ _ _ _ _ () (congrArg iZ (by (repeat' split) <;> omega)) hp dX1_fits_15 (by decide +kernel) (Nat.le_of_ble_eq_true rfl) (Nat.le_of_ble_eq_true rfl)
  · skip
    refine z_iconst hx hb dX1_fits_10 ?_
    refine lv_goto (tgt := 15) hx hb dX1_fits_11 (by decide) ?_
    exact hret _ _ _ _ _ _ _ () (congrArg iZ (by (repeat' split) <;> omega)) hp dX1_fits_15 (by decide +kernel) (Nat.le_of_ble_eq_true rfl) (Nat.le_of_ble_eq_true rfl)
abbrev rmX1_findCopy : Room := { frames := 1, cells := 0, slots := 0, locals := 40 }
set_option maxRecDepth 100000 in
set_option maxHeartbeats 4000000 in
theorem c_X1_findCopy (l : Launch) (G : va_G) (cI : ClassId) (sz : Nat) (kq ks kc km kd kl : Nat) (q2 b2 o2 : Nat) (mks dst lks pb : Nat → Int) (n org i : Nat) (ln gp ek ent ed : Int) (h_n : n ≤ 160) (h_i : i < n) (h_b : BB pb 160) (h_l : ∀ d, 1 ≤ d → d ≤ i → lks d = ↑(al pb n (i + 1) d)) : Met l yX1_findCopy wsX1_findCopy rmX1_findCopy (zPre G cI [oK kq q2 ks ln gp ek kc km kd kl, aI cI km 160 mks, aI cI kd 160 dst, aI cI kl 160 lks, oP q2 b2 o2 (↑n) (↑org) ent ed, aI cI b2 160 pb] sz [.ref kq, .int (iZ (↑i))]) (va_Qv (fun (u : (Nat → Int) × Nat × Nat) => FC pb n i u.2.1 u.2.2 ∧ ∀ d, 1 ≤ d → d ≤ i → u.1 d = ↑(al pb n i d)) (fun (u : (Nat → Int) × Nat × Nat) t => zB G cI (va_A [oK kq q2 ks ln gp ek kc km kd kl, aI cI km 160 mks, aI cI kd 160 dst, aI cI kl 160 lks, oP q2 b2 o2 (↑n) (↑org) ent ed, aI cI b2 160 pb] sz) [oK kq q2 ks ln gp ek kc km kd kl, aI cI km 160 (upZ mks i (↑u.2.1)), aI cI kd 160 (upZ dst i (↑u.2.2)), aI cI kl 160 u.1, oP q2 b2 o2 (↑n) (↑org) ent ed, aI cI b2 160 pb] t) (va_A [oK kq q2 ks ln gp ek kc km kd kl, aI cI km 160 mks, aI cI kd 160 dst, aI cI kl 160 lks, oP q2 b2 o2 (↑n) (↑org) ent ed, aI cI b2 160 pb] sz)) 0 0 (va_A [oK kq q2 ks ln gp ek kc km kd kl, aI cI km 160 mks, aI cI kd 160 dst, aI cI kl 160 lks, oP q2 b2 o2 (↑n) (↑org) ent ed, aI cI b2 160 pb] sz) := by
  refine zm_v (W1 := fun (u : (Nat → Int) × Nat × Nat) => [oK kq q2 ks ln gp ek kc km kd kl, aI cI km 160 (upZ mks i (↑u.2.1)), aI cI kd 160 (upZ dst i (↑u.2.2)), aI cI kl 160 u.1, oP q2 b2 o2 (↑n) (↑org) ent ed, aI cI b2 160 pb]) (cc := cX1_findCopy) (maxL := 5) (by decide) rfl (Nat.le_of_ble_eq_true rfl) ?_
  intro p e s m args below meth c A Q ls hsz hx hb hml hown hts hnm hret hp hl
  have hl : lv_has ls 5 [(0, .ref kq), (1, .int (iZ (↑i)))] := hl
  have hi1 : ∀ w ∈ wsX10, w ∈ wsX1_findCopy := fun w h => List.mem_cons_of_mem _ (List.mem_append_left _ (List.mem_append_right _ (h)))
  have f12 := hts (.fieldLink RX1 12 "SelfOpener$Packing" "program" "LSelfOpener$Program;") (List.mem_of_getElem? (i := 1) rfl)
  have hi2 : ∀ w ∈ wsX20, w ∈ wsX1_findCopy := fun w h => List.mem_cons_of_mem _ (List.mem_append_right _ (h))
  have f70 := hts (.fieldLink RX1 70 "SelfOpener$Program" "bytes" "[I") (List.mem_of_getElem? (i := 2) rfl)
  have f25 := hts (.fieldLink RX1 25 "SelfOpener$Packing" "makes" "[I") (List.mem_of_getElem? (i := 3) rfl)
  have f28 := hts (.fieldLink RX1 28 "SelfOpener$Packing" "distance" "[I") (List.mem_of_getElem? (i := 4) rfl)
  have f31 := hts (.fieldLink RX1 31 "SelfOpener$Packing" "alike" "[I") (List.mem_of_getElem? (i := 5) rfl)
  have m73 := hts (.methodLink RX1 73 Lib.Math.min.name) (List.mem_of_getElem? (i := 6) rfl)
  have smin := hts (.static Lib.Math.min.name) (List.mem_of_getElem? (i := 7) rfl)
  have im := hts (.initialized "java/lang/Math") (List.mem_of_getElem? (i := 8) rfl)
  have cmin := hts (.code Lib.Math.min.name Lib.Math.min.code 2 (some .int)) (List.mem_of_getElem? (i := 9) rfl)
  suffices hw : ∀ (H : Heap) (locs : List Loc), Hp G cI A s H locs [oK kq q2 ks ln gp ek kc km kd kl, aI cI km 160 mks, aI cI kd 160 dst, aI cI kl 160 lks, oP q2 b2 o2 (↑n) (↑org) ent ed, aI cI b2 160 pb] → W p l e rmX1_findCopy s m args below meth c H locs 0 0 Q (F0 m 0 ls []) from hw _ _ hp
  clear hp; intro H locs hp
  refine lv_aload_n hx hb dX1_findCopy_0 rfl (lv_at hl 0 rfl) ?_
  refine z_get hx hb hts hi1 hown hp 0 rfl rfl 0 (by decide) f12 rfl dX1_findCopy_1 ?_
  refine z_get hx hb hts hi2 hown hp 4 rfl rfl 0 (by decide) f70 rfl dX1_findCopy_4 ?_
  refine lv_astore_n (lv' := [(2, .ref b2), (0, .ref kq), (1, .int (iZ (↑i)))]) hx hb dX1_findCopy_7 rfl hl (by decide) rfl (fun ls hl => ?_)
  refine lv_aload_n hx hb dX1_findCopy_8 rfl (lv_at hl 1 rfl) ?_
  refine z_get hx hb hts hi1 hown hp 0 rfl rfl 6 (by decide) f25 rfl dX1_findCopy_9 ?_
  refine lv_iload_n hx hb dX1_findCopy_12 rfl (lv_at hl 2 rfl) ?_
  refine z_iconst hx hb dX1_findCopy_13 ?_
  refine z_iast hx hb hp 1 rfl (i) (by omega) dX1_findCopy_14 (ws' := [oK kq q2 ks ln gp ek kc km kd kl, aI cI km 160 (upZ mks i 0), aI cI kd 160 dst, aI cI kl 160 lks, oP q2 b2 o2 (↑n) (↑org) ent ed, aI cI b2 160 pb]) rfl (fun H locs hp => ?_)
  refine lv_aload_n hx hb dX1_findCopy_15 rfl (lv_at hl 1 rfl) ?_
  refine z_get hx hb hts hi1 hown hp 0 rfl rfl 7 (by decide) f28 rfl dX1_findCopy_16 ?_
  refine lv_iload_n hx hb dX1_findCopy_19 rfl (lv_at hl 2 rfl) ?_
  refine z_iconst hx hb dX1_findCopy_20 ?_
  refine z_iast hx hb hp 2 rfl (i) (by omega) dX1_findCopy_21 (ws' := [oK kq q2 ks ln gp ek kc km kd kl, aI cI km 160 (upZ mks i 0), aI cI kd 160 (upZ dst i 0), aI cI kl 160 lks, oP q2 b2 o2 (↑n) (↑org) ent ed, aI cI b2 160 pb]) rfl (fun H locs hp => ?_)
  refine z_iconst hx hb dX1_findCopy_22 ?_
  refine lv_istore_n (lv' := [(3, .int (iZ (1))), (2, .ref b2), (0, .ref kq), (1, .int (iZ (↑i)))]) hx hb dX1_findCopy_23 rfl hl (by decide) rfl (fun ls hl => ?_)
  have lp1 : ∀ (N_lp1 : Nat) (d mm xx : Nat) (lk : Nat → Int) (H : Heap) (locs : List Loc) (ls : Array Slot), (1 ≤ d) → (d ≤ i + 1) → (FCp pb n i d mm xx) → (∀ e, 1 ≤ e → e < d → lk e = ↑(al pb n i e)) → (∀ e, d ≤ e → e ≤ i → lk e = ↑(al pb n (i + 1) e)) → (i + 1 - d) < N_lp1 → Hp G cI A s H locs [oK kq q2 ks ln gp ek kc km kd kl, aI cI km 160 (upZ mks i (↑mm)), aI cI kd 160 (upZ dst i (↑xx)), aI cI kl 160 lk, oP q2 b2 o2 (↑n) (↑org) ent ed, aI cI b2 160 pb] → lv_has ls 5 [(3, .int (iZ (↑d))), (2, .ref b2), (0, .ref kq), (1, .int (iZ (↑i)))] → W p l e rmX1_findCopy s m args below meth c H locs 0 0 Q (F0 m 24 ls []) := by
    intro N_lp1
    induction N_lp1 with
    | zero => intros; exfalso; omega
    | succ N_lp1 ih_lp1 =>
      intro d mm xx lk H locs ls hd1 hd2 hF hl1 hl2 hN hp hl
      refine lv_iload_n hx hb dX1_findCopy_24 rfl (lv_at hl 0 rfl) ?_
      refine lv_iload_n hx hb dX1_findCopy_25 rfl (lv_at hl 3 rfl) ?_
      refine z_icmp_gt (tgt := 110) hx hb dX1_findCopy_26 (by decide) (by omega) (fun h2 => ?_) (fun h2 => ?_)
      · skip
        obtain rfl : d = i + 1 := by omega
        exact hret _ _ _ _ _ _ (lk, mm, xx) (⟨hF, fun e h1 h2 => hl1 e h1 (by omega)⟩) hp dX1_findCopy_110 (Nat.le_of_ble_eq_true rfl) (Nat.le_of_ble_eq_true rfl)
      · skip
        have hmm := FCp_129 hF
        have hb1 := h_b i (by omega)
        have hb2 := h_b (i - d) (by omega)
        have hlk := hl2 d (by omega) (by omega)
        have hale := al_le (pb := pb) (n := n) (d := d) (n - (i + 1)) (i + 1) (by omega)
        have jn3 : ∀ (v : Nat) (H : Heap) (locs : List Loc) (ls : Array Slot), (v = al pb n i d) → Hp G cI A s H locs [oK kq q2 ks ln gp ek kc km kd kl, aI cI km 160 (upZ mks i (↑mm)), aI cI kd 160 (upZ dst i (↑xx)), aI cI kl 160 lk, oP q2 b2 o2 (↑n) (↑org) ent ed, aI cI b2 160 pb] → lv_has ls 5 [(3, .int (iZ (↑d))), (2, .ref b2), (0, .ref kq), (1, .int (iZ (↑i)))] → W p l e rmX1_findCopy s m args below meth c H locs 0 0 Q (F0 m 57 ls [.int (iZ (↑v)), .int (iZ (↑d)), .ref kl]) := by
          intro v H locs ls hv hp hl
          have hale2 := al_le (pb := pb) (n := n) (d := d) (n - i) i (by omega)
          have hca : ca pb n i d ≤ 129 := by unfold ca; omega
          refine z_iast hx hb hp 3 rfl (d) (by omega) dX1_findCopy_57 (ws' := [oK kq q2 ks ln gp ek kc km kd kl, aI cI km 160 (upZ mks i (↑mm)), aI cI kd 160 (upZ dst i (↑xx)), aI cI kl 160 (upZ lk d (↑v)), oP q2 b2 o2 (↑n) (↑org) ent ed, aI cI b2 160 pb]) rfl (fun H locs hp => ?_)
          refine lv_aload_n hx hb dX1_findCopy_58 rfl (lv_at hl 2 rfl) ?_
          refine z_get hx hb hts hi1 hown hp 0 rfl rfl 8 (by decide) f31 rfl dX1_findCopy_59 ?_
          refine lv_iload_n hx hb dX1_findCopy_62 rfl (lv_at hl 0 rfl) ?_
          refine z_iald hx hb hp 3 rfl (d) (by omega) dX1_findCopy_63 (↑v) (upZ_s _ _ _) ?_
          refine z_sipush hx hb dX1_findCopy_64 (by decide +kernel) ?_
          refine z_mmin hx hb (by rw [hml]; exact hl.1.symm) hown m73 smin im cmin (Nat.le_of_ble_eq_true rfl) (Nat.le_of_ble_eq_true rfl) (Nat.le_of_ble_eq_true rfl) (Nat.le_of_ble_eq_true rfl) (↑(ca pb n i d)) (by omega) (by unfold ca; omega) dX1_findCopy_67 ?_
          refine lv_istore (lv' := [(4, .int (iZ (↑(ca pb n i d)))), (3, .int (iZ (↑d))), (2, .ref b2), (0, .ref kq), (1, .int (iZ (↑i)))]) hx hb dX1_findCopy_70 hl (by decide) rfl (fun ls hl => ?_)
          refine lv_iload hx hb dX1_findCopy_72 (lv_at hl 0 rfl) ?_
          refine z_iconst hx hb dX1_findCopy_74 ?_
          refine z_icmp_le (tgt := 104) hx hb dX1_findCopy_75 (by decide) (by omega) (fun h5 => ?_) (fun h5 => ?_)
          · skip
            refine z_iinc (k := 1) (lv' := [(3, .int (iZ (↑(d + 1)))), (4, .int (iZ (↑(ca pb n i d)))), (2, .ref b2), (0, .ref kq), (1, .int (iZ (↑i)))]) hx hb (↑(d + 1)) (by omega) dX1_findCopy_104 hl rfl (by decide) rfl (fun ls hl => ?_)
            refine lv_goto (tgt := 24) hx hb dX1_findCopy_107 (by decide) ?_
            exact ih_lp1 (d + 1) mm xx (upZ lk d (↑v)) _ _ _ (by omega) (by omega) (FCp_keep hF (by omega)) (fun e h1 h2 => by unfold upZ; by_cases q : e = d; rw [if_pos q, q, hv]; rw [if_neg q]; exact hl1 e h1 (by omega)) (fun e h1 h2 => by rw [upZ_n _ _ (by omega)]; exact hl2 e (by omega) h2) (by omega) hp (lv_sub hl [0, 2, 3, 4] rfl)
          · skip
            refine lv_iload hx hb dX1_findCopy_78 (lv_at hl 0 rfl) ?_
            refine lv_aload_n hx hb dX1_findCopy_80 rfl (lv_at hl 3 rfl) ?_
            refine z_get hx hb hts hi1 hown hp 0 rfl rfl 6 (by decide) f25 rfl dX1_findCopy_81 ?_
            refine lv_iload_n hx hb dX1_findCopy_84 rfl (lv_at hl 4 rfl) ?_
            refine z_iald hx hb hp 1 rfl (i) (by omega) dX1_findCopy_85 (↑mm) (upZ_s _ _ _) ?_
            refine z_icmp_le (tgt := 104) hx hb dX1_findCopy_86 (by decide) (by omega) (fun h6 => ?_) (fun h6 => ?_)
            · skip
              refine z_iinc (k := 1) (lv' := [(3, .int (iZ (↑(d + 1)))), (4, .int (iZ (↑(ca pb n i d)))), (2, .ref b2), (0, .ref kq), (1, .int (iZ (↑i)))]) hx hb (↑(d + 1)) (by omega) dX1_findCopy_104 hl rfl (by decide) rfl (fun ls hl => ?_)
              refine lv_goto (tgt := 24) hx hb dX1_findCopy_107 (by decide) ?_
              exact ih_lp1 (d + 1) mm xx (upZ lk d (↑v)) _ _ _ (by omega) (by omega) (FCp_keep hF (by omega)) (fun e h1 h2 => by unfold upZ; by_cases q : e = d; rw [if_pos q, q, hv]; rw [if_neg q]; exact hl1 e h1 (by omega)) (fun e h1 h2 => by rw [upZ_n _ _ (by omega)]; exact hl2 e (by omega) h2) (by omega) hp (lv_sub hl [0, 2, 3, 4] rfl)
            · skip
              refine lv_aload_n hx hb dX1_findCopy_89 rfl (lv_at hl 3 rfl) ?_
              refine z_get hx hb hts hi1 hown hp 0 rfl rfl 6 (by decide) f25 rfl dX1_findCopy_90 ?_
              refine lv_iload_n hx hb dX1_findCopy_93 rfl (lv_at hl 4 rfl) ?_
              refine lv_iload hx hb dX1_findCopy_94 (lv_at hl 0 rfl) ?_
              refine z_iast hx hb hp 1 rfl (i) (by omega) dX1_findCopy_96 (ws' := [oK kq q2 ks ln gp ek kc km kd kl, aI cI km 160 (upZ (upZ mks i (↑mm)) i (↑(ca pb n i d))), aI cI kd 160 (upZ dst i (↑xx)), aI cI kl 160 (upZ lk d (↑v)), oP q2 b2 o2 (↑n) (↑org) ent ed, aI cI b2 160 pb]) rfl (fun H locs hp => ?_)
              have hp := z_alike hp 1 rfl (upZ mks i (↑(ca pb n i d))) (fun j _ => by rw [upZ_u]) (ws' := [oK kq q2 ks ln gp ek kc km kd kl, aI cI km 160 (upZ mks i (↑(ca pb n i d))), aI cI kd 160 (upZ dst i (↑xx)), aI cI kl 160 (upZ lk d (↑v)), oP q2 b2 o2 (↑n) (↑org) ent ed, aI cI b2 160 pb]) rfl
              refine lv_aload_n hx hb dX1_findCopy_97 rfl (lv_at hl 3 rfl) ?_
              refine z_get hx hb hts hi1 hown hp 0 rfl rfl 7 (by decide) f28 rfl dX1_findCopy_98 ?_
              refine lv_iload_n hx hb dX1_findCopy_101 rfl (lv_at hl 4 rfl) ?_
              refine lv_iload_n hx hb dX1_findCopy_102 rfl (lv_at hl 1 rfl) ?_
              refine z_iast hx hb hp 2 rfl (i) (by omega) dX1_findCopy_103 (ws' := [oK kq q2 ks ln gp ek kc km kd kl, aI cI km 160 (upZ mks i (↑(ca pb n i d))), aI cI kd 160 (upZ (upZ dst i (↑xx)) i (↑d)), aI cI kl 160 (upZ lk d (↑v)), oP q2 b2 o2 (↑n) (↑org) ent ed, aI cI b2 160 pb]) rfl (fun H locs hp => ?_)
              have hp := z_alike hp 2 rfl (upZ dst i (↑d)) (fun j _ => by rw [upZ_u]) (ws' := [oK kq q2 ks ln gp ek kc km kd kl, aI cI km 160 (upZ mks i (↑(ca pb n i d))), aI cI kd 160 (upZ dst i (↑d)), aI cI kl 160 (upZ lk d (↑v)), oP q2 b2 o2 (↑n) (↑org) ent ed, aI cI b2 160 pb]) rfl
              refine z_iinc (k := 1) (lv' := [(3, .int (iZ (↑(d + 1)))), (4, .int (iZ (↑(ca pb n i d)))), (2, .ref b2), (0, .ref kq), (1, .int (iZ (↑i)))]) hx hb (↑(d + 1)) (by omega) dX1_findCopy_104 hl rfl (by decide) rfl (fun ls hl => ?_)
              refine lv_goto (tgt := 24) hx hb dX1_findCopy_107 (by decide) ?_
              exact ih_lp1 (d + 1) (ca pb n i d) d (upZ lk d (↑v)) _ _ _ (by omega) (by omega) (FCp_up (by omega) hF (by omega) (by omega)) (fun e h1 h2 => by unfold upZ; by_cases q : e = d; rw [if_pos q, q, hv]; rw [if_neg q]; exact hl1 e h1 (by omega)) (fun e h1 h2 => by rw [upZ_n _ _ (by omega)]; exact hl2 e (by omega) h2) (by omega) hp (lv_sub hl [0, 2, 3, 4] rfl)
        refine lv_aload_n hx hb dX1_findCopy_29 rfl (lv_at hl 2 rfl) ?_
        refine z_get hx hb hts hi1 hown hp 0 rfl rfl 8 (by decide) f31 rfl dX1_findCopy_30 ?_
        refine lv_iload_n hx hb dX1_findCopy_33 rfl (lv_at hl 0 rfl) ?_
        refine lv_aload_n hx hb dX1_findCopy_34 rfl (lv_at hl 1 rfl) ?_
        refine lv_iload_n hx hb dX1_findCopy_35 rfl (lv_at hl 3 rfl) ?_
        refine z_iald hx hb hp 5 rfl (i) (by omega) dX1_findCopy_36 (pb i) (rfl) ?_
        refine lv_aload_n hx hb dX1_findCopy_37 rfl (lv_at hl 1 rfl) ?_
        refine lv_iload_n hx hb dX1_findCopy_38 rfl (lv_at hl 3 rfl) ?_
        refine lv_iload_n hx hb dX1_findCopy_39 rfl (lv_at hl 0 rfl) ?_
        refine z_isub hx hb ((↑i) - (↑d)) (rfl) dX1_findCopy_40 ?_
        refine z_iald hx hb hp 5 rfl (i - d) (by omega) dX1_findCopy_41 (pb (i - d)) (rfl) ?_
        refine z_icmp_ne (tgt := 56) hx hb dX1_findCopy_42 (by decide) (by omega) (fun h7 => ?_) (fun h7 => ?_)
        · skip
          refine z_iconst hx hb dX1_findCopy_56 ?_
          exact jn3 0 _ _ _ (by rw [al_s (i := i) d h_i, if_neg (fun q => absurd q.2 (by omega))]) hp (lv_sub hl [0, 1, 2, 3] rfl)
        · skip
          refine lv_aload_n hx hb dX1_findCopy_45 rfl (lv_at hl 2 rfl) ?_
          refine z_get hx hb hts hi1 hown hp 0 rfl rfl 8 (by decide) f31 rfl dX1_findCopy_46 ?_
          refine lv_iload_n hx hb dX1_findCopy_49 rfl (lv_at hl 0 rfl) ?_
          refine z_iald hx hb hp 3 rfl (d) (by omega) dX1_findCopy_50 (lk d) (rfl) ?_
          refine z_iconst hx hb dX1_findCopy_51 ?_
          refine z_iadd hx hb (↑(al pb n (i + 1) d + 1)) (by omega) dX1_findCopy_52 ?_
          refine lv_goto (tgt := 57) hx hb dX1_findCopy_53 (by decide) ?_
          exact jn3 (al pb n (i + 1) d + 1) _ _ _ (by rw [al_s (i := i) d h_i, if_pos ⟨by omega, by omega⟩]) hp (lv_sub hl [0, 1, 2, 3] rfl)
  exact lp1 _ 1 0 0 lks _ _ _ (by omega) (by omega) (FCp_1 pb n i) (fun e h1 h2 => by omega) (fun e h1 h2 => h_l e h1 h2) (Nat.lt_succ_self _) hp (lv_sub hl [0, 1, 2, 3] rfl)
abbrev rmX1_chooseToken : Room := { frames := 1, cells := 0, slots := 0, locals := 40 }
set_option maxRecDepth 100000 in
set_option maxHeartbeats 4000000 in
theorem c_X1_chooseToken (l : Launch) (G : va_G) (cI : ClassId) (sz : Nat) (kq ks kc km kd kl : Nat) (q2 b2 o2 : Nat) (mks dst cst pb : Nat → Int) (n org i mm xx : Nat) (ln gp ek ent ed : Int) (h_n : n ≤ 160) (h_i : i < n) (h_m : mks i = ↑mm) (h_x : dst i = ↑xx) (h_f : FC pb n i mm xx) (h_c : ∀ j, i < j → j ≤ n → 1 ≤ cst j ∧ cst j ≤ 400) : Met l yX1_chooseToken wsX1_chooseToken rmX1_chooseToken (zPre G cI [oK kq q2 ks ln gp ek kc km kd kl, aI cI kc 161 cst, aI cI km 160 mks, aI cI kd 160 dst, oP q2 b2 o2 (↑n) (↑org) ent ed] sz [.ref kq, .int (iZ (↑i))]) (va_Qv (fun (u : Int × Int × Int) => PSi pb n cst i u.1 u.2.1 u.2.2) (fun (u : Int × Int × Int) t => zB G cI (va_A [oK kq q2 ks ln gp ek kc km kd kl, aI cI kc 161 cst, aI cI km 160 mks, aI cI kd 160 dst, oP q2 b2 o2 (↑n) (↑org) ent ed] sz) [oK kq q2 ks ln gp ek kc km kd kl, aI cI kc 161 (upZ cst i u.2.2), aI cI km 160 (upZ mks i u.1), aI cI kd 160 (upZ dst i u.2.1), oP q2 b2 o2 (↑n) (↑org) ent ed] t) (va_A [oK kq q2 ks ln gp ek kc km kd kl, aI cI kc 161 cst, aI cI km 160 mks, aI cI kd 160 dst, oP q2 b2 o2 (↑n) (↑org) ent ed] sz)) 0 0 (va_A [oK kq q2 ks ln gp ek kc km kd kl, aI cI kc 161 cst, aI cI km 160 mks, aI cI kd 160 dst, oP q2 b2 o2 (↑n) (↑org) ent ed] sz) := by
  refine zm_v (W1 := fun (u : Int × Int × Int) => [oK kq q2 ks ln gp ek kc km kd kl, aI cI kc 161 (upZ cst i u.2.2), aI cI km 160 (upZ mks i u.1), aI cI kd 160 (upZ dst i u.2.1), oP q2 b2 o2 (↑n) (↑org) ent ed]) (cc := cX1_chooseToken) (maxL := 6) (by decide) rfl (Nat.le_of_ble_eq_true rfl) ?_
  intro p e s m args below meth c A Q ls hsz hx hb hml hown hts hnm hret hp hl
  have hl : lv_has ls 6 [(0, .ref kq), (1, .int (iZ (↑i)))] := hl
  have hi1 : ∀ w ∈ wsX10, w ∈ wsX1_chooseToken := fun w h => List.mem_cons_of_mem _ (List.mem_append_left _ (List.mem_append_right _ (h)))
  have f12 := hts (.fieldLink RX1 12 "SelfOpener$Packing" "program" "LSelfOpener$Program;") (List.mem_of_getElem? (i := 4) rfl)
  have hi2 : ∀ w ∈ wsX20, w ∈ wsX1_chooseToken := fun w h => List.mem_cons_of_mem _ (List.mem_append_right _ (h))
  have f41 := hts (.fieldLink RX1 41 "SelfOpener$Program" "size" "I") (List.mem_of_getElem? (i := 5) rfl)
  have m73 := hts (.methodLink RX1 73 Lib.Math.min.name) (List.mem_of_getElem? (i := 6) rfl)
  have smin := hts (.static Lib.Math.min.name) (List.mem_of_getElem? (i := 7) rfl)
  have im := hts (.initialized "java/lang/Math") (List.mem_of_getElem? (i := 8) rfl)
  have cmin := hts (.code Lib.Math.min.name Lib.Math.min.code 2 (some .int)) (List.mem_of_getElem? (i := 9) rfl)
  have f22 := hts (.fieldLink RX1 22 "SelfOpener$Packing" "cost" "[I") (List.mem_of_getElem? (i := 2) rfl)
  have f25 := hts (.fieldLink RX1 25 "SelfOpener$Packing" "makes" "[I") (List.mem_of_getElem? (i := 3) rfl)
  have f28 := hts (.fieldLink RX1 28 "SelfOpener$Packing" "distance" "[I") (List.mem_of_getElem? (i := 1) rfl)
  have hm := FC_le h_i h_f
  have hmx : (xx = 0 ∧ mm = 0) ∨ (1 ≤ xx ∧ 2 ≤ mm) := by
    rcases h_f with ⟨e1, e2, -⟩ | ⟨e1, e2, -⟩
    · exact Or.inl ⟨e2, e1⟩
    · exact Or.inr ⟨e2, e1⟩
  suffices hw : ∀ (H : Heap) (locs : List Loc), Hp G cI A s H locs [oK kq q2 ks ln gp ek kc km kd kl, aI cI kc 161 cst, aI cI km 160 mks, aI cI kd 160 dst, oP q2 b2 o2 (↑n) (↑org) ent ed] → W p l e rmX1_chooseToken s m args below meth c H locs 0 0 Q (F0 m 0 ls []) from hw _ _ hp
  clear hp; intro H locs hp
  have jn1 : ∀ (b0 : Int) (H : Heap) (locs : List Loc) (ls : Array Slot), ((xx = 0 → b0 = 1000) ∧ (0 < xx → b0 = 2 + cst (i + mm))) → (1 ≤ b0 ∧ b0 ≤ 1000) → Hp G cI A s H locs [oK kq q2 ks ln gp ek kc km kd kl, aI cI kc 161 cst, aI cI km 160 mks, aI cI kd 160 dst, oP q2 b2 o2 (↑n) (↑org) ent ed] → lv_has ls 6 [(0, .ref kq), (1, .int (iZ (↑i)))] → W p l e rmX1_chooseToken s m args below meth c H locs 0 0 Q (F0 m 30 ls [.int (iZ (b0))]) := by
    intro b0 H locs ls hb0 hb1 hp hl
    refine lv_istore_n (lv' := [(2, .int (iZ (b0))), (0, .ref kq), (1, .int (iZ (↑i)))]) hx hb dX1_chooseToken_30 rfl hl (by decide) rfl (fun ls hl => ?_)
    refine z_bipush hx hb dX1_chooseToken_31 (by decide +kernel) ?_
    refine lv_aload_n hx hb dX1_chooseToken_33 rfl (lv_at hl 1 rfl) ?_
    refine z_get hx hb hts hi1 hown hp 0 rfl rfl 0 (by decide) f12 rfl dX1_chooseToken_34 ?_
    refine z_get hx hb hts hi2 hown hp 4 rfl rfl 2 (by decide) f41 rfl dX1_chooseToken_37 ?_
    refine lv_iload_n hx hb dX1_chooseToken_40 rfl (lv_at hl 2 rfl) ?_
    refine z_isub hx hb ((↑n) - (↑i)) (rfl) dX1_chooseToken_41 ?_
    refine z_mmin hx hb (by rw [hml]; exact hl.1.symm) hown m73 smin im cmin (Nat.le_of_ble_eq_true rfl) (Nat.le_of_ble_eq_true rfl) (Nat.le_of_ble_eq_true rfl) (Nat.le_of_ble_eq_true rfl) (min 127 ((↑n) - (↑i))) (by omega) (by omega) dX1_chooseToken_42 ?_
    refine lv_istore_n (lv' := [(3, .int (iZ (min 127 ((↑n) - (↑i))))), (2, .int (iZ (b0))), (0, .ref kq), (1, .int (iZ (↑i)))]) hx hb dX1_chooseToken_45 rfl hl (by decide) rfl (fun ls hl => ?_)
    have hp := z_alike hp 2 rfl (upZ mks i (if 0 = 0 then (mm : Int) else ((0 : Nat) : Int))) (fun j _ => by rw [if_pos rfl, upZ_same h_m]) (ws' := [oK kq q2 ks ln gp ek kc km kd kl, aI cI kc 161 cst, aI cI km 160 (upZ mks i (if 0 = 0 then (mm : Int) else ((0 : Nat) : Int))), aI cI kd 160 dst, oP q2 b2 o2 (↑n) (↑org) ent ed]) rfl
    have hp := z_alike hp 3 rfl (upZ dst i (if 0 = 0 then (xx : Int) else 0)) (fun j _ => by rw [if_pos rfl, upZ_same h_x]) (ws' := [oK kq q2 ks ln gp ek kc km kd kl, aI cI kc 161 cst, aI cI km 160 (upZ mks i (if 0 = 0 then (mm : Int) else ((0 : Nat) : Int))), aI cI kd 160 (upZ dst i (if 0 = 0 then (xx : Int) else 0)), oP q2 b2 o2 (↑n) (↑org) ent ed]) rfl
    refine z_iconst hx hb dX1_chooseToken_46 ?_
    refine lv_istore (lv' := [(4, .int (iZ (1))), (3, .int (iZ (min 127 ((↑n) - (↑i))))), (2, .int (iZ (b0))), (0, .ref kq), (1, .int (iZ (↑i)))]) hx hb dX1_chooseToken_47 hl (by decide) rfl (fun ls hl => ?_)
    have lp4 : ∀ (N_lp4 : Nat) (t r : Nat) (b : Int) (H : Heap) (locs : List Loc) (ls : Array Slot), (1 ≤ t) → (t ≤ 128) → (i + t ≤ n + 1) → (CTi cst i t r b b0) → (1 ≤ b ∧ b ≤ 1000) → (129 - t) < N_lp4 → Hp G cI A s H locs [oK kq q2 ks ln gp ek kc km kd kl, aI cI kc 161 cst, aI cI km 160 (upZ mks i (if r = 0 then (mm : Int) else (r : Int))), aI cI kd 160 (upZ dst i (if r = 0 then (xx : Int) else 0)), oP q2 b2 o2 (↑n) (↑org) ent ed] → lv_has ls 6 [(4, .int (iZ (↑t))), (2, .int (iZ (b))), (3, .int (iZ (min 127 ((↑n) - (↑i))))), (0, .ref kq), (1, .int (iZ (↑i)))] → W p l e rmX1_chooseToken s m args below meth c H locs 0 0 Q (F0 m 49 ls []) := by
      intro N_lp4
      induction N_lp4 with
      | zero => intros; exfalso; omega
      | succ N_lp4 ih_lp4 =>
        intro t r b H locs ls ht1 ht2 ht3 hT hbb hN hp hl
        refine lv_iload hx hb dX1_chooseToken_49 (lv_at hl 0 rfl) ?_
        refine lv_iload_n hx hb dX1_chooseToken_51 rfl (lv_at hl 2 rfl) ?_
        refine z_icmp_gt (tgt := 101) hx hb dX1_chooseToken_52 (by decide) (by omega) (fun h5 => ?_) (fun h5 => ?_)
        · skip
          refine lv_aload_n hx hb dX1_chooseToken_101 rfl (lv_at hl 3 rfl) ?_
          refine z_get hx hb hts hi1 hown hp 0 rfl rfl 5 (by decide) f22 rfl dX1_chooseToken_102 ?_
          refine lv_iload_n hx hb dX1_chooseToken_105 rfl (lv_at hl 4 rfl) ?_
          refine lv_iload_n hx hb dX1_chooseToken_106 rfl (lv_at hl 1 rfl) ?_
          refine z_iast hx hb hp 1 rfl (i) (by omega) dX1_chooseToken_107 (ws' := [oK kq q2 ks ln gp ek kc km kd kl, aI cI kc 161 (upZ cst i b), aI cI km 160 (upZ mks i (if r = 0 then (mm : Int) else (r : Int))), aI cI kd 160 (upZ dst i (if r = 0 then (xx : Int) else 0)), oP q2 b2 o2 (↑n) (↑org) ent ed]) rfl (fun H locs hp => ?_)
          exact hret _ _ _ _ _ _ (if r = 0 then (mm : Int) else (r : Int), if r = 0 then (xx : Int) else 0, b) (CTi_end h_i h_f hb0 (h_c (i + 1) (by omega) (by omega)).2 (fun q q1 q2 => by omega) ht2 ht3 hT) hp dX1_chooseToken_108 (Nat.le_of_ble_eq_true rfl) (Nat.le_of_ble_eq_true rfl)
        · skip
          have hct := h_c (i + t) (by omega) (by omega)
          refine z_iconst hx hb dX1_chooseToken_55 ?_
          refine lv_iload hx hb dX1_chooseToken_56 (lv_at hl 0 rfl) ?_
          refine z_iadd hx hb (1 + (↑t)) (rfl) dX1_chooseToken_58 ?_
          refine lv_aload_n hx hb dX1_chooseToken_59 rfl (lv_at hl 3 rfl) ?_
          refine z_get hx hb hts hi1 hown hp 0 rfl rfl 5 (by decide) f22 rfl dX1_chooseToken_60 ?_
          refine lv_iload_n hx hb dX1_chooseToken_63 rfl (lv_at hl 4 rfl) ?_
          refine lv_iload hx hb dX1_chooseToken_64 (lv_at hl 0 rfl) ?_
          refine z_iadd hx hb (↑(i + t)) (by omega) dX1_chooseToken_66 ?_
          refine z_iald hx hb hp 1 rfl (i + t) (by omega) dX1_chooseToken_67 (cst (i + t)) (rfl) ?_
          refine z_iadd hx hb (1 + ↑t + cst (i + t)) (rfl) dX1_chooseToken_68 ?_
          refine lv_istore (lv' := [(5, .int (iZ (1 + ↑t + cst (i + t)))), (4, .int (iZ (↑t))), (2, .int (iZ (b))), (3, .int (iZ (min 127 ((↑n) - (↑i))))), (0, .ref kq), (1, .int (iZ (↑i)))]) hx hb dX1_chooseToken_69 hl (by decide) rfl (fun ls hl => ?_)
          refine lv_iload hx hb dX1_chooseToken_71 (lv_at hl 0 rfl) ?_
          refine lv_iload_n hx hb dX1_chooseToken_73 rfl (lv_at hl 2 rfl) ?_
          refine z_icmp_ge (tgt := 95) hx hb dX1_chooseToken_74 (by decide) (by omega) (fun h6 => ?_) (fun h6 => ?_)
          · skip
            refine z_iinc (k := 1) (lv' := [(4, .int (iZ (↑(t + 1)))), (5, .int (iZ (1 + ↑t + cst (i + t)))), (2, .int (iZ (b))), (3, .int (iZ (min 127 ((↑n) - (↑i))))), (0, .ref kq), (1, .int (iZ (↑i)))]) hx hb (↑(t + 1)) (by omega) dX1_chooseToken_95 hl rfl (by decide) rfl (fun ls hl => ?_)
            refine lv_goto (tgt := 49) hx hb dX1_chooseToken_98 (by decide) ?_
            exact ih_lp4 (t + 1) r b _ _ _ (by omega) (by omega) (by omega) (CTi_keep hT (by omega)) (by omega) (by omega) hp (lv_sub hl [0, 2, 3, 4, 5] rfl)
          · skip
            refine lv_iload hx hb dX1_chooseToken_77 (lv_at hl 0 rfl) ?_
            refine lv_istore_n (lv' := [(2, .int (iZ (1 + ↑t + cst (i + t)))), (5, .int (iZ (1 + ↑t + cst (i + t)))), (4, .int (iZ (↑t))), (3, .int (iZ (min 127 ((↑n) - (↑i))))), (0, .ref kq), (1, .int (iZ (↑i)))]) hx hb dX1_chooseToken_79 rfl hl (by decide) rfl (fun ls hl => ?_)
            refine lv_aload_n hx hb dX1_chooseToken_80 rfl (lv_at hl 4 rfl) ?_
            refine z_get hx hb hts hi1 hown hp 0 rfl rfl 6 (by decide) f25 rfl dX1_chooseToken_81 ?_
            refine lv_iload_n hx hb dX1_chooseToken_84 rfl (lv_at hl 5 rfl) ?_
            refine lv_iload hx hb dX1_chooseToken_85 (lv_at hl 2 rfl) ?_
            refine z_iast hx hb hp 2 rfl (i) (by omega) dX1_chooseToken_87 (ws' := [oK kq q2 ks ln gp ek kc km kd kl, aI cI kc 161 cst, aI cI km 160 (upZ (upZ mks i (if r = 0 then (mm : Int) else (r : Int))) i (↑t)), aI cI kd 160 (upZ dst i (if r = 0 then (xx : Int) else 0)), oP q2 b2 o2 (↑n) (↑org) ent ed]) rfl (fun H locs hp => ?_)
            have hp := z_alike hp 2 rfl (upZ mks i (if t = 0 then (mm : Int) else (t : Int))) (fun j _ => by rw [upZ_u, if_neg (by omega)]) (ws' := [oK kq q2 ks ln gp ek kc km kd kl, aI cI kc 161 cst, aI cI km 160 (upZ mks i (if t = 0 then (mm : Int) else (t : Int))), aI cI kd 160 (upZ dst i (if r = 0 then (xx : Int) else 0)), oP q2 b2 o2 (↑n) (↑org) ent ed]) rfl
            refine lv_aload_n hx hb dX1_chooseToken_88 rfl (lv_at hl 4 rfl) ?_
            refine z_get hx hb hts hi1 hown hp 0 rfl rfl 7 (by decide) f28 rfl dX1_chooseToken_89 ?_
            refine lv_iload_n hx hb dX1_chooseToken_92 rfl (lv_at hl 5 rfl) ?_
            refine z_iconst hx hb dX1_chooseToken_93 ?_
            refine z_iast hx hb hp 3 rfl (i) (by omega) dX1_chooseToken_94 (ws' := [oK kq q2 ks ln gp ek kc km kd kl, aI cI kc 161 cst, aI cI km 160 (upZ mks i (if t = 0 then (mm : Int) else (t : Int))), aI cI kd 160 (upZ (upZ dst i (if r = 0 then (xx : Int) else 0)) i 0), oP q2 b2 o2 (↑n) (↑org) ent ed]) rfl (fun H locs hp => ?_)
            have hp := z_alike hp 3 rfl (upZ dst i (if t = 0 then (xx : Int) else 0)) (fun j _ => by rw [upZ_u, if_neg (by omega)]) (ws' := [oK kq q2 ks ln gp ek kc km kd kl, aI cI kc 161 cst, aI cI km 160 (upZ mks i (if t = 0 then (mm : Int) else (t : Int))), aI cI kd 160 (upZ dst i (if t = 0 then (xx : Int) else 0)), oP q2 b2 o2 (↑n) (↑org) ent ed]) rfl
            refine z_iinc (k := 2) (lv' := [(4, .int (iZ (↑(t + 1)))), (2, .int (iZ (1 + ↑t + cst (i + t)))), (5, .int (iZ (1 + ↑t + cst (i + t)))), (3, .int (iZ (min 127 ((↑n) - (↑i))))), (0, .ref kq), (1, .int (iZ (↑i)))]) hx hb (↑(t + 1)) (by omega) dX1_chooseToken_95 hl rfl (by decide) rfl (fun ls hl => ?_)
            refine lv_goto (tgt := 49) hx hb dX1_chooseToken_98 (by decide) ?_
            exact ih_lp4 (t + 1) t (1 + ↑t + cst (i + t)) _ _ _ (by omega) (by omega) (by omega) (CTi_up ht1 hT (by omega)) (by omega) (by omega) hp (lv_sub hl [0, 1, 3, 4, 5] rfl)
    exact lp4 _ 1 0 b0 _ _ _ (by omega) (by omega) (by omega) (CTi_0 _ _ _) (hb1) (Nat.lt_succ_self _) hp (lv_sub hl [0, 2, 1, 3, 4] rfl)
  refine lv_aload_n hx hb dX1_chooseToken_0 rfl (lv_at hl 0 rfl) ?_
  refine z_get hx hb hts hi1 hown hp 0 rfl rfl 7 (by decide) f28 rfl dX1_chooseToken_1 ?_
  refine lv_iload_n hx hb dX1_chooseToken_4 rfl (lv_at hl 1 rfl) ?_
  refine z_iald hx hb hp 3 rfl (i) (by omega) dX1_chooseToken_5 (↑xx) (h_x) ?_
  refine z_if_le (tgt := 27) hx hb dX1_chooseToken_6 (by decide) (by omega) (fun h7 => ?_) (fun h7 => ?_)
  · skip
    refine z_sipush hx hb dX1_chooseToken_27 (by decide +kernel) ?_
    exact jn1 1000 _ _ _ (⟨fun _ => rfl, fun q => by omega⟩) (by omega) hp (lv_sub hl [0, 1] rfl)
  · skip
    refine z_iconst hx hb dX1_chooseToken_9 ?_
    refine lv_aload_n hx hb dX1_chooseToken_10 rfl (lv_at hl 0 rfl) ?_
    refine z_get hx hb hts hi1 hown hp 0 rfl rfl 5 (by decide) f22 rfl dX1_chooseToken_11 ?_
    refine lv_iload_n hx hb dX1_chooseToken_14 rfl (lv_at hl 1 rfl) ?_
    refine lv_aload_n hx hb dX1_chooseToken_15 rfl (lv_at hl 0 rfl) ?_
    refine z_get hx hb hts hi1 hown hp 0 rfl rfl 6 (by decide) f25 rfl dX1_chooseToken_16 ?_
    refine lv_iload_n hx hb dX1_chooseToken_19 rfl (lv_at hl 1 rfl) ?_
    refine z_iald hx hb hp 2 rfl (i) (by omega) dX1_chooseToken_20 (↑mm) (h_m) ?_
    refine z_iadd hx hb (↑(i + mm)) (by omega) dX1_chooseToken_21 ?_
    refine z_iald hx hb hp 1 rfl (i + mm) (by omega) dX1_chooseToken_22 (cst (i + mm)) (rfl) ?_
    refine z_iadd hx hb (2 + (cst (i + mm))) (rfl) dX1_chooseToken_23 ?_
    refine lv_goto (tgt := 30) hx hb dX1_chooseToken_24 (by decide) ?_
    exact jn1 (2 + (cst (i + mm))) _ _ _ (⟨fun q => by omega, fun _ => rfl⟩) (by have := h_c (i + mm) (by omega) (by omega); omega) hp (lv_sub hl [0, 1] rfl)
abbrev rmX1_writeStream : Room := { frames := 1, cells := 0, slots := 0, locals := 80 }
set_option maxRecDepth 100000 in
set_option maxHeartbeats 4000000 in
theorem c_X1_writeStream (l : Launch) (G : va_G) (cI : ClassId) (sz : Nat) (kq ks kc km kd kl : Nat) (q2 b2 o2 : Nat) (strm mks dst pb C wrow : Nat → Int) (n org wr : Nat) (ln gp ek ent ed : Int) (wgp : Int) (h_n : n ≤ 160) (h_b : BB pb 160) (h_p : PS pb n C mks dst 0) (h_l : ln = C 0) (h_w : wst pb mks dst n (C 0) n 0 0 strm (max 0 (C 0 - ↑n)) = (wr, wrow, wgp)) : Met l yX1_writeStream wsX1_writeStream rmX1_writeStream (zPre G cI [oK kq q2 ks ln gp ek kc km kd kl, aI cI ks 163 strm, aI cI km 160 mks, aI cI kd 160 dst, oP q2 b2 o2 (↑n) (↑org) ent ed, aI cI b2 160 pb] sz [.ref kq]) (va_Qv (fun (u : Unit) => True) (fun (u : Unit) t => zB G cI (va_A [oK kq q2 ks ln gp ek kc km kd kl, aI cI ks 163 strm, aI cI km 160 mks, aI cI kd 160 dst, oP q2 b2 o2 (↑n) (↑org) ent ed, aI cI b2 160 pb] sz) [oK kq q2 ks ln wgp ek kc km kd kl, aI cI ks 163 (upZ wrow wr 0), aI cI km 160 mks, aI cI kd 160 dst, oP q2 b2 o2 (↑n) (↑org) ent ed, aI cI b2 160 pb] t) (va_A [oK kq q2 ks ln gp ek kc km kd kl, aI cI ks 163 strm, aI cI km 160 mks, aI cI kd 160 dst, oP q2 b2 o2 (↑n) (↑org) ent ed, aI cI b2 160 pb] sz)) 0 0 (va_A [oK kq q2 ks ln gp ek kc km kd kl, aI cI ks 163 strm, aI cI km 160 mks, aI cI kd 160 dst, oP q2 b2 o2 (↑n) (↑org) ent ed, aI cI b2 160 pb] sz) := by
  refine zm_v (W1 := fun (u : Unit) => [oK kq q2 ks ln wgp ek kc km kd kl, aI cI ks 163 (upZ wrow wr 0), aI cI km 160 mks, aI cI kd 160 dst, oP q2 b2 o2 (↑n) (↑org) ent ed, aI cI b2 160 pb]) (cc := cX1_writeStream) (maxL := 6) (by decide) rfl (Nat.le_of_ble_eq_true rfl) ?_
  intro p e s m args below meth c A Q ls hsz hx hb hml hown hts hnm hret hp hl
  have hl : lv_has ls 6 [(0, .ref kq)] := hl
  have hi1 : ∀ w ∈ wsX10, w ∈ wsX1_writeStream := fun w h => List.mem_cons_of_mem _ (List.mem_append_left _ (List.mem_append_right _ (h)))
  have f12 := hts (.fieldLink RX1 12 "SelfOpener$Packing" "program" "LSelfOpener$Program;") (List.mem_of_getElem? (i := 1) rfl)
  have hi2 : ∀ w ∈ wsX20, w ∈ wsX1_writeStream := fun w h => List.mem_cons_of_mem _ (List.mem_append_right _ (h))
  have f41 := hts (.fieldLink RX1 41 "SelfOpener$Program" "size" "I") (List.mem_of_getElem? (i := 2) rfl)
  have f64 := hts (.fieldLink RX1 64 "SelfOpener$Packing" "length" "I") (List.mem_of_getElem? (i := 3) rfl)
  have m79 := hts (.methodLink RX1 79 Lib.Math.max.name) (List.mem_of_getElem? (i := 4) rfl)
  have smax := hts (.static Lib.Math.max.name) (List.mem_of_getElem? (i := 5) rfl)
  have im := hts (.initialized "java/lang/Math") (List.mem_of_getElem? (i := 6) rfl)
  have cmax := hts (.code Lib.Math.max.name Lib.Math.max.code 2 (some .int)) (List.mem_of_getElem? (i := 7) rfl)
  have f44 := hts (.fieldLink RX1 44 "SelfOpener$Packing" "gap" "I") (List.mem_of_getElem? (i := 8) rfl)
  have f18 := hts (.fieldLink RX1 18 "SelfOpener$Packing" "stream" "[I") (List.mem_of_getElem? (i := 11) rfl)
  have f25 := hts (.fieldLink RX1 25 "SelfOpener$Packing" "makes" "[I") (List.mem_of_getElem? (i := 9) rfl)
  have f28 := hts (.fieldLink RX1 28 "SelfOpener$Packing" "distance" "[I") (List.mem_of_getElem? (i := 10) rfl)
  have f70 := hts (.fieldLink RX1 70 "SelfOpener$Program" "bytes" "[I") (List.mem_of_getElem? (i := 12) rfl)
  have m82 := hts (.methodLink RX1 82 arraycopyName) (List.mem_of_getElem? (i := 13) rfl)
  have na := hts (.native arraycopyName) (List.mem_of_getElem? (i := 14) rfl)
  have sa := hts (.static arraycopyName) (List.mem_of_getElem? (i := 15) rfl)
  have is := hts (.initialized "java/lang/System") (List.mem_of_getElem? (i := 16) rfl)
  subst h_l
  have hC := (PS_163 h_n h_p).1
  have hC1 := (PS_mo h_p (a := 0) (b := 0) (Nat.le_refl _) (Nat.le_refl _) (Nat.zero_le _)).1
  obtain ⟨R, hR0⟩ : ∃ z : Nat × (Nat → Int) × Int, z = (wr, wrow, wgp) := ⟨_, rfl⟩
  rw [← hR0] at h_w
  suffices hw : ∀ (H : Heap) (locs : List Loc), Hp G cI A s H locs [oK kq q2 ks (C 0) gp ek kc km kd kl, aI cI ks 163 strm, aI cI km 160 mks, aI cI kd 160 dst, oP q2 b2 o2 (↑n) (↑org) ent ed, aI cI b2 160 pb] → W p l e rmX1_writeStream s m args below meth c H locs 0 0 Q (F0 m 0 ls []) from hw _ _ hp
  clear hp; intro H locs hp
  refine lv_aload_n hx hb dX1_writeStream_0 rfl (lv_at hl 0 rfl) ?_
  refine z_get hx hb hts hi1 hown hp 0 rfl rfl 0 (by decide) f12 rfl dX1_writeStream_1 ?_
  refine z_get hx hb hts hi2 hown hp 4 rfl rfl 2 (by decide) f41 rfl dX1_writeStream_4 ?_
  refine lv_istore_n (lv' := [(1, .int (iZ (↑n))), (0, .ref kq)]) hx hb dX1_writeStream_7 rfl hl (by decide) rfl (fun ls hl => ?_)
  refine z_iconst hx hb dX1_writeStream_8 ?_
  refine lv_istore_n (lv' := [(2, .int (iZ (0))), (1, .int (iZ (↑n))), (0, .ref kq)]) hx hb dX1_writeStream_9 rfl hl (by decide) rfl (fun ls hl => ?_)
  refine z_iconst hx hb dX1_writeStream_10 ?_
  refine lv_istore_n (lv' := [(3, .int (iZ (0))), (2, .int (iZ (0))), (1, .int (iZ (↑n))), (0, .ref kq)]) hx hb dX1_writeStream_11 rfl hl (by decide) rfl (fun ls hl => ?_)
  refine lv_aload_n hx hb dX1_writeStream_12 rfl (lv_at hl 3 rfl) ?_
  refine z_iconst hx hb dX1_writeStream_13 ?_
  refine lv_aload_n hx hb dX1_writeStream_14 rfl (lv_at hl 3 rfl) ?_
  refine z_get hx hb hts hi1 hown hp 0 rfl rfl 2 (by decide) f64 rfl dX1_writeStream_15 ?_
  refine lv_iload_n hx hb dX1_writeStream_18 rfl (lv_at hl 2 rfl) ?_
  refine z_isub hx hb ((C 0) - (↑n)) (rfl) dX1_writeStream_19 ?_
  refine z_mmax hx hb (by rw [hml]; exact hl.1.symm) hown m79 smax im cmax (Nat.le_of_ble_eq_true rfl) (Nat.le_of_ble_eq_true rfl) (Nat.le_of_ble_eq_true rfl) (Nat.le_of_ble_eq_true rfl) (max 0 (C 0 - ↑n)) (by omega) (by omega) dX1_writeStream_20 ?_
  refine z_put hx hb hts hi1 tyX1 tyX1_ok nmX1 hown hp 0 rfl rfl 3 (by decide) f44 rfl (rfl) (rfl) (Nat.le_of_ble_eq_true rfl) dX1_writeStream_23 (ws' := [oK kq q2 ks (C 0) (max 0 (C 0 - ↑n)) ek kc km kd kl, aI cI ks 163 strm, aI cI km 160 mks, aI cI kd 160 dst, oP q2 b2 o2 (↑n) (↑org) ent ed, aI cI b2 160 pb]) rfl (fun H locs hp => ?_)
  refine z_iconst hx hb dX1_writeStream_26 ?_
  refine lv_istore (lv' := [(4, .int (iZ (0))), (3, .int (iZ (0))), (2, .int (iZ (0))), (1, .int (iZ (↑n))), (0, .ref kq)]) hx hb dX1_writeStream_27 hl (by decide) rfl (fun ls hl => ?_)
  have jn1 : ∀ (rd : Nat) (row : Nat → Int) (gp : Int) (H : Heap) (locs : List Loc) (ls : Array Slot), ((rd : Int) + 1 = C 0) → ((rd, row, gp) = R) → Hp G cI A s H locs [oK kq q2 ks (C 0) gp ek kc km kd kl, aI cI ks 163 row, aI cI km 160 mks, aI cI kd 160 dst, oP q2 b2 o2 (↑n) (↑org) ent ed, aI cI b2 160 pb] → lv_has ls 6 [(1, .int (iZ (↑n))), (0, .ref kq), (2, .int (iZ (↑rd)))] → W p l e rmX1_writeStream s m args below meth c H locs 0 0 Q (F0 m 155 ls []) := by
    intro rd row gp H locs ls hrd hR hp hl
    rw [hR0] at hR
    cases hR
    skip
    refine lv_aload_n hx hb dX1_writeStream_155 rfl (lv_at hl 1 rfl) ?_
    refine z_get hx hb hts hi1 hown hp 0 rfl rfl 1 (by decide) f18 rfl dX1_writeStream_156 ?_
    refine lv_iload_n hx hb dX1_writeStream_159 rfl (lv_at hl 2 rfl) ?_
    refine z_iconst hx hb dX1_writeStream_160 ?_
    refine z_iast hx hb hp 1 rfl (wr) (by omega) dX1_writeStream_161 (ws' := [oK kq q2 ks (C 0) wgp ek kc km kd kl, aI cI ks 163 (upZ wrow wr 0), aI cI km 160 mks, aI cI kd 160 dst, oP q2 b2 o2 (↑n) (↑org) ent ed, aI cI b2 160 pb]) rfl (fun H locs hp => ?_)
    exact hret _ _ _ _ _ _ () (trivial) hp dX1_writeStream_162 (Nat.le_of_ble_eq_true rfl) (Nat.le_of_ble_eq_true rfl)
  have lp4 : ∀ (N_lp4 : Nat) (f gr rd tk : Nat) (row : Nat → Int) (gp : Int) (H : Heap) (locs : List Loc) (ls : Array Slot), (gr ≤ n) → (tk ≤ gr) → (f + tk = n) → ((rd : Int) + C gr = C 0) → (0 ≤ gp ∧ gp ≤ 200) → (wst pb mks dst n (C 0) f gr rd row gp = R) → f < N_lp4 → Hp G cI A s H locs [oK kq q2 ks (C 0) gp ek kc km kd kl, aI cI ks 163 row, aI cI km 160 mks, aI cI kd 160 dst, oP q2 b2 o2 (↑n) (↑org) ent ed, aI cI b2 160 pb] → lv_has ls 6 [(4, .int (iZ (↑tk))), (2, .int (iZ (↑rd))), (3, .int (iZ (↑gr))), (1, .int (iZ (↑n))), (0, .ref kq)] → W p l e rmX1_writeStream s m args below meth c H locs 0 0 Q (F0 m 29 ls []) := by
    intro N_lp4
    induction N_lp4 with
    | zero => intros; exfalso; omega
    | succ N_lp4 ih_lp4 =>
      intro f gr rd tk row gp H locs ls hg1 hg2 hg3 hrd hgp hR hN hp hl
      refine lv_iload hx hb dX1_writeStream_29 (lv_at hl 0 rfl) ?_
      refine lv_iload_n hx hb dX1_writeStream_31 rfl (lv_at hl 3 rfl) ?_
      refine z_icmp_ge (tgt := 155) hx hb dX1_writeStream_32 (by decide) (by omega) (fun h5 => ?_) (fun h5 => ?_)
      · skip
        exact jn1 rd row gp _ _ _ (by rw [show gr = n by omega, h_p.1] at hrd; exact hrd) (by rw [wst_e (by omega)] at hR; exact hR) hp (lv_sub hl [3, 4, 1] rfl)
      · skip
        refine lv_iload_n hx hb dX1_writeStream_35 rfl (lv_at hl 2 rfl) ?_
        refine lv_iload_n hx hb dX1_writeStream_36 rfl (lv_at hl 3 rfl) ?_
        refine z_icmp_ge (tgt := 155) hx hb dX1_writeStream_37 (by decide) (by omega) (fun h6 => ?_) (fun h6 => ?_)
        · skip
          exact jn1 rd row gp _ _ _ (by rw [show gr = n by omega, h_p.1] at hrd; exact hrd) (by rw [wst_e (by omega)] at hR; exact hR) hp (lv_sub hl [3, 4, 1] rfl)
        · skip
          obtain ⟨f, rfl⟩ : ∃ f9, f = f9 + 1 := ⟨f - 1, by omega⟩
          obtain ⟨r1, r2, r3, r4, r5, r6, r7⟩ := PSi_r (by omega) (h_p.2 gr (by omega) (by omega))
          have hcn := (PS_mo h_p (a := gr + (mks gr).toNat) (b := n) (by omega) (by omega) (Nat.le_refl _)).2
          have hcn1 := h_p.1
          refine lv_aload_n hx hb dX1_writeStream_40 rfl (lv_at hl 4 rfl) ?_
          refine z_get hx hb hts hi1 hown hp 0 rfl rfl 6 (by decide) f25 rfl dX1_writeStream_41 ?_
          refine lv_iload_n hx hb dX1_writeStream_44 rfl (lv_at hl 2 rfl) ?_
          refine z_iald hx hb hp 2 rfl (gr) (by omega) dX1_writeStream_45 (mks gr) (rfl) ?_
          refine lv_istore (lv' := [(5, .int (iZ (mks gr))), (4, .int (iZ (↑tk))), (2, .int (iZ (↑rd))), (3, .int (iZ (↑gr))), (1, .int (iZ (↑n))), (0, .ref kq)]) hx hb dX1_writeStream_46 hl (by decide) rfl (fun ls hl => ?_)
          refine lv_aload_n hx hb dX1_writeStream_48 rfl (lv_at hl 5 rfl) ?_
          refine z_get hx hb hts hi1 hown hp 0 rfl rfl 7 (by decide) f28 rfl dX1_writeStream_49 ?_
          refine lv_iload_n hx hb dX1_writeStream_52 rfl (lv_at hl 3 rfl) ?_
          refine z_iald hx hb hp 3 rfl (gr) (by omega) dX1_writeStream_53 (dst gr) (rfl) ?_
          refine z_if_le (tgt := 88) hx hb dX1_writeStream_54 (by decide) (by omega) (fun h7 => ?_) (fun h7 => ?_)
          · skip
            have e6 := r6 (by omega)
            refine lv_aload_n hx hb dX1_writeStream_88 rfl (lv_at hl 5 rfl) ?_
            refine z_get hx hb hts hi1 hown hp 0 rfl rfl 1 (by decide) f18 rfl dX1_writeStream_89 ?_
            refine lv_iload_n hx hb dX1_writeStream_92 rfl (lv_at hl 2 rfl) ?_
            refine lv_iload hx hb dX1_writeStream_93 (lv_at hl 0 rfl) ?_
            refine z_iast hx hb hp 1 rfl (rd) (by omega) dX1_writeStream_95 (ws' := [oK kq q2 ks (C 0) gp ek kc km kd kl, aI cI ks 163 (upZ row rd (mks gr)), aI cI km 160 mks, aI cI kd 160 dst, oP q2 b2 o2 (↑n) (↑org) ent ed, aI cI b2 160 pb]) rfl (fun H locs hp => ?_)
            refine lv_aload_n hx hb dX1_writeStream_96 rfl (lv_at hl 5 rfl) ?_
            refine z_get hx hb hts hi1 hown hp 0 rfl rfl 0 (by decide) f12 rfl dX1_writeStream_97 ?_
            refine z_get hx hb hts hi2 hown hp 4 rfl rfl 0 (by decide) f70 rfl dX1_writeStream_100 ?_
            refine lv_iload_n hx hb dX1_writeStream_103 rfl (lv_at hl 3 rfl) ?_
            refine lv_aload_n hx hb dX1_writeStream_104 rfl (lv_at hl 5 rfl) ?_
            refine z_get hx hb hts hi1 hown hp 0 rfl rfl 1 (by decide) f18 rfl dX1_writeStream_105 ?_
            refine lv_iload_n hx hb dX1_writeStream_108 rfl (lv_at hl 2 rfl) ?_
            refine z_iconst hx hb dX1_writeStream_109 ?_
            refine z_iadd hx hb ((↑rd) + 1) (rfl) dX1_writeStream_110 ?_
            refine lv_iload hx hb dX1_writeStream_111 (lv_at hl 0 rfl) ?_
            refine z_copy hx hb (by rw [hml]; exact hl.1.symm) hown m82 na sa is hp 5 1 rfl rfl (gr) (rd + 1) ((mks gr).toNat) (by omega) (by omega) (by omega) (by omega) (Nat.le_of_ble_eq_true rfl) (Nat.le_of_ble_eq_true rfl) dX1_writeStream_113 (ws' := [oK kq q2 ks (C 0) gp ek kc km kd kl, aI cI ks 163 (cpZ pb (upZ row rd (mks gr)) gr (rd + 1) ((mks gr).toNat)), aI cI km 160 mks, aI cI kd 160 dst, oP q2 b2 o2 (↑n) (↑org) ent ed, aI cI b2 160 pb]) rfl (fun H locs hp => ?_)
            refine lv_iload_n hx hb dX1_writeStream_116 rfl (lv_at hl 2 rfl) ?_
            refine z_iconst hx hb dX1_writeStream_117 ?_
            refine lv_iload hx hb dX1_writeStream_118 (lv_at hl 0 rfl) ?_
            refine z_iadd hx hb (1 + (mks gr)) (rfl) dX1_writeStream_120 ?_
            refine z_iadd hx hb (↑(rd + 1 + (mks gr).toNat)) (by omega) dX1_writeStream_121 ?_
            refine lv_istore_n (lv' := [(2, .int (iZ (↑(rd + 1 + (mks gr).toNat)))), (5, .int (iZ (mks gr))), (4, .int (iZ (↑tk))), (3, .int (iZ (↑gr))), (1, .int (iZ (↑n))), (0, .ref kq)]) hx hb dX1_writeStream_122 rfl hl (by decide) rfl (fun ls hl => ?_)
            refine lv_iload_n hx hb dX1_writeStream_123 rfl (lv_at hl 3 rfl) ?_
            refine lv_iload hx hb dX1_writeStream_124 (lv_at hl 1 rfl) ?_
            refine z_iadd hx hb (↑(gr + (mks gr).toNat)) (by omega) dX1_writeStream_126 ?_
            refine lv_istore_n (lv' := [(3, .int (iZ (↑(gr + (mks gr).toNat)))), (2, .int (iZ (↑(rd + 1 + (mks gr).toNat)))), (5, .int (iZ (mks gr))), (4, .int (iZ (↑tk))), (1, .int (iZ (↑n))), (0, .ref kq)]) hx hb dX1_writeStream_127 rfl hl (by decide) rfl (fun ls hl => ?_)
            refine lv_aload_n hx hb dX1_writeStream_128 rfl (lv_at hl 5 rfl) ?_
            refine lv_aload_n hx hb dX1_writeStream_129 rfl (lv_at hl 5 rfl) ?_
            refine z_get hx hb hts hi1 hown hp 0 rfl rfl 3 (by decide) f44 rfl dX1_writeStream_130 ?_
            refine lv_iload_n hx hb dX1_writeStream_133 rfl (lv_at hl 0 rfl) ?_
            refine lv_iload_n hx hb dX1_writeStream_134 rfl (lv_at hl 4 rfl) ?_
            refine z_isub hx hb ((↑(gr + (mks gr).toNat)) - (↑n)) (rfl) dX1_writeStream_135 ?_
            refine lv_aload_n hx hb dX1_writeStream_136 rfl (lv_at hl 5 rfl) ?_
            refine z_get hx hb hts hi1 hown hp 0 rfl rfl 2 (by decide) f64 rfl dX1_writeStream_137 ?_
            refine z_iadd hx hb (((↑(gr + (mks gr).toNat)) - (↑n)) + (C 0)) (rfl) dX1_writeStream_140 ?_
            refine lv_iload_n hx hb dX1_writeStream_141 rfl (lv_at hl 1 rfl) ?_
            refine z_isub hx hb ((((↑(gr + (mks gr).toNat)) - (↑n)) + (C 0)) - (↑(rd + 1 + (mks gr).toNat))) (rfl) dX1_writeStream_142 ?_
            refine z_mmax hx hb (by rw [hml]; exact hl.1.symm) hown m79 smax im cmax (Nat.le_of_ble_eq_true rfl) (Nat.le_of_ble_eq_true rfl) (Nat.le_of_ble_eq_true rfl) (Nat.le_of_ble_eq_true rfl) (max gp (↑gr + mks gr - ↑n + C 0 - (↑rd + 1 + mks gr))) (by omega) (by omega) dX1_writeStream_143 ?_
            refine z_put hx hb hts hi1 tyX1 tyX1_ok nmX1 hown hp 0 rfl rfl 3 (by decide) f44 rfl (rfl) (rfl) (Nat.le_of_ble_eq_true rfl) dX1_writeStream_146 (ws' := [oK kq q2 ks (C 0) (max gp (↑gr + mks gr - ↑n + C 0 - (↑rd + 1 + mks gr))) ek kc km kd kl, aI cI ks 163 (cpZ pb (upZ row rd (mks gr)) gr (rd + 1) ((mks gr).toNat)), aI cI km 160 mks, aI cI kd 160 dst, oP q2 b2 o2 (↑n) (↑org) ent ed, aI cI b2 160 pb]) rfl (fun H locs hp => ?_)
            refine z_iinc (k := 3) (lv' := [(4, .int (iZ (↑(tk + 1)))), (3, .int (iZ (↑(gr + (mks gr).toNat)))), (2, .int (iZ (↑(rd + 1 + (mks gr).toNat)))), (5, .int (iZ (mks gr))), (1, .int (iZ (↑n))), (0, .ref kq)]) hx hb (↑(tk + 1)) (by omega) dX1_writeStream_149 hl rfl (by decide) rfl (fun ls hl => ?_)
            refine lv_goto (tgt := 29) hx hb dX1_writeStream_152 (by decide) ?_
            exact ih_lp4 f (gr + (mks gr).toNat) (rd + 1 + (mks gr).toNat) (tk + 1) (cpZ pb (upZ row rd (mks gr)) gr (rd + 1) (mks gr).toNat) (max gp (↑gr + mks gr - ↑n + C 0 - (↑rd + 1 + mks gr))) _ _ _ (by omega) (by omega) (by omega) (by omega) (by omega) (by rw [wst_r (by omega) (by omega)] at hR; exact hR) (by omega) hp (lv_sub hl [0, 2, 1, 4, 5] rfl)
          · skip
            have e7 := r7 (by omega)
            refine lv_aload_n hx hb dX1_writeStream_57 rfl (lv_at hl 5 rfl) ?_
            refine z_get hx hb hts hi1 hown hp 0 rfl rfl 1 (by decide) f18 rfl dX1_writeStream_58 ?_
            refine lv_iload_n hx hb dX1_writeStream_61 rfl (lv_at hl 2 rfl) ?_
            refine lv_iload hx hb dX1_writeStream_62 (lv_at hl 0 rfl) ?_
            refine z_bipush hx hb dX1_writeStream_64 (by decide +kernel) ?_
            refine z_iadd hx hb ((mks gr) + 126) (rfl) dX1_writeStream_66 ?_
            refine z_iast hx hb hp 1 rfl (rd) (by omega) dX1_writeStream_67 (ws' := [oK kq q2 ks (C 0) gp ek kc km kd kl, aI cI ks 163 (upZ row rd ((mks gr) + 126)), aI cI km 160 mks, aI cI kd 160 dst, oP q2 b2 o2 (↑n) (↑org) ent ed, aI cI b2 160 pb]) rfl (fun H locs hp => ?_)
            refine lv_aload_n hx hb dX1_writeStream_68 rfl (lv_at hl 5 rfl) ?_
            refine z_get hx hb hts hi1 hown hp 0 rfl rfl 1 (by decide) f18 rfl dX1_writeStream_69 ?_
            refine lv_iload_n hx hb dX1_writeStream_72 rfl (lv_at hl 2 rfl) ?_
            refine z_iconst hx hb dX1_writeStream_73 ?_
            refine z_iadd hx hb ((↑rd) + 1) (rfl) dX1_writeStream_74 ?_
            refine lv_aload_n hx hb dX1_writeStream_75 rfl (lv_at hl 5 rfl) ?_
            refine z_get hx hb hts hi1 hown hp 0 rfl rfl 7 (by decide) f28 rfl dX1_writeStream_76 ?_
            refine lv_iload_n hx hb dX1_writeStream_79 rfl (lv_at hl 3 rfl) ?_
            refine z_iald hx hb hp 3 rfl (gr) (by omega) dX1_writeStream_80 (dst gr) (rfl) ?_
            refine z_iast hx hb hp 1 rfl (rd + 1) (by omega) dX1_writeStream_81 (ws' := [oK kq q2 ks (C 0) gp ek kc km kd kl, aI cI ks 163 (upZ (upZ row rd ((mks gr) + 126)) (rd + 1) (dst gr)), aI cI km 160 mks, aI cI kd 160 dst, oP q2 b2 o2 (↑n) (↑org) ent ed, aI cI b2 160 pb]) rfl (fun H locs hp => ?_)
            refine z_iinc (k := 2) (lv' := [(2, .int (iZ (↑(rd + 2)))), (5, .int (iZ (mks gr))), (4, .int (iZ (↑tk))), (3, .int (iZ (↑gr))), (1, .int (iZ (↑n))), (0, .ref kq)]) hx hb (↑(rd + 2)) (by omega) dX1_writeStream_82 hl rfl (by decide) rfl (fun ls hl => ?_)
            refine lv_goto (tgt := 123) hx hb dX1_writeStream_85 (by decide) ?_
            refine lv_iload_n hx hb dX1_writeStream_123 rfl (lv_at hl 3 rfl) ?_
            refine lv_iload hx hb dX1_writeStream_124 (lv_at hl 1 rfl) ?_
            refine z_iadd hx hb (↑(gr + (mks gr).toNat)) (by omega) dX1_writeStream_126 ?_
            refine lv_istore_n (lv' := [(3, .int (iZ (↑(gr + (mks gr).toNat)))), (2, .int (iZ (↑(rd + 2)))), (5, .int (iZ (mks gr))), (4, .int (iZ (↑tk))), (1, .int (iZ (↑n))), (0, .ref kq)]) hx hb dX1_writeStream_127 rfl hl (by decide) rfl (fun ls hl => ?_)
            refine lv_aload_n hx hb dX1_writeStream_128 rfl (lv_at hl 5 rfl) ?_
            refine lv_aload_n hx hb dX1_writeStream_129 rfl (lv_at hl 5 rfl) ?_
            refine z_get hx hb hts hi1 hown hp 0 rfl rfl 3 (by decide) f44 rfl dX1_writeStream_130 ?_
            refine lv_iload_n hx hb dX1_writeStream_133 rfl (lv_at hl 0 rfl) ?_
            refine lv_iload_n hx hb dX1_writeStream_134 rfl (lv_at hl 4 rfl) ?_
            refine z_isub hx hb ((↑(gr + (mks gr).toNat)) - (↑n)) (rfl) dX1_writeStream_135 ?_
            refine lv_aload_n hx hb dX1_writeStream_136 rfl (lv_at hl 5 rfl) ?_
            refine z_get hx hb hts hi1 hown hp 0 rfl rfl 2 (by decide) f64 rfl dX1_writeStream_137 ?_
            refine z_iadd hx hb (((↑(gr + (mks gr).toNat)) - (↑n)) + (C 0)) (rfl) dX1_writeStream_140 ?_
            refine lv_iload_n hx hb dX1_writeStream_141 rfl (lv_at hl 1 rfl) ?_
            refine z_isub hx hb ((((↑(gr + (mks gr).toNat)) - (↑n)) + (C 0)) - (↑(rd + 2))) (rfl) dX1_writeStream_142 ?_
            refine z_mmax hx hb (by rw [hml]; exact hl.1.symm) hown m79 smax im cmax (Nat.le_of_ble_eq_true rfl) (Nat.le_of_ble_eq_true rfl) (Nat.le_of_ble_eq_true rfl) (Nat.le_of_ble_eq_true rfl) (max gp (↑gr + mks gr - ↑n + C 0 - (↑rd + 2))) (by omega) (by omega) dX1_writeStream_143 ?_
            refine z_put hx hb hts hi1 tyX1 tyX1_ok nmX1 hown hp 0 rfl rfl 3 (by decide) f44 rfl (rfl) (rfl) (Nat.le_of_ble_eq_true rfl) dX1_writeStream_146 (ws' := [oK kq q2 ks (C 0) (max gp (↑gr + mks gr - ↑n + C 0 - (↑rd + 2))) ek kc km kd kl, aI cI ks 163 (upZ (upZ row rd ((mks gr) + 126)) (rd + 1) (dst gr)), aI cI km 160 mks, aI cI kd 160 dst, oP q2 b2 o2 (↑n) (↑org) ent ed, aI cI b2 160 pb]) rfl (fun H locs hp => ?_)
            refine z_iinc (k := 3) (lv' := [(4, .int (iZ (↑(tk + 1)))), (3, .int (iZ (↑(gr + (mks gr).toNat)))), (2, .int (iZ (↑(rd + 2)))), (5, .int (iZ (mks gr))), (1, .int (iZ (↑n))), (0, .ref kq)]) hx hb (↑(tk + 1)) (by omega) dX1_writeStream_149 hl rfl (by decide) rfl (fun ls hl => ?_)
            refine lv_goto (tgt := 29) hx hb dX1_writeStream_152 (by decide) ?_
            exact ih_lp4 f (gr + (mks gr).toNat) (rd + 2) (tk + 1) (upZ (upZ row rd (mks gr + 126)) (rd + 1) (dst gr)) (max gp (↑gr + mks gr - ↑n + C 0 - (↑rd + 2))) _ _ _ (by omega) (by omega) (by omega) (by omega) (by omega) (by rw [wst_c (by omega) (by omega)] at hR; exact hR) (by omega) hp (lv_sub hl [0, 2, 1, 4, 5] rfl)
  exact lp4 _ n 0 0 0 strm (max 0 (C 0 - ↑n)) _ _ _ (by omega) (by omega) (by omega) (by omega) (by omega) (h_w) (Nat.lt_succ_self _) hp (lv_sub hl [0, 2, 1, 3, 4] rfl)
abbrev rmX1_refresh : Room := { frames := 2, cells := 0, slots := 0, locals := 110 }
set_option maxRecDepth 100000 in
set_option maxHeartbeats 4000000 in
theorem c_X1_refresh (l : Launch) (G : va_G) (cI : ClassId) (sz : Nat) (kq ks kc km kd kl : Nat) (q2 b2 o2 : Nat) (strm cst mks dst lks pb : Nat → Int) (n org : Nat) (ln gp ek ent ed : Int) (h_n : n ≤ 160) (h_b : BB pb 160) (h_e : rg ek ∧ rg ed) (h_f : ek = ed → Fresh pb n ln gp strm) : Met l yX1_refresh wsX1_refresh rmX1_refresh (zPre G cI [oK kq q2 ks ln gp ek kc km kd kl, aI cI ks 163 strm, aI cI kc 161 cst, aI cI km 160 mks, aI cI kd 160 dst, aI cI kl 160 lks, oP q2 b2 o2 (↑n) (↑org) ent ed, aI cI b2 160 pb] sz [.ref kq]) (va_Qv (fun (u : Int × Int × (Nat → Int) × (Nat → Int) × (Nat → Int) × (Nat → Int) × (Nat → Int)) => Fresh pb n u.1 u.2.1 u.2.2.1) (fun (u : Int × Int × (Nat → Int) × (Nat → Int) × (Nat → Int) × (Nat → Int) × (Nat → Int)) t => zB G cI (va_A [oK kq q2 ks ln gp ek kc km kd kl, aI cI ks 163 strm, aI cI kc 161 cst, aI cI km 160 mks, aI cI kd 160 dst, aI cI kl 160 lks, oP q2 b2 o2 (↑n) (↑org) ent ed, aI cI b2 160 pb] sz) [oK kq q2 ks u.1 u.2.1 ed kc km kd kl, aI cI ks 163 u.2.2.1, aI cI kc 161 u.2.2.2.1, aI cI km 160 u.2.2.2.2.1, aI cI kd 160 u.2.2.2.2.2.1, aI cI kl 160 u.2.2.2.2.2.2, oP q2 b2 o2 (↑n) (↑org) ent ed, aI cI b2 160 pb] t) (va_A [oK kq q2 ks ln gp ek kc km kd kl, aI cI ks 163 strm, aI cI kc 161 cst, aI cI km 160 mks, aI cI kd 160 dst, aI cI kl 160 lks, oP q2 b2 o2 (↑n) (↑org) ent ed, aI cI b2 160 pb] sz)) 0 0 (va_A [oK kq q2 ks ln gp ek kc km kd kl, aI cI ks 163 strm, aI cI kc 161 cst, aI cI km 160 mks, aI cI kd 160 dst, aI cI kl 160 lks, oP q2 b2 o2 (↑n) (↑org) ent ed, aI cI b2 160 pb] sz) := by
  refine zm_v (W1 := fun (u : Int × Int × (Nat → Int) × (Nat → Int) × (Nat → Int) × (Nat → Int) × (Nat → Int)) => [oK kq q2 ks u.1 u.2.1 ed kc km kd kl, aI cI ks 163 u.2.2.1, aI cI kc 161 u.2.2.2.1, aI cI km 160 u.2.2.2.2.1, aI cI kd 160 u.2.2.2.2.2.1, aI cI kl 160 u.2.2.2.2.2.2, oP q2 b2 o2 (↑n) (↑org) ent ed, aI cI b2 160 pb]) (cc := cX1_refresh) (maxL := 3) (by decide) rfl (Nat.le_of_ble_eq_true rfl) ?_
  intro p e s m args below meth c A Q ls hsz hx hb hml hown hts hnm hret hp hl
  have hl : lv_has ls 3 [(0, .ref kq)] := hl
  have hi1 : ∀ w ∈ wsX10, w ∈ wsX1_refresh := fun w h => List.mem_cons_of_mem _ (List.mem_append_left _ (List.mem_append_right _ (h)))
  have f34 := hts (.fieldLink RX1 34 "SelfOpener$Packing" "edition" "I") (List.mem_of_getElem? (i := 1) rfl)
  have f12 := hts (.fieldLink RX1 12 "SelfOpener$Packing" "program" "LSelfOpener$Program;") (List.mem_of_getElem? (i := 2) rfl)
  have hi2 : ∀ w ∈ wsX20, w ∈ wsX1_refresh := fun w h => List.mem_cons_of_mem _ (List.mem_append_right _ (h))
  have f56 := hts (.fieldLink RX1 56 "SelfOpener$Program" "edition" "I") (List.mem_of_getElem? (i := 3) rfl)
  have f41 := hts (.fieldLink RX1 41 "SelfOpener$Program" "size" "I") (List.mem_of_getElem? (i := 4) rfl)
  have f22 := hts (.fieldLink RX1 22 "SelfOpener$Packing" "cost" "[I") (List.mem_of_getElem? (i := 6) rfl)
  have f64 := hts (.fieldLink RX1 64 "SelfOpener$Packing" "length" "I") (List.mem_of_getElem? (i := 7) rfl)
  have f31 := hts (.fieldLink RX1 31 "SelfOpener$Packing" "alike" "[I") (List.mem_of_getElem? (i := 5) rfl)
  suffices hw : ∀ (H : Heap) (locs : List Loc), Hp G cI A s H locs [oK kq q2 ks ln gp ek kc km kd kl, aI cI ks 163 strm, aI cI kc 161 cst, aI cI km 160 mks, aI cI kd 160 dst, aI cI kl 160 lks, oP q2 b2 o2 (↑n) (↑org) ent ed, aI cI b2 160 pb] → W p l e rmX1_refresh s m args below meth c H locs 0 0 Q (F0 m 0 ls []) from hw _ _ hp
  clear hp; intro H locs hp
  refine lv_aload_n hx hb dX1_refresh_0 rfl (lv_at hl 0 rfl) ?_
  refine z_get hx hb hts hi1 hown hp 0 rfl rfl 4 (by decide) f34 rfl dX1_refresh_1 ?_
  refine lv_aload_n hx hb dX1_refresh_4 rfl (lv_at hl 0 rfl) ?_
  refine z_get hx hb hts hi1 hown hp 0 rfl rfl 0 (by decide) f12 rfl dX1_refresh_5 ?_
  refine z_get hx hb hts hi2 hown hp 6 rfl rfl 5 (by decide) f56 rfl dX1_refresh_8 ?_
  refine z_icmp_ne (tgt := 15) hx hb dX1_refresh_11 (by decide) (by omega) (fun h1 => ?_) (fun h1 => ?_)
  · skip
    refine lv_aload_n hx hb dX1_refresh_15 rfl (lv_at hl 0 rfl) ?_
    refine z_get hx hb hts hi1 hown hp 0 rfl rfl 0 (by decide) f12 rfl dX1_refresh_16 ?_
    refine z_get hx hb hts hi2 hown hp 6 rfl rfl 2 (by decide) f41 rfl dX1_refresh_19 ?_
    refine lv_istore_n (lv' := [(1, .int (iZ (↑n))), (0, .ref kq)]) hx hb dX1_refresh_22 rfl hl (by decide) rfl (fun ls hl => ?_)
    refine z_iconst hx hb dX1_refresh_23 ?_
    refine lv_istore_n (lv' := [(2, .int (iZ (0))), (1, .int (iZ (↑n))), (0, .ref kq)]) hx hb dX1_refresh_24 rfl hl (by decide) rfl (fun ls hl => ?_)
    have lp2 : ∀ (N_lp2 : Nat) (i : Nat) (f : Nat → Int) (H : Heap) (locs : List Loc) (ls : Array Slot), (i ≤ 160) → (∀ j, j < i → f j = 0) → (160 - i) < N_lp2 → Hp G cI A s H locs [oK kq q2 ks ln gp ek kc km kd kl, aI cI ks 163 strm, aI cI kc 161 cst, aI cI km 160 mks, aI cI kd 160 dst, aI cI kl 160 f, oP q2 b2 o2 (↑n) (↑org) ent ed, aI cI b2 160 pb] → lv_has ls 3 [(2, .int (iZ (↑i))), (1, .int (iZ (↑n))), (0, .ref kq)] → W p l e rmX1_refresh s m args below meth c H locs 0 0 Q (F0 m 25 ls []) := by
      intro N_lp2
      induction N_lp2 with
      | zero => intros; exfalso; omega
      | succ N_lp2 ih_lp2 =>
        intro i f H locs ls hi hf hN hp hl
        refine lv_iload_n hx hb dX1_refresh_25 rfl (lv_at hl 0 rfl) ?_
        refine z_sipush hx hb dX1_refresh_26 (by decide +kernel) ?_
        refine z_icmp_ge (tgt := 45) hx hb dX1_refresh_29 (by decide) (by omega) (fun h3 => ?_) (fun h3 => ?_)
        · skip
          have hp := z_alike hp 5 rfl (fun _ => 0) (fun j hj => (hf j (by omega)).symm) (ws' := [oK kq q2 ks ln gp ek kc km kd kl, aI cI ks 163 strm, aI cI kc 161 cst, aI cI km 160 mks, aI cI kd 160 dst, aI cI kl 160 (fun _ => 0), oP q2 b2 o2 (↑n) (↑org) ent ed, aI cI b2 160 pb]) rfl
          refine lv_aload_n hx hb dX1_refresh_45 rfl (lv_at hl 2 rfl) ?_
          refine z_get hx hb hts hi1 hown hp 0 rfl rfl 5 (by decide) f22 rfl dX1_refresh_46 ?_
          refine lv_iload_n hx hb dX1_refresh_49 rfl (lv_at hl 1 rfl) ?_
          refine z_iconst hx hb dX1_refresh_50 ?_
          refine z_iast hx hb hp 2 rfl (n) (by omega) dX1_refresh_51 (ws' := [oK kq q2 ks ln gp ek kc km kd kl, aI cI ks 163 strm, aI cI kc 161 (upZ cst n 1), aI cI km 160 mks, aI cI kd 160 dst, aI cI kl 160 (fun _ => 0), oP q2 b2 o2 (↑n) (↑org) ent ed, aI cI b2 160 pb]) rfl (fun H locs hp => ?_)
          refine lv_iload_n hx hb dX1_refresh_52 rfl (lv_at hl 1 rfl) ?_
          refine z_iconst hx hb dX1_refresh_53 ?_
          refine z_isub hx hb ((↑n) - 1) (rfl) dX1_refresh_54 ?_
          refine lv_istore_n (lv' := [(2, .int (iZ ((↑n) - 1))), (1, .int (iZ (↑n))), (0, .ref kq)]) hx hb dX1_refresh_55 rfl hl (by decide) rfl (fun ls hl => ?_)
          have lp4 : ∀ (N_lp4 : Nat) (k : Nat) (C M D lk : Nat → Int) (H : Heap) (locs : List Loc) (ls : Array Slot), (k ≤ n) → (PS pb n C M D k) → (∀ d, 1 ≤ d → d ≤ k - 1 → lk d = ↑(al pb n k d)) → k < N_lp4 → Hp G cI A s H locs [oK kq q2 ks ln gp ek kc km kd kl, aI cI ks 163 strm, aI cI kc 161 C, aI cI km 160 M, aI cI kd 160 D, aI cI kl 160 lk, oP q2 b2 o2 (↑n) (↑org) ent ed, aI cI b2 160 pb] → lv_has ls 3 [(2, .int (iZ (↑k - 1))), (1, .int (iZ (↑n))), (0, .ref kq)] → W p l e rmX1_refresh s m args below meth c H locs 0 0 Q (F0 m 56 ls []) := by
            intro N_lp4
            induction N_lp4 with
            | zero => intros; exfalso; omega
            | succ N_lp4 ih_lp4 =>
              intro k C M D lk H locs ls hk hP hL hN hp hl
              refine lv_iload_n hx hb dX1_refresh_56 rfl (lv_at hl 0 rfl) ?_
              refine z_if_lt (tgt := 76) hx hb dX1_refresh_57 (by decide) (by omega) (fun h5 => ?_) (fun h5 => ?_)
              · skip
                obtain rfl : k = 0 := by omega
                obtain ⟨wr, wrow, wgp, hw9⟩ : ∃ (wr : Nat) (wrow : Nat → Int) (wgp : Int), wst pb M D n (C 0) n 0 0 strm (max 0 (C 0 - ↑n)) = (wr, wrow, wgp) := ⟨_, _, _, rfl⟩
                refine lv_aload_n hx hb dX1_refresh_76 rfl (lv_at hl 2 rfl) ?_
                refine lv_aload_n hx hb dX1_refresh_77 rfl (lv_at hl 2 rfl) ?_
                refine z_get hx hb hts hi1 hown hp 0 rfl rfl 5 (by decide) f22 rfl dX1_refresh_78 ?_
                refine z_iconst hx hb dX1_refresh_81 ?_
                refine z_iald hx hb hp 2 rfl (0) (by omega) dX1_refresh_82 (C 0) (rfl) ?_
                refine z_put hx hb hts hi1 tyX1 tyX1_ok nmX1 hown hp 0 rfl rfl 2 (by decide) f64 rfl (rfl) (rfl) (Nat.le_of_ble_eq_true rfl) dX1_refresh_83 (ws' := [oK kq q2 ks (C 0) gp ek kc km kd kl, aI cI ks 163 strm, aI cI kc 161 C, aI cI km 160 M, aI cI kd 160 D, aI cI kl 160 lk, oP q2 b2 o2 (↑n) (↑org) ent ed, aI cI b2 160 pb]) rfl (fun H locs hp => ?_)
                refine lv_aload_n hx hb dX1_refresh_86 rfl (lv_at hl 2 rfl) ?_
                refine zc_v (wr := [aI cI kc 161 C, aI cI kl 160 lk]) (W0 := [oK kq q2 ks (C 0) gp ek kc km kd kl, aI cI ks 163 strm, aI cI km 160 M, aI cI kd 160 D, oP q2 b2 o2 (↑n) (↑org) ent ed, aI cI b2 160 pb]) (wl2 := fun (u : Unit) => [oK kq q2 ks (C 0) wgp ek kc km kd kl, aI cI ks 163 (upZ wrow wr 0), aI cI kc 161 C, aI cI km 160 M, aI cI kd 160 D, aI cI kl 160 lk, oP q2 b2 o2 (↑n) (↑org) ent ed, aI cI b2 160 pb]) (As := []) (rest := []) hx hb hml hown hts hp (c_X1_writeStream l G cI H.size kq ks kc km kd kl q2 b2 o2 strm M D pb C wrow n org wr (C 0) gp ek ent ed wgp (by omega) (h_b) (hP) (rfl) (hw9)) zPre_blind (z_pre hp [0, 1, 3, 4, 6, 7] rfl (by decide) [.ref kq]) (cwV 0 hts gX1_refresh_X1_writeStream rfl rfl rfl (by decide +kernel) ⟨Nat.le_of_ble_eq_true rfl, Nat.le_of_ble_eq_true rfl⟩) [0, 1, 3, 4, 6, 7] [2, 5] [2, 3, 0, 4, 5, 1, 6, 7] rfl rfl ⟨by decide, by decide, by decide⟩ (fun _ => rfl) 0 1 rfl rfl rfl rfl hl.1 rfl (Nat.le_of_ble_eq_true rfl) dX1_refresh_87 ⟨Nat.le_of_ble_eq_true rfl, Nat.le_of_ble_eq_true rfl⟩ (fun u H locs hq6 hp => ?_)
                refine lv_aload_n hx hb dX1_refresh_90 rfl (lv_at hl 2 rfl) ?_
                refine lv_aload_n hx hb dX1_refresh_91 rfl (lv_at hl 2 rfl) ?_
                refine z_get hx hb hts hi1 hown hp 0 rfl rfl 0 (by decide) f12 rfl dX1_refresh_92 ?_
                refine z_get hx hb hts hi2 hown hp 6 rfl rfl 5 (by decide) f56 rfl dX1_refresh_95 ?_
                refine z_put hx hb hts hi1 tyX1 tyX1_ok nmX1 hown hp 0 rfl rfl 4 (by decide) f34 rfl (rfl) (rfl) (Nat.le_of_ble_eq_true rfl) dX1_refresh_98 (ws' := [oK kq q2 ks (C 0) wgp ed kc km kd kl, aI cI ks 163 (upZ wrow wr 0), aI cI kc 161 C, aI cI km 160 M, aI cI kd 160 D, aI cI kl 160 lk, oP q2 b2 o2 (↑n) (↑org) ent ed, aI cI b2 160 pb]) rfl (fun H locs hp => ?_)
                exact hret _ _ _ _ _ _ (C 0, wgp, upZ wrow wr 0, C, M, D, lk) (⟨C, M, D, strm, hP, rfl, by rw [hw9], fun j _ => by rw [hw9]⟩) hp dX1_refresh_101 (Nat.le_of_ble_eq_true rfl) (Nat.le_of_ble_eq_true rfl)
              · skip
                obtain ⟨i, rfl⟩ : ∃ i, k = i + 1 := ⟨k - 1, by omega⟩
                have hcb : ∀ j, i < j → j ≤ n → 1 ≤ C j ∧ C j ≤ 400 := fun j h1 h2 => ⟨(PS_mo hP (a := j) (b := j) (by omega) (Nat.le_refl _) h2).1, by have := PS_up hP (n - j) j (by omega) (by omega); omega⟩
                have hl : lv_has ls 3 [(2, .int (iZ (↑i))), (1, .int (iZ (↑n))), (0, .ref kq)] := by
                  have e9 : ([(2, .int (iZ (↑(i + 1) - 1))), (1, .int (iZ (↑n))), (0, .ref kq)] : List (Nat × Value)) = [(2, .int (iZ (↑i))), (1, .int (iZ (↑n))), (0, .ref kq)] := by rw [show ((i + 1 : Nat) : Int) - 1 = ↑i by omega]
                  rw [← e9]; exact hl
                refine lv_aload_n hx hb dX1_refresh_60 rfl (lv_at hl 2 rfl) ?_
                refine lv_iload_n hx hb dX1_refresh_61 rfl (lv_at hl 0 rfl) ?_
                refine zc_v (wr := [aI cI ks 163 strm, aI cI kc 161 C]) (W0 := [oK kq q2 ks ln gp ek kc km kd kl, aI cI km 160 M, aI cI kd 160 D, aI cI kl 160 lk, oP q2 b2 o2 (↑n) (↑org) ent ed, aI cI b2 160 pb]) (wl2 := fun (u : (Nat → Int) × Nat × Nat) => [oK kq q2 ks ln gp ek kc km kd kl, aI cI ks 163 strm, aI cI kc 161 C, aI cI km 160 (upZ M i (↑u.2.1)), aI cI kd 160 (upZ D i (↑u.2.2)), aI cI kl 160 u.1, oP q2 b2 o2 (↑n) (↑org) ent ed, aI cI b2 160 pb]) (As := [.int (iZ (↑i))]) (rest := []) hx hb hml hown hts hp (c_X1_findCopy l G cI H.size kq ks kc km kd kl q2 b2 o2 M D lk pb n org i ln gp ek ent ed (by omega) (by omega) (h_b) (fun d h1 h2 => hL d h1 (by omega))) zPre_blind (z_pre hp [0, 3, 4, 5, 6, 7] rfl (by decide) [.ref kq, .int (iZ (↑i))]) (cwV 1 hts gX1_refresh_X1_findCopy rfl rfl rfl (by decide +kernel) ⟨Nat.le_of_ble_eq_true rfl, Nat.le_of_ble_eq_true rfl⟩) [0, 3, 4, 5, 6, 7] [1, 2] [2, 0, 1, 3, 4, 5, 6, 7] rfl rfl ⟨by decide, by decide, by decide⟩ (fun _ => rfl) 0 1 rfl rfl rfl rfl hl.1 rfl (Nat.le_of_ble_eq_true rfl) dX1_refresh_62 ⟨Nat.le_of_ble_eq_true rfl, Nat.le_of_ble_eq_true rfl⟩ (fun u4 H locs hq7 hp => ?_)
                have hq4 := hq7
                refine lv_aload_n hx hb dX1_refresh_65 rfl (lv_at hl 2 rfl) ?_
                refine lv_iload_n hx hb dX1_refresh_66 rfl (lv_at hl 0 rfl) ?_
                refine zc_v (wr := [aI cI ks 163 strm, aI cI kl 160 u4.1, aI cI b2 160 pb]) (W0 := [oK kq q2 ks ln gp ek kc km kd kl, aI cI kc 161 C, aI cI km 160 (upZ M i (↑u4.2.1)), aI cI kd 160 (upZ D i (↑u4.2.2)), oP q2 b2 o2 (↑n) (↑org) ent ed]) (wl2 := fun (u : Int × Int × Int) => [oK kq q2 ks ln gp ek kc km kd kl, aI cI ks 163 strm, aI cI kc 161 (upZ C i u.2.2), aI cI km 160 (upZ (upZ M i (↑u4.2.1)) i u.1), aI cI kd 160 (upZ (upZ D i (↑u4.2.2)) i u.2.1), aI cI kl 160 u4.1, oP q2 b2 o2 (↑n) (↑org) ent ed, aI cI b2 160 pb]) (As := [.int (iZ (↑i))]) (rest := []) hx hb hml hown hts hp (c_X1_chooseToken l G cI H.size kq ks kc km kd kl q2 b2 o2 (upZ M i (↑u4.2.1)) (upZ D i (↑u4.2.2)) C pb n org i u4.2.1 u4.2.2 ln gp ek ent ed (by omega) (by omega) (upZ_s _ _ _) (upZ_s _ _ _) (hq4.1) (hcb)) zPre_blind (z_pre hp [0, 2, 3, 4, 6] rfl (by decide) [.ref kq, .int (iZ (↑i))]) (cwV 1 hts gX1_refresh_X1_chooseToken rfl rfl rfl (by decide +kernel) ⟨Nat.le_of_ble_eq_true rfl, Nat.le_of_ble_eq_true rfl⟩) [0, 2, 3, 4, 6] [1, 5, 7] [3, 0, 4, 5, 6, 1, 7, 2] rfl rfl ⟨by decide, by decide, by decide⟩ (fun _ => rfl) 0 1 rfl rfl rfl rfl hl.1 rfl (Nat.le_of_ble_eq_true rfl) dX1_refresh_67 ⟨Nat.le_of_ble_eq_true rfl, Nat.le_of_ble_eq_true rfl⟩ (fun u5 H locs hq8 hp => ?_)
                have hq5 : PSi pb n C i u5.1 u5.2.1 u5.2.2 := hq8
                have hp := z_alike hp 3 rfl (upZ M i u5.1) (fun j _ => by rw [upZ_u]) (ws' := [oK kq q2 ks ln gp ek kc km kd kl, aI cI ks 163 strm, aI cI kc 161 (upZ C i u5.2.2), aI cI km 160 (upZ M i u5.1), aI cI kd 160 (upZ (upZ D i (↑u4.2.2)) i u5.2.1), aI cI kl 160 u4.1, oP q2 b2 o2 (↑n) (↑org) ent ed, aI cI b2 160 pb]) rfl
                have hp := z_alike hp 4 rfl (upZ D i u5.2.1) (fun j _ => by rw [upZ_u]) (ws' := [oK kq q2 ks ln gp ek kc km kd kl, aI cI ks 163 strm, aI cI kc 161 (upZ C i u5.2.2), aI cI km 160 (upZ M i u5.1), aI cI kd 160 (upZ D i u5.2.1), aI cI kl 160 u4.1, oP q2 b2 o2 (↑n) (↑org) ent ed, aI cI b2 160 pb]) rfl
                refine z_iinc (k := 0) (lv' := [(2, .int (iZ (↑i - 1))), (1, .int (iZ (↑n))), (0, .ref kq)]) hx hb (↑i - 1) (by omega) dX1_refresh_70 hl rfl (by decide) rfl (fun ls hl => ?_)
                refine lv_goto (tgt := 56) hx hb dX1_refresh_73 (by decide) ?_
                exact ih_lp4 i (upZ C i u5.2.2) (upZ M i u5.1) (upZ D i u5.2.1) u4.1 _ _ _ (by omega) (PS_add hP (by omega) hq5) (fun d h1 h2 => hq4.2 d h1 (by omega)) (by omega) hp (lv_sub hl [0, 1, 2] rfl)
          exact lp4 _ n (upZ cst n 1) mks dst (fun _ => 0) _ _ _ (by omega) (⟨upZ_s _ _ _, fun j h1 h2 => by omega⟩) (fun d h1 h2 => by rw [al_n]; rfl) (Nat.lt_succ_self _) hp (lv_sub hl [0, 1, 2] rfl)
        · skip
          refine lv_aload_n hx hb dX1_refresh_32 rfl (lv_at hl 2 rfl) ?_
          refine z_get hx hb hts hi1 hown hp 0 rfl rfl 8 (by decide) f31 rfl dX1_refresh_33 ?_
          refine lv_iload_n hx hb dX1_refresh_36 rfl (lv_at hl 0 rfl) ?_
          refine z_iconst hx hb dX1_refresh_37 ?_
          refine z_iast hx hb hp 5 rfl (i) (by omega) dX1_refresh_38 (ws' := [oK kq q2 ks ln gp ek kc km kd kl, aI cI ks 163 strm, aI cI kc 161 cst, aI cI km 160 mks, aI cI kd 160 dst, aI cI kl 160 (upZ f i 0), oP q2 b2 o2 (↑n) (↑org) ent ed, aI cI b2 160 pb]) rfl (fun H locs hp => ?_)
          refine z_iinc (k := 0) (lv' := [(2, .int (iZ (↑(i + 1)))), (1, .int (iZ (↑n))), (0, .ref kq)]) hx hb (↑(i + 1)) (by omega) dX1_refresh_39 hl rfl (by decide) rfl (fun ls hl => ?_)
          refine lv_goto (tgt := 25) hx hb dX1_refresh_42 (by decide) ?_
          exact ih_lp2 (i + 1) (upZ f i 0) _ _ _ (by omega) (fun j hj => by unfold upZ; split; rfl; exact hf j (by omega)) (by omega) hp (lv_sub hl [0, 1, 2] rfl)
    exact lp2 _ 0 lks _ _ _ (by omega) (fun j hj => absurd hj (Nat.not_lt_zero j)) (Nat.lt_succ_self _) hp (lv_sub hl [0, 1, 2] rfl)
  · skip
    obtain rfl : ek = ed := by omega
    exact hret _ _ _ _ _ _ (ln, gp, strm, cst, mks, dst, lks) (h_f rfl) hp dX1_refresh_14 (Nat.le_of_ble_eq_true rfl) (Nat.le_of_ble_eq_true rfl)
end
