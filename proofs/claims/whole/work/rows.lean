section
-- ===== PART A: goes FIRST, ahead of the names: the tables' words, and 'selects' of the private methods out of them =====
/-- a private method of a class that the tables say can be made, by its rows of tables_1 -/
def lw_okq (q : MethodName × Nat) : Prop := (q.1.cls ≠ "java/lang/invoke/MethodHandle" ∧ q.1.cls ≠ "java/lang/invoke/VarHandle") ∧ Cond.instantiable q.1.cls q.2 ∈ tables_1 ∧ Cond.privateMethod q.1 ∈ tables_1 ∧ Cond.instanceMethod q.1 ∈ tables_1
theorem lw_p0 : lw_okq (⟨"SelfOpener$Packing", "findCopy", "(I)V"⟩, 9) := ⟨⟨by decide +kernel, by decide +kernel⟩, List.mem_of_getElem? (i := 25) (by decide +kernel), List.mem_of_getElem? (i := 170) (by decide +kernel), List.mem_of_getElem? (i := 171) (by decide +kernel)⟩
theorem lw_p1 : lw_okq (⟨"SelfOpener$Packing", "chooseToken", "(I)V"⟩, 9) := ⟨⟨by decide +kernel, by decide +kernel⟩, List.mem_of_getElem? (i := 25) (by decide +kernel), List.mem_of_getElem? (i := 177) (by decide +kernel), List.mem_of_getElem? (i := 178) (by decide +kernel)⟩
theorem lw_p2 : lw_okq (⟨"SelfOpener$Packing", "writeStream", "()V"⟩, 9) := ⟨⟨by decide +kernel, by decide +kernel⟩, List.mem_of_getElem? (i := 25) (by decide +kernel), List.mem_of_getElem? (i := 181) (by decide +kernel), List.mem_of_getElem? (i := 182) (by decide +kernel)⟩
theorem lw_p3 : lw_okq (⟨"java/lang/Throwable", "fillInStackTrace", "(I)Ljava/lang/Throwable;"⟩, 6) := ⟨⟨by decide +kernel, by decide +kernel⟩, List.mem_of_getElem? (i := 244) (by decide +kernel), List.mem_of_getElem? (i := 242) (by decide +kernel), List.mem_of_getElem? (i := 243) (by decide +kernel)⟩
theorem lw_p4 : lw_okq (⟨"SelfOpener$Program", "openRun", "(III)I"⟩, 6) := ⟨⟨by decide +kernel, by decide +kernel⟩, List.mem_of_getElem? (i := 31) (by decide +kernel), List.mem_of_getElem? (i := 330) (by decide +kernel), List.mem_of_getElem? (i := 331) (by decide +kernel)⟩
theorem lw_p5 : lw_okq (⟨"SelfOpener$Program", "openCopy", "(III)I"⟩, 6) := ⟨⟨by decide +kernel, by decide +kernel⟩, List.mem_of_getElem? (i := 31) (by decide +kernel), List.mem_of_getElem? (i := 365) (by decide +kernel), List.mem_of_getElem? (i := 366) (by decide +kernel)⟩
theorem lw_p6 : lw_okq (⟨"SelfOpener$Machine", "act", "(III)V"⟩, 7) := ⟨⟨by decide +kernel, by decide +kernel⟩, List.mem_of_getElem? (i := 96) (by decide +kernel), List.mem_of_getElem? (i := 453) (by decide +kernel), List.mem_of_getElem? (i := 454) (by decide +kernel)⟩
theorem lw_p7 : lw_okq (⟨"SelfOpener$Machine", "jump", "(III)V"⟩, 7) := ⟨⟨by decide +kernel, by decide +kernel⟩, List.mem_of_getElem? (i := 96) (by decide +kernel), List.mem_of_getElem? (i := 457) (by decide +kernel), List.mem_of_getElem? (i := 458) (by decide +kernel)⟩
theorem lw_p8 : lw_okq (⟨"SelfOpener$Machine", "reckon", "(IIII)I"⟩, 7) := ⟨⟨by decide +kernel, by decide +kernel⟩, List.mem_of_getElem? (i := 96) (by decide +kernel), List.mem_of_getElem? (i := 461) (by decide +kernel), List.mem_of_getElem? (i := 462) (by decide +kernel)⟩
theorem lw_p9 : lw_okq (⟨"SelfOpenerModel", "pack", "()V"⟩, 21) := ⟨⟨by decide +kernel, by decide +kernel⟩, List.mem_of_getElem? (i := 501) (by decide +kernel), List.mem_of_getElem? (i := 607) (by decide +kernel), List.mem_of_getElem? (i := 608) (by decide +kernel)⟩
theorem lw_p10 : lw_okq (⟨"SelfOpenerModel", "choose", "(I)V"⟩, 21) := ⟨⟨by decide +kernel, by decide +kernel⟩, List.mem_of_getElem? (i := 501) (by decide +kernel), List.mem_of_getElem? (i := 611) (by decide +kernel), List.mem_of_getElem? (i := 612) (by decide +kernel)⟩
theorem lw_p11 : lw_okq (⟨"SelfOpenerModel", "wrong", "(II)I"⟩, 21) := ⟨⟨by decide +kernel, by decide +kernel⟩, List.mem_of_getElem? (i := 501) (by decide +kernel), List.mem_of_getElem? (i := 628) (by decide +kernel), List.mem_of_getElem? (i := 629) (by decide +kernel)⟩
theorem lw_p12 : lw_okq (⟨"SelfOpenerModel", "fail", "(I)I"⟩, 21) := ⟨⟨by decide +kernel, by decide +kernel⟩, List.mem_of_getElem? (i := 501) (by decide +kernel), List.mem_of_getElem? (i := 632) (by decide +kernel), List.mem_of_getElem? (i := 633) (by decide +kernel)⟩
theorem lw_p13 : lw_okq (⟨"SelfOpenerModel", "clear", "(I)V"⟩, 21) := ⟨⟨by decide +kernel, by decide +kernel⟩, List.mem_of_getElem? (i := 501) (by decide +kernel), List.mem_of_getElem? (i := 640) (by decide +kernel), List.mem_of_getElem? (i := 641) (by decide +kernel)⟩
theorem lw_p14 : lw_okq (⟨"SelfOpenerModel", "isPackable", "()Z"⟩, 21) := ⟨⟨by decide +kernel, by decide +kernel⟩, List.mem_of_getElem? (i := 501) (by decide +kernel), List.mem_of_getElem? (i := 648) (by decide +kernel), List.mem_of_getElem? (i := 649) (by decide +kernel)⟩
theorem lw_p15 : lw_okq (⟨"SelfOpenerModel", "second", "(II)I"⟩, 21) := ⟨⟨by decide +kernel, by decide +kernel⟩, List.mem_of_getElem? (i := 501) (by decide +kernel), List.mem_of_getElem? (i := 662) (by decide +kernel), List.mem_of_getElem? (i := 663) (by decide +kernel)⟩
def lw_privs_1 : List (MethodName × Nat) := [(⟨"SelfOpener$Packing", "findCopy", "(I)V"⟩, 9), (⟨"SelfOpener$Packing", "chooseToken", "(I)V"⟩, 9), (⟨"SelfOpener$Packing", "writeStream", "()V"⟩, 9), (⟨"java/lang/Throwable", "fillInStackTrace", "(I)Ljava/lang/Throwable;"⟩, 6), (⟨"SelfOpener$Program", "openRun", "(III)I"⟩, 6), (⟨"SelfOpener$Program", "openCopy", "(III)I"⟩, 6), (⟨"SelfOpener$Machine", "act", "(III)V"⟩, 7), (⟨"SelfOpener$Machine", "jump", "(III)V"⟩, 7), (⟨"SelfOpener$Machine", "reckon", "(IIII)I"⟩, 7), (⟨"SelfOpenerModel", "pack", "()V"⟩, 21), (⟨"SelfOpenerModel", "choose", "(I)V"⟩, 21), (⟨"SelfOpenerModel", "wrong", "(II)I"⟩, 21), (⟨"SelfOpenerModel", "fail", "(I)I"⟩, 21), (⟨"SelfOpenerModel", "clear", "(I)V"⟩, 21), (⟨"SelfOpenerModel", "isPackable", "()Z"⟩, 21), (⟨"SelfOpenerModel", "second", "(II)I"⟩, 21)]
theorem lw_r1 : ∀ q ∈ lw_privs_1, lw_okq q := List.forall_mem_cons.mpr ⟨lw_p0, List.forall_mem_cons.mpr ⟨lw_p1, List.forall_mem_cons.mpr ⟨lw_p2, List.forall_mem_cons.mpr ⟨lw_p3, List.forall_mem_cons.mpr ⟨lw_p4, List.forall_mem_cons.mpr ⟨lw_p5, List.forall_mem_cons.mpr ⟨lw_p6, List.forall_mem_cons.mpr ⟨lw_p7, List.forall_mem_cons.mpr ⟨lw_p8, List.forall_mem_cons.mpr ⟨lw_p9, List.forall_mem_cons.mpr ⟨lw_p10, List.forall_mem_cons.mpr ⟨lw_p11, List.forall_mem_cons.mpr ⟨lw_p12, List.forall_mem_cons.mpr ⟨lw_p13, List.forall_mem_cons.mpr ⟨lw_p14, List.forall_mem_cons.mpr ⟨lw_p15, fun _ h => absurd h List.not_mem_nil⟩⟩⟩⟩⟩⟩⟩⟩⟩⟩⟩⟩⟩⟩⟩⟩
theorem lw_p16 : lw_okq (⟨"SelfOpenerModel", "step", "()V"⟩, 21) := ⟨⟨by decide +kernel, by decide +kernel⟩, List.mem_of_getElem? (i := 501) (by decide +kernel), List.mem_of_getElem? (i := 675) (by decide +kernel), List.mem_of_getElem? (i := 676) (by decide +kernel)⟩
theorem lw_p17 : lw_okq (⟨"SelfOpenerModel", "putOut", "(I)V"⟩, 21) := ⟨⟨by decide +kernel, by decide +kernel⟩, List.mem_of_getElem? (i := 501) (by decide +kernel), List.mem_of_getElem? (i := 679) (by decide +kernel), List.mem_of_getElem? (i := 680) (by decide +kernel)⟩
def lw_privs_2 : List (MethodName × Nat) := [(⟨"SelfOpenerModel", "step", "()V"⟩, 21), (⟨"SelfOpenerModel", "putOut", "(I)V"⟩, 21)]
theorem lw_r2 : ∀ q ∈ lw_privs_2, lw_okq q := List.forall_mem_cons.mpr ⟨lw_p16, List.forall_mem_cons.mpr ⟨lw_p17, fun _ h => absurd h List.not_mem_nil⟩⟩
def lw_privs : List (MethodName × Nat) := lw_privs_1 ++ (lw_privs_2)
def lw_tbl : List Cond := k2_sels lw_privs ++ tables_1
theorem lw_privs_ok : ∀ q ∈ lw_privs, lw_okq q := by
  show ∀ q ∈ lw_privs_1 ++ (lw_privs_2), lw_okq q
  exact List.forall_mem_append.mpr ⟨lw_r1, lw_r2⟩
/-! ===== BEGIN words of one list among another's, by their places ===== -/
theorem goodIn_r {big : List Cond} (ws : List Cond) (ps : List Nat) (hp : ws = ps.filterMap (fun i => big[i]?)) (h : ws.all goodWord = true) : GoodIn big ws := by
  intro w hw
  have h1 := List.all_eq_true.mp h w hw
  rw [hp] at hw
  obtain ⟨i, -, hi⟩ := List.mem_filterMap.mp hw
  have hm : w ∈ big := by first | exact List.mem_of_getElem? hi | exact List.getElem?_mem hi
  exact ⟨hm, good_of_word h1⟩
theorem goodIn_app {big a b : List Cond} (ha : GoodIn big a) (hb : GoodIn big b) : GoodIn big (a ++ b) := fun w h => (List.mem_append.mp h).elim (ha w) (hb w)
theorem goodIn_ca {big a b : List Cond} {c : Cond} (ha : GoodIn big (c :: a)) (hb : GoodIn big b) : GoodIn big (c :: (a ++ b)) := fun w h => (List.mem_cons.mp h).elim (fun e => ha w (List.mem_cons.mpr (Or.inl e))) (fun h => (List.mem_append.mp h).elim (fun h => ha w (List.mem_cons.mpr (Or.inr h))) (hb w))
theorem goodIn_sub {big ws : List Cond} (hm : ∀ w ∈ ws, w ∈ big) (h : ws.all goodWord = true) : GoodIn big ws := fun w hw => ⟨hm w hw, good_of_word (List.all_eq_true.mp h w hw)⟩
/-! ===== END ===== -/

/-! ===== BEGIN exceptions that leave a method, and their catching by the caller (launches without stack traces) ===== -/
section VXA
/-! The laws vx_back, vx_callV, vx_callS, vx_callSW, vx_throw0, vx_throwS follow proofs of the library, with one case more: JvmDerived/Free/Laws.lean (Back.of_free), Shelf42/LK1.lean (callV, callS), Shelf/KitTraced.lean (throwNew0V, throwNewS). -/
/-- where a method has thrown q: the class by its name, the cell, what was written, the world -/
def vx_T (XC : String → State → State → Prop) (st : State) (q : Addr) (t : State) (mc ms : Nat) (free : Addr → Prop) : Prop :=
  ∃ (E : String) (ce : Cell) (L : List Loc), XC E st t ∧ t.heap[q]? = some ce ∧ ce.vm = .none ∧ st.vm.findClass E = some ce.cls ∧ st.WarmedH t.vm ∧ st.sameButNew ({ t with vm := st.vm } : State) L mc ms ∧ ∀ z ∈ L, free z.base
def vx_Q (Qc : Array Value → State → Outcome → State → Prop) (XC : String → State → State → Prop) (mc ms : Nat) (free : Addr → Prop) : Array Value → State → Outcome → State → Prop := fun a st o t =>
  (Qc a st o t ∧ ∃ L, FrameEnd st o t L mc ms ∧ ∀ q ∈ L, free q.base) ∨ ∃ q, o = .threw q ∧ vx_T XC st q t mc ms free
/-- a callee that returns or throws -/
def vx_Met (l : Launch) (y : MethodName) (ws : List Cond) (rm : Room) (Pc : Array Value → State → Prop) (Qc : Array Value → State → Outcome → State → Prop) (XC : String → State → State → Prop) (mc ms : Nat) (free : Addr → Prop) : Prop :=
  MetFree l y (headSpec ws rm) Pc (fun _ _ _ _ _ => True) (vx_Q Qc XC mc ms free)
def vx_Post (XC : String → State → State → Prop) (mc ms : Nat) (free : Addr → Prop) : Pt → Array Value → Addr → Pt → Prop := fun A a q B =>
  ∃ (g : JFrame) (mk : MethodId) (t : State) (L : List Loc) (E : String) (ce : Cell), B.U.heap = t.heap ∧ B.U.vm = t.vm ∧ XC E (A.U.calling g mk a) t ∧ t.heap[q]? = some ce ∧ ce.vm = .none ∧ A.U.vm.findClass E = some ce.cls ∧ B.locs = A.locs ++ L ∧ (∀ z ∈ L, free z.base) ∧ B.cells = A.cells + mc ∧ B.slots = A.slots + ms
def vx_Back (l : Launch) (R : Room) (p : Program) (e : Env) (below : List Frame) (s : State) (sargs : Array Value) (y : MethodName) (len W9 : Nat)
    (Pre : Pt → Array Value → Prop) (Post : Pt → Array Value → Option Value → Pt → Prop) (PostX : Pt → Array Value → Addr → Pt → Prop) : Prop :=
  ∀ (m : MethodId) (meth : Method) (c : Code) (A : Pt) (g : JFrame) (ig : Instr) (mk : MethodId) (a : Array Value),
    Stand p l e R s m sargs below meth c A.U A.locs A.cells A.slots → g.method = m → g.locals.size = c.maxLocals → decode c.code g.pc = .ok (ig, len) →
    2 * g.monitorRoom + (g.stack.map fun v => v.category).sum ≤ W9 → A.U.methodNamed? y = some mk → Pre A a →
    (∃ (v : Option Value) (B : Pt), Stand p l e R s m sargs below meth c B.U B.locs B.cells B.slots ∧ Post A a v B ∧
      Steps p.tables e below (doInvoke e (A.U.setTop g) [] mk a).1 (B.U.setTop { g with pc := g.pc + len, stack := v.toList ++ g.stack })) ∨
    (∃ (q : Addr) (B : Pt), Stand p l e R s m sargs below meth c B.U B.locs B.cells B.slots ∧ PostX A a q B ∧
      Steps p.tables e below (doInvoke e (A.U.setTop g) [] mk a).1 ((B.U.setTop g).pushFrame (.throwing q)))
section Payer
variable {l : Launch} {R : Room} {p : Program} {e : Env} {below : List Frame} {s : State} {sargs : Array Value} {y : MethodName} {len W9 : Nat}
theorem vx_back {ws : List Cond} {rm : Room} {Pc : Array Value → State → Prop} {Qc : Array Value → State → Outcome → State → Prop} {XC : String → State → State → Prop} {mc ms : Nat} {free : Addr → Prop} {bytes : ByteArray} {maxL : Nat} {ret : Option FieldType}
    (hM : vx_Met l y ws rm Pc Qc XC mc ms free) (hblind : FrameBlind Pc) (hrc : rm.cells = mc) (hrs : rm.slots = ms)
    (hframes : rm.frames + 1 ≤ R.frames) (hlocals : W9 + (maxL + 11) + rm.locals ≤ R.locals)
    (hws : ∀ w ∈ ws, ∀ a' U, s.WarmedH U.vm → w.before a' U = true) (hcode : Cond.code y bytes maxL ret ∈ ws) (hinit : ∀ a' U, s.WarmedH U.vm → (Cond.initialized y.cls).before a' U = true) :
    vx_Back l R p e below s sargs y len W9 (PreOf R mc ms Pc) (PostOf Qc mc ms free) (vx_Post XC mc ms free) := by
  intro m meth c A g ig mk a X hg hsize hdg hW hn hp
  have h1 : (headSpec ws rm).pre.before a A.U = true := atoms_intro fun w hw => hws w hw _ _ X.warmed
  have h2 : (Cond.code y bytes maxL ret).before a A.U = true := hws _ hcode _ _ X.warmed
  have h3 : (Cond.initialized y.cls).before a A.U = true := hinit _ _ X.warmed
  have h4 : A.cells + (headSpec ws rm).room.cells ≤ R.cells := by rw [show (headSpec ws rm).room.cells = mc from hrc]; exact hp.1
  have h5 : A.slots + (headSpec ws rm).room.slots ≤ R.slots := by rw [show (headSpec ws rm).room.slots = ms from hrs]; exact hp.2.1
  have hPc : Pc a (A.U.calling g mk a) := hblind _ _ _ _ hp.2.2
  obtain ⟨U, Ls, c0, s0⟩ := A
  dsimp only [Pt.U, Pt.locs, Pt.cells, Pt.slots] at h1 h2 h3 h4 h5 X hn hPc ⊢
  obtain ⟨methY, cY, hmY, hcY, -, hlY, -, -, -, -⟩ := Cond.code_spec hn h2
  obtain ⟨kY, hkY, -⟩ := className_of_methodNamed hn
  have hinitY : kY.init = .initialized := Cond.initialized_spec (findClass_of_methodNamed hn) hkY h3
  have h : At U g.method c below := by rw [hg]; exact X.here
  have hlocals9 : W9 + (maxL + 11) + (headSpec ws rm).room.locals ≤ R.locals := hlocals
  have happ : (headSpec ws rm).appliesLoose y e.platform (U.calling g mk a) = true :=
    Spec.appliesLoose_calling (g := g) h hdg hn hkY hinitY
      (X.room_calling (g := g) (R' := (headSpec ws rm).room) hsize hmY hcY hframes (by rw [hlY]; omega) h4 h5) h1
  obtain ⟨mid, hmid⟩ := h.above
  have hfr : (U.setTop g).frames = (.java g :: mid) ++ below := by rw [State.frames_setTop' g h.top, hmid]; rfl
  obtain ⟨o, s₂, hsteps, -, hend, hq⟩ := Steps.callFree hM p X.admits X.cas X.clock (acts := []) hfr happ hPc trivial
  have hq' : vx_Q Qc XC mc ms free a (U.calling g mk a) o s₂ := hq
  rw [State.frames_setTop' g h.top] at hend
  obtain ⟨g₀, hg0⟩ := Option.isSome_iff_exists.mp h.top
  obtain ⟨r, hr⟩ := State.topJava?_eq_some.mp hg0
  have hr' : (({ U with heap := s₂.heap, slotsUsed := s₂.slotsUsed } : State).setVm s₂.vm).frames = .java g₀ :: r := hr
  rcases hq' with ⟨hqc, L, hfe, hL⟩ | ⟨q, rfl, E, ce, L, hx, hce, hcv, hcl, hW₂, hsm, hL⟩
  · obtain ⟨⟨v, rfl⟩, hW₂, e2, q2, q3, q4, q5, q6⟩ := id hfe
    have e3 : s₂ = ({ (U.calling g mk a).setFrames s₂.frames with heap := s₂.heap, slotsUsed := s₂.slotsUsed } : State).setVm s₂.vm := by
      have : s₂ = ({ s₂ with vm := (U.calling g mk a).vm } : State).setVm s₂.vm := rfl
      rw [e2] at this
      exact this
    obtain ⟨c₂, i₂, len₂, hc₂, hd₂, hf₂⟩ := hend
    have hW' : U.WarmedH s₂.vm := hW₂
    have hcc : c₂ = c := by
      have h1 : s₂.code? g.method = U.code? g.method := by
        rw [State.code?_eq, State.code?_eq, hW'.alike.method?]
      exact Option.some.inj (hc₂.symm.trans (h1.trans h.code))
    subst hcc
    have hlen : len₂ = len := by rw [hdg] at hd₂; cases hd₂; rfl
    subst hlen
    have hs₂ : s₂ = (({ U with heap := s₂.heap, slotsUsed := s₂.slotsUsed } : State).setVm s₂.vm).setTop { g with pc := g.pc + len₂, stack := v.toList ++ g.stack } := by
      refine e3.trans ?_
      rw [hf₂, State.calling_eq h.top, State.setFrames_setFrames, State.setTop_of_frames _ hr', hr]
      rfl
    have hsame : U.sameButNew ({ U with heap := s₂.heap, slotsUsed := s₂.slotsUsed } : State) L mc ms := by
      refine ⟨?_, q2, q3, q4, q5, q6⟩
      obtain ⟨t, ht, -⟩ := State.frames_cons hr
      show ({ U with heap := s₂.heap, slotsUsed := s₂.slotsUsed } : State) = { U.setFrames U.frames with heap := s₂.heap, slotsUsed := s₂.slotsUsed }
      rw [State.setFrames_self ht]
    subst hg
    refine Or.inl ⟨v, ⟨(({ U with heap := s₂.heap, slotsUsed := s₂.slotsUsed } : State).setVm s₂.vm), Ls ++ L, c0 + mc, s0 + ms⟩,
      ⟨X.admits, X.cas, X.clock, X.frames, X.room, X.hears, X.method, X.code, (X.here.setHeapUsed s₂.heap s₂.slotsUsed).setVm hW'.alike, X.tail, State.WarmedH.trans X.warmed hW', X.limits, X.bytes, X.same.trans (hsame.setVm s.vm)⟩,
      ⟨g, mk, s₂, L, rfl, rfl, hqc, rfl, hL, rfl, rfl⟩, ?_⟩
    show Steps p.tables e below _ ((({ U with heap := s₂.heap, slotsUsed := s₂.slotsUsed } : State).setVm s₂.vm).setTop { g with pc := g.pc + len₂, stack := v.toList ++ g.stack })
    rw [← hs₂]
    exact hsteps
  · obtain ⟨e2, q2, q3, q4, q5, q6⟩ := id hsm
    have e3 : s₂ = ({ (U.calling g mk a).setFrames s₂.frames with heap := s₂.heap, slotsUsed := s₂.slotsUsed } : State).setVm s₂.vm := by
      have : s₂ = ({ s₂ with vm := (U.calling g mk a).vm } : State).setVm s₂.vm := rfl
      rw [e2] at this
      exact this
    have hf₂ : s₂.frames = .throwing q :: .java g :: U.frames.tail := hend
    have hW' : U.WarmedH s₂.vm := hW₂
    have hs₂ : s₂ = ((({ U with heap := s₂.heap, slotsUsed := s₂.slotsUsed } : State).setVm s₂.vm).setTop g).pushFrame (.throwing q) := by
      refine e3.trans ?_
      rw [hf₂, State.calling_eq h.top, State.setFrames_setFrames, State.pushFrame, State.frames_setTop _ hr', State.setTop_of_frames _ hr', State.setFrames_setFrames, hr]
      rfl
    have hsame : U.sameButNew ({ U with heap := s₂.heap, slotsUsed := s₂.slotsUsed } : State) L mc ms := by
      refine ⟨?_, q2, q3, q4, q5, q6⟩
      obtain ⟨t, ht, -⟩ := State.frames_cons hr
      show ({ U with heap := s₂.heap, slotsUsed := s₂.slotsUsed } : State) = { U.setFrames U.frames with heap := s₂.heap, slotsUsed := s₂.slotsUsed }
      rw [State.setFrames_self ht]
    subst hg
    refine Or.inr ⟨q, ⟨(({ U with heap := s₂.heap, slotsUsed := s₂.slotsUsed } : State).setVm s₂.vm), Ls ++ L, c0 + mc, s0 + ms⟩,
      ⟨X.admits, X.cas, X.clock, X.frames, X.room, X.hears, X.method, X.code, (X.here.setHeapUsed s₂.heap s₂.slotsUsed).setVm hW'.alike, X.tail, State.WarmedH.trans X.warmed hW', X.limits, X.bytes, X.same.trans (hsame.setVm s.vm)⟩,
      ⟨g, mk, s₂, L, E, ce, rfl, rfl, hx, hce, hcv, hcl, rfl, hL, rfl, rfl⟩, ?_⟩
    show Steps p.tables e below _ (((({ U with heap := s₂.heap, slotsUsed := s₂.slotsUsed } : State).setVm s₂.vm).setTop g).pushFrame (.throwing q))
    rw [← hs₂]
    exact hsteps
end Payer
section Calls
variable {p : Program} {l : Launch} {e : Env} {R : Room} {s : State} {m : MethodId} {args : Array Value} {below : List Frame} {meth : Method} {c : Code} {T : State} {locs : List Loc} {cells slots : Nat}
theorem vx_callV (X : Stand p l e R s m args below meth c T locs cells slots) (hexec : p.tables.exec = Jvm.exec) {own C : String} {index : Nat} {y : MethodName} {bytes : ByteArray} {maxL : Nat} {ret : Option FieldType}
    (hown : s.vm.findClass own = some m.cls) (hlink : (Cond.methodLink own index y).before args s = true) (hinst : (Cond.instanceMethod y).before args s = true) (hsel : (Cond.selects C y y).before args s = true)
    (hcode : (Cond.code y bytes maxL ret).before args s = true) (hy : y.cls ≠ "java/lang/invoke/MethodHandle" ∧ y.cls ≠ "java/lang/invoke/VarHandle")
    {W9 : Nat} {Pre : Pt → Array Value → Prop} {Post : Pt → Array Value → Option Value → Pt → Prop} {PostX : Pt → Array Value → Addr → Pt → Prop} (hK : vx_Back l R p e below s args y 3 W9 Pre Post PostX)
    {b : Addr} {cellB : Cell} (hcell : T.heap[b]? = some cellB) (hobj : cellB.vm.isStatics = false) (hcls : s.vm.findClass C = some cellB.cls)
    {g : JFrame} (hg : g.method = m) (hsize : g.locals.size = c.maxLocals) {argsL rest : List Value} (hlen : ∀ sig, parseMethodDescriptor y.desc = some sig → argsL.length = sig.parameters.length)
    (hstack : g.stack = argsL.reverse ++ .ref b :: rest) (hW : 2 * g.monitorRoom + (rest.map fun v => v.category).sum ≤ W9) (hdg : decode c.code g.pc = .ok (.invokevirtual index, 3))
    (hpre : ∀ vm₁, s.WarmedH vm₁ → Pre ⟨T.setVm vm₁, locs, cells, slots⟩ (Value.ref b :: argsL).toArray) :
    (∃ (v : Option Value) (vm₁ : Vm) (B : Pt), s.WarmedH vm₁ ∧ Stand p l e R s m args below meth c B.U B.locs B.cells B.slots ∧ Post ⟨T.setVm vm₁, locs, cells, slots⟩ (Value.ref b :: argsL).toArray v B ∧
      ∀ target, Steps p.tables e below (B.U.setTop { g with pc := g.pc + 3, stack := v.toList ++ rest }) target → Steps p.tables e below (T.setTop g) target) ∨
    (∃ (q : Addr) (vm₁ : Vm) (B : Pt), s.WarmedH vm₁ ∧ Stand p l e R s m args below meth c B.U B.locs B.cells B.slots ∧ PostX ⟨T.setVm vm₁, locs, cells, slots⟩ (Value.ref b :: argsL).toArray q B ∧
      Steps p.tables e below (T.setTop g) ((B.U.setTop { g with stack := rest }).pushFrame (.throwing q))) := by
  obtain ⟨mk, methM, hnamed, hmethM, hstM, habM⟩ := Cond.instanceMethod_spec hinst
  obtain ⟨methM', cM, hmethM', -, -, -, -, -, -, hsigM⟩ := Cond.code_spec hnamed hcode
  cases hmethM.symm.trans hmethM'
  obtain ⟨c2, r2, m2, q1, q2, q3, q4, kP, hkP, hkPi⟩ := Cond.selects_spec hsel
  cases hcls.symm.trans q1
  cases (State.methodFound?_of_named hnamed hy).symm.trans q2
  cases hnamed.symm.trans q3
  have hselP : selectMethod e.platform s.vm cellB.cls mk = .method mk := by rw [Launch.admits_selectMethod X.admits]; exact q4
  obtain ⟨vm₁, X₁, hstep₁⟩ := X.invokevirtual hexec hown hlink hnamed hmethM hstM hkP hkPi hy (a := b) (cell := cellB) hcell
    (fun z h => by rw [h] at hobj; cases hobj) hselP hmethM habM hkP hkPi (g := g) hg (argsL := argsL) (rest := rest) (hlen _ hsigM) hstack hdg
  rcases hK m meth c ⟨T.setVm vm₁, locs, cells, slots⟩ { g with stack := rest } (.invokevirtual index) mk (Value.ref b :: argsL).toArray X₁ hg hsize hdg hW (X₁.named hnamed) (hpre vm₁ X₁.warmed) with ⟨v, B, X', hpost, hsteps⟩ | ⟨q, B, X', hpost, hsteps⟩
  · exact Or.inl ⟨v, vm₁, B, X₁.warmed, X', hpost, fun target h => hstep₁ _ fun acts => by rw [doInvoke_state]; exact hsteps.trans h⟩
  · exact Or.inr ⟨q, vm₁, B, X₁.warmed, X', hpost, hstep₁ _ fun acts => by rw [doInvoke_state]; exact hsteps⟩
theorem vx_callS (X : Stand p l e R s m args below meth c T locs cells slots) (hexec : p.tables.exec = Jvm.exec) {own : String} {index : Nat} {y : MethodName} {bytes : ByteArray} {maxL : Nat} {ret : Option FieldType}
    (hown : s.vm.findClass own = some m.cls) (hlink : (Cond.methodLink own index y).before args s = true) (hstat : (Cond.static y).before args s = true) (hinit : (Cond.initialized y.cls).before args s = true)
    (hcode : (Cond.code y bytes maxL ret).before args s = true) (hy : y.cls ≠ "java/lang/invoke/MethodHandle" ∧ y.cls ≠ "java/lang/invoke/VarHandle")
    {W9 : Nat} {Pre : Pt → Array Value → Prop} {Post : Pt → Array Value → Option Value → Pt → Prop} {PostX : Pt → Array Value → Addr → Pt → Prop} (hK : vx_Back l R p e below s args y 3 W9 Pre Post PostX)
    {g : JFrame} (hg : g.method = m) (hsize : g.locals.size = c.maxLocals) {argsL rest : List Value} (hlen : ∀ sig, parseMethodDescriptor y.desc = some sig → argsL.length = sig.parameters.length)
    (hstack : g.stack = argsL.reverse ++ rest) (hW : 2 * g.monitorRoom + (rest.map fun v => v.category).sum ≤ W9) (hdg : decode c.code g.pc = .ok (.invokestatic index, 3))
    (hpre : ∀ vm₁, s.WarmedH vm₁ → Pre ⟨T.setVm vm₁, locs, cells, slots⟩ argsL.toArray) :
    (∃ (v : Option Value) (vm₁ : Vm) (B : Pt), s.WarmedH vm₁ ∧ Stand p l e R s m args below meth c B.U B.locs B.cells B.slots ∧ Post ⟨T.setVm vm₁, locs, cells, slots⟩ argsL.toArray v B ∧
      ∀ target, Steps p.tables e below (B.U.setTop { g with pc := g.pc + 3, stack := v.toList ++ rest }) target → Steps p.tables e below (T.setTop g) target) ∨
    (∃ (q : Addr) (vm₁ : Vm) (B : Pt), s.WarmedH vm₁ ∧ Stand p l e R s m args below meth c B.U B.locs B.cells B.slots ∧ PostX ⟨T.setVm vm₁, locs, cells, slots⟩ argsL.toArray q B ∧
      Steps p.tables e below (T.setTop g) ((B.U.setTop { g with stack := rest }).pushFrame (.throwing q))) := by
  obtain ⟨mk, hnamed⟩ := Cond.code_named hcode
  obtain ⟨methM, cM, hmethM, -, -, -, -, -, -, hsigM⟩ := Cond.code_spec hnamed hcode
  have hstatic : methM.isStatic = true := Cond.static_spec hnamed hmethM hstat
  obtain ⟨kP, hkP, -⟩ := className_of_methodNamed hnamed
  have hinitP : kP.init = .initialized := Cond.initialized_spec (findClass_of_methodNamed hnamed) hkP hinit
  obtain ⟨vm₁, X₁, hstep₁⟩ := X.invokestatic hexec hown hlink hnamed hmethM hstatic hkP hinitP hy (g := g) hg (argsL := argsL) (rest := rest) (hlen _ hsigM) hstack hdg
  rcases hK m meth c ⟨T.setVm vm₁, locs, cells, slots⟩ { g with stack := rest } (.invokestatic index) mk argsL.toArray X₁ hg hsize hdg hW (X₁.named hnamed) (hpre vm₁ X₁.warmed) with ⟨v, B, X', hpost, hsteps⟩ | ⟨q, B, X', hpost, hsteps⟩
  · exact Or.inl ⟨v, vm₁, B, X₁.warmed, X', hpost, fun target h => hstep₁ _ fun acts => by rw [doInvoke_state]; exact hsteps.trans h⟩
  · exact Or.inr ⟨q, vm₁, B, X₁.warmed, X', hpost, hstep₁ _ fun acts => by rw [doInvoke_state]; exact hsteps⟩
end Calls
theorem vx_cls {s : State} {T : State} {vm₁ : Vm} {E : String} {k : ClassId} (hW : s.WarmedH vm₁) (h : (T.setVm vm₁).vm.findClass E = some k) : s.vm.findClass E = some k := by
  have h1 : vm₁.findClass E = some k := h
  rw [hW.alike.findClass] at h1
  exact h1
/-- the method's frame g, with q thrown over it -/
def vx_W (p : Program) (l : Launch) (e : Env) (R : Room) (s : State) (m : MethodId) (args : Array Value) (below : List Frame) (meth : Method) (c : Code) (H : Heap) (locs : List Loc) (cells slots : Nat) (Q : State → Prop) (g : JFrame) (q : Addr) : Prop :=
  ∀ T : State, T.heap = H → Stand p l e R s m args below meth c T locs cells slots → ∃ t, Steps p.tables e below ((T.setTop g).pushFrame (.throwing q)) t ∧ Q t
def vx_Run (p : Program) (l : Launch) (e : Env) (R : Room) (s : State) (m : MethodId) (args : Array Value) (below : List Frame) (meth : Method) (c : Code) (H : Heap) (locs : List Loc) (cells slots mc ms : Nat) (g : JFrame) (rest : List Value) (Qa : State → Outcome → State → Prop) (XC : String → State → State → Prop) (free : Addr → Prop) : Prop :=
  ∀ T : State, T.heap = H → Stand p l e R s m args below meth c T locs cells slots →
    (∃ (v : Option Value) (st₀ t T' : State) (L : List Loc), st₀.heap = H ∧ Stand p l e R s m args below meth c T' (locs ++ L) (cells + mc) (slots + ms) ∧ (∀ q ∈ L, free q.base) ∧ T'.heap = t.heap ∧ T'.vm = t.vm ∧ Qa st₀ (.returned v) t ∧
      Goes p e below T g T' { g with pc := g.pc + 3, stack := v.toList ++ rest }) ∨
    (∃ (q : Addr) (st₀ t T' : State) (L : List Loc) (E : String) (ce : Cell), st₀.heap = H ∧ Stand p l e R s m args below meth c T' (locs ++ L) (cells + mc) (slots + ms) ∧ (∀ z ∈ L, free z.base) ∧ T'.heap = t.heap ∧ T'.vm = t.vm ∧ XC E st₀ t ∧ t.heap[q]? = some ce ∧ ce.vm = .none ∧ s.vm.findClass E = some ce.cls ∧
      Steps p.tables e below (T.setTop g) ((T'.setTop { g with stack := rest }).pushFrame (.throwing q)))
def vx_X {S : Type} (px : S → Prop) (B : String → S → State → Prop) (A : Nat → Prop) : String → State → State → Prop := fun E st t => ∃ u : S, px u ∧ B E u t ∧ va_F A st t
section Runs
variable {p : Program} {l : Launch} {e : Env} {R : Room} {s : State} {m : MethodId} {args : Array Value} {below : List Frame} {meth : Method} {c : Code} {H : Heap} {locs : List Loc} {cells slots : Nat}
variable {y : MethodName} {bytes cc : ByteArray} {maxL nL mc ms n index : Nat} {ret : Option FieldType} {ws : List Cond} {rm : Room} {Pc : Array Value → State → Prop} {Qc : Array Value → State → Outcome → State → Prop} {XC : String → State → State → Prop} {free : Addr → Prop} {Ts : List Cond} {own C : String} {b : Addr} {As rest : List Value} {g : JFrame}
theorem vx_callBack (cb : CallB R s args own index y bytes maxL ret ws rm mc ms n) (hM : vx_Met l y ws rm Pc Qc XC mc ms free) (hbl : FrameBlind Pc) : vx_Back l R p e below s args y 3 8 (PreOf R mc ms Pc) (PostOf Qc mc ms free) (vx_Post XC mc ms free) := by
  obtain ⟨hrc, hrs, hfr, hlo, hws, hcw, -, hini, -⟩ := cb
  exact vx_back (bytes := bytes) (maxL := maxL) (ret := ret) hM hbl hrc hrs hfr hlo hws hcw (fun a' U hW => word_at hW (Or.inl (by first | rfl | simp [Cond.onTables, Cond.keeps, Cond.steady])) hini)
theorem vx_runV (S : CallFix p m c cc nL s args Ts own) (hM : vx_Met l y ws rm Pc Qc XC mc ms free) (cw : CallW R s args own C index y bytes maxL ret ws rm mc ms n) (hp : PreV s H C b Pc As)
    (hg : g.method = m) (hn : As.length = n) (hsize : g.locals.size = nL) (hstack : g.stack = As.reverse ++ .ref b :: rest) (hW : 2 * g.monitorRoom + (rest.map fun v => v.category).sum ≤ 8) (hdg : decode cc g.pc = .ok (.invokevirtual index, 3)) (hf : cells + mc ≤ R.cells ∧ slots + ms ≤ R.slots) :
    vx_Run p l e R s m args below meth c H locs cells slots mc ms g rest (Qc (Value.ref b :: As).toArray) XC free := by
  have hK : vx_Back l R p e below s args y 3 8 (PreOf R mc ms Pc) (PostOf Qc mc ms free) (vx_Post XC mc ms free) := vx_callBack cw.1 hM hp.1
  obtain ⟨⟨-, -, -, -, -, -, hcode, -, hy, hlen, hl⟩, hin, hse⟩ := cw
  obtain ⟨hx, hb, hml, ho, -⟩ := S
  obtain ⟨-, ⟨cellB, hcB, hoB, hclB⟩, hPc⟩ := hp
  intro T hT X
  rcases vx_callV X hx (C := C) (bytes := bytes) (maxL := maxL) (ret := ret) ho hl hin hse hcode hy hK (by rw [hT]; exact hcB) hoB hclB hg (hsize.trans hml.symm) (argsL := As) (rest := rest) (fun sig h => hn.trans (hlen sig h)) hstack hW (by rw [hb]; exact hdg)
    (fun vm₁ hW₁ => ⟨hf.1, hf.2, hPc (T.setVm vm₁) hT hW₁⟩) with ⟨v, vm₁, ⟨U', l2, c2, s2⟩, hW₁, X', ⟨g', mk, t, L, e1, e2, hq, h1, hL, h2, h3⟩, st⟩ | ⟨q, vm₁, ⟨U', l2, c2, s2⟩, hW₁, X', ⟨g', mk, t, L, E, ce, e1, e2, hq, hce, hcv, hcl, h1, hL, h2, h3⟩, st⟩
  · dsimp only [Pt.U, Pt.locs, Pt.cells, Pt.slots] at X' e1 e2 h1 h2 h3 st
    subst h1; subst h2; subst h3
    exact Or.inl ⟨v, (T.setVm vm₁).calling g' mk (Value.ref b :: As).toArray, t, U', L, hT, X', hL, e1, e2, hq, st⟩
  · dsimp only [Pt.U, Pt.locs, Pt.cells, Pt.slots] at X' e1 e2 h1 h2 h3 st hcl
    subst h1; subst h2; subst h3
    exact Or.inr ⟨q, (T.setVm vm₁).calling g' mk (Value.ref b :: As).toArray, t, U', L, E, ce, hT, X', hL, e1, e2, hq, hce, hcv, vx_cls hW₁ hcl, st⟩
theorem vx_runS (S : CallFix p m c cc nL s args Ts own) (hM : vx_Met l y ws rm Pc Qc XC mc ms free) (cw : CallB R s args own index y bytes maxL ret ws rm mc ms n ∧ (Cond.static y).before args s = true) (hp : PreS s H Pc As)
    (hg : g.method = m) (hn : As.length = n) (hsize : g.locals.size = nL) (hstack : g.stack = As.reverse ++ rest) (hW : 2 * g.monitorRoom + (rest.map fun v => v.category).sum ≤ 8) (hdg : decode cc g.pc = .ok (.invokestatic index, 3)) (hf : cells + mc ≤ R.cells ∧ slots + ms ≤ R.slots) :
    vx_Run p l e R s m args below meth c H locs cells slots mc ms g rest (Qc As.toArray) XC free := by
  have hK : vx_Back l R p e below s args y 3 8 (PreOf R mc ms Pc) (PostOf Qc mc ms free) (vx_Post XC mc ms free) := vx_callBack cw.1 hM hp.1
  obtain ⟨⟨-, -, -, -, -, -, hcode, hini, hy, hlen, hl⟩, hstt⟩ := cw
  obtain ⟨hx, hb, hml, ho, -⟩ := S
  intro T hT X
  rcases vx_callS X hx (bytes := bytes) (maxL := maxL) (ret := ret) ho hl hstt hini hcode hy hK hg (hsize.trans hml.symm) (argsL := As) (rest := rest) (fun sig h => hn.trans (hlen sig h)) hstack hW (by rw [hb]; exact hdg)
    (fun vm₁ hW₁ => ⟨hf.1, hf.2, hp.2 (T.setVm vm₁) hT hW₁⟩) with ⟨v, vm₁, ⟨U', l2, c2, s2⟩, hW₁, X', ⟨g', mk, t, L, e1, e2, hq, h1, hL, h2, h3⟩, st⟩ | ⟨q, vm₁, ⟨U', l2, c2, s2⟩, hW₁, X', ⟨g', mk, t, L, E, ce, e1, e2, hq, hce, hcv, hcl, h1, hL, h2, h3⟩, st⟩
  · dsimp only [Pt.U, Pt.locs, Pt.cells, Pt.slots] at X' e1 e2 h1 h2 h3 st
    subst h1; subst h2; subst h3
    exact Or.inl ⟨v, (T.setVm vm₁).calling g' mk As.toArray, t, U', L, hT, X', hL, e1, e2, hq, st⟩
  · dsimp only [Pt.U, Pt.locs, Pt.cells, Pt.slots] at X' e1 e2 h1 h2 h3 st hcl
    subst h1; subst h2; subst h3
    exact Or.inr ⟨q, (T.setVm vm₁).calling g' mk As.toArray, t, U', L, E, ce, hT, X', hL, e1, e2, hq, hce, hcv, vx_cls hW₁ hcl, st⟩
end Runs
section Rows
variable {p : Program} {l : Launch} {e : Env} {R : Room} {s : State} {m : MethodId} {args : Array Value} {below : List Frame} {meth : Method} {c : Code} {H : Heap} {locs : List Loc} {cells slots : Nat} {Q : State → Prop}
variable {mc ms : Nat} {free : Addr → Prop} {A0 A1 : Nat → Prop} {H0 : Heap} {a : Array Value} {pc : Nat} {ls : Array Slot} {st0 rest : List Value}
theorem vx_keep {st₀ t T' : State} {L : List Loc} (h0 : st₀.heap = H) (e1 : T'.heap = t.heap) (hS : va_S A0 H0 H locs) (hA : ∀ q, q < H.size → A1 q → A0 q) (hf : ∀ q, free q → A0 q) (hL : ∀ q ∈ L, free q.base) (hF : va_F A1 st₀ t) :
    H.size ≤ T'.heap.size ∧ (∀ q : Nat, q < H.size → ¬ A1 q → T'.heap[q]? = H[q]?) ∧ va_S A0 H0 T'.heap (locs ++ L) := by
  obtain ⟨hz, hk⟩ := hF
  rw [h0] at hz hk
  exact ⟨by rw [e1]; exact hz, fun q h1 h2 => by rw [e1]; exact hk q h1 h2,
    ⟨Nat.le_trans hS.1 (by rw [e1]; exact hz), fun q h1 h2 => by rw [e1, hk q (Nat.lt_of_lt_of_le h1 hS.1) (fun z => h2 (hA q (Nat.lt_of_lt_of_le h1 hS.1) z))]; exact hS.2.1 q h1 h2, fun q hq => by
      rcases List.mem_append.mp hq with h | h
      · exact hS.2.2 q h
      · exact hf _ (hL q h)⟩⟩
theorem vx_calli {S SX : Type} {post : Int32 → S → Prop} {px : SX → Prop} {B : S → State → Prop} {BX : String → SX → State → Prop} {AX : Nat → Prop} (hr : vx_Run p l e R s m args below meth c H locs cells slots mc ms (F0 m pc ls st0) rest (va_Qi post B A1 a) (vx_X px BX AX) free) (hS : va_S A0 H0 H locs) (hA : ∀ q, q < H.size → A1 q → A0 q) (hf : ∀ q, free q → A0 q) (hAX : ∀ q, q < H.size → AX q → A0 q)
    (kx : ∀ (E : String) (ce : Cell) (q9 : Addr) (u : SX) (t : State) (H1 : Heap) (locs1 : List Loc), t.heap = H1 → s.vm.Alike t.vm → px u → BX E u t → H.size ≤ H1.size → (∀ q : Nat, q < H.size → ¬ AX q → H1[q]? = H[q]?) → va_S A0 H0 H1 locs1 → H1[q9]? = some ce → ce.vm = .none → s.vm.findClass E = some ce.cls → vx_W p l e R s m args below meth c H1 locs1 (cells + mc) (slots + ms) Q (F0 m pc ls rest) q9)
    (kk : ∀ (r : Int32) (u : S) (t : State) (H1 : Heap) (locs1 : List Loc), t.heap = H1 → s.vm.Alike t.vm → post r u → B u t → H.size ≤ H1.size → (∀ q : Nat, q < H.size → ¬ A1 q → H1[q]? = H[q]?) → va_S A0 H0 H1 locs1 → W p l e R s m args below meth c H1 locs1 (cells + mc) (slots + ms) Q (F0 m (pc + 3) ls (.int r :: rest))) : W p l e R s m args below meth c H locs cells slots Q (F0 m pc ls st0) := by
  intro T hT X
  rcases hr T hT X with ⟨v, st₀, t, T', L, h0, X', hL, e1, e2, ⟨⟨r, u, hv, hp, hb⟩, hF⟩, st⟩ | ⟨q, st₀, t, T', L, E, ce, h0, X', hL, e1, e2, ⟨u, hp, hb, hF⟩, hce, hcv, hcl, st⟩
  · cases hv
    obtain ⟨k1, k2, k3⟩ := vx_keep h0 e1 hS hA hf hL hF
    obtain ⟨t2, a1, b1⟩ := kk r u t T'.heap (locs ++ L) e1.symm (by rw [← e2]; exact X'.warmed.alike) hp hb k1 k2 k3 T' rfl X'
    exact ⟨t2, st t2 a1, b1⟩
  · obtain ⟨k1, k2, k3⟩ := vx_keep h0 e1 hS hAX hf hL hF
    obtain ⟨t2, a1, b1⟩ := kx E ce q u t T'.heap (locs ++ L) e1.symm (by rw [← e2]; exact X'.warmed.alike) hp hb k1 k2 k3 (by rw [e1]; exact hce) hcv hcl T' rfl X'
    exact ⟨t2, st.trans a1, b1⟩
theorem vx_calll {S SX : Type} {post : Int64 → S → Prop} {px : SX → Prop} {B : S → State → Prop} {BX : String → SX → State → Prop} {AX : Nat → Prop} (hr : vx_Run p l e R s m args below meth c H locs cells slots mc ms (F0 m pc ls st0) rest (va_Ql post B A1 a) (vx_X px BX AX) free) (hS : va_S A0 H0 H locs) (hA : ∀ q, q < H.size → A1 q → A0 q) (hf : ∀ q, free q → A0 q) (hAX : ∀ q, q < H.size → AX q → A0 q)
    (kx : ∀ (E : String) (ce : Cell) (q9 : Addr) (u : SX) (t : State) (H1 : Heap) (locs1 : List Loc), t.heap = H1 → s.vm.Alike t.vm → px u → BX E u t → H.size ≤ H1.size → (∀ q : Nat, q < H.size → ¬ AX q → H1[q]? = H[q]?) → va_S A0 H0 H1 locs1 → H1[q9]? = some ce → ce.vm = .none → s.vm.findClass E = some ce.cls → vx_W p l e R s m args below meth c H1 locs1 (cells + mc) (slots + ms) Q (F0 m pc ls rest) q9)
    (kk : ∀ (r : Int64) (u : S) (t : State) (H1 : Heap) (locs1 : List Loc), t.heap = H1 → s.vm.Alike t.vm → post r u → B u t → H.size ≤ H1.size → (∀ q : Nat, q < H.size → ¬ A1 q → H1[q]? = H[q]?) → va_S A0 H0 H1 locs1 → W p l e R s m args below meth c H1 locs1 (cells + mc) (slots + ms) Q (F0 m (pc + 3) ls (.long r :: rest))) : W p l e R s m args below meth c H locs cells slots Q (F0 m pc ls st0) := by
  intro T hT X
  rcases hr T hT X with ⟨v, st₀, t, T', L, h0, X', hL, e1, e2, ⟨⟨r, u, hv, hp, hb⟩, hF⟩, st⟩ | ⟨q, st₀, t, T', L, E, ce, h0, X', hL, e1, e2, ⟨u, hp, hb, hF⟩, hce, hcv, hcl, st⟩
  · cases hv
    obtain ⟨k1, k2, k3⟩ := vx_keep h0 e1 hS hA hf hL hF
    obtain ⟨t2, a1, b1⟩ := kk r u t T'.heap (locs ++ L) e1.symm (by rw [← e2]; exact X'.warmed.alike) hp hb k1 k2 k3 T' rfl X'
    exact ⟨t2, st t2 a1, b1⟩
  · obtain ⟨k1, k2, k3⟩ := vx_keep h0 e1 hS hAX hf hL hF
    obtain ⟨t2, a1, b1⟩ := kx E ce q u t T'.heap (locs ++ L) e1.symm (by rw [← e2]; exact X'.warmed.alike) hp hb k1 k2 k3 (by rw [e1]; exact hce) hcv hcl T' rfl X'
    exact ⟨t2, st.trans a1, b1⟩
theorem vx_callf {S SX : Type} {post : UInt32 → S → Prop} {px : SX → Prop} {B : S → State → Prop} {BX : String → SX → State → Prop} {AX : Nat → Prop} (hr : vx_Run p l e R s m args below meth c H locs cells slots mc ms (F0 m pc ls st0) rest (va_Qf post B A1 a) (vx_X px BX AX) free) (hS : va_S A0 H0 H locs) (hA : ∀ q, q < H.size → A1 q → A0 q) (hf : ∀ q, free q → A0 q) (hAX : ∀ q, q < H.size → AX q → A0 q)
    (kx : ∀ (E : String) (ce : Cell) (q9 : Addr) (u : SX) (t : State) (H1 : Heap) (locs1 : List Loc), t.heap = H1 → s.vm.Alike t.vm → px u → BX E u t → H.size ≤ H1.size → (∀ q : Nat, q < H.size → ¬ AX q → H1[q]? = H[q]?) → va_S A0 H0 H1 locs1 → H1[q9]? = some ce → ce.vm = .none → s.vm.findClass E = some ce.cls → vx_W p l e R s m args below meth c H1 locs1 (cells + mc) (slots + ms) Q (F0 m pc ls rest) q9)
    (kk : ∀ (r : UInt32) (u : S) (t : State) (H1 : Heap) (locs1 : List Loc), t.heap = H1 → s.vm.Alike t.vm → post r u → B u t → H.size ≤ H1.size → (∀ q : Nat, q < H.size → ¬ A1 q → H1[q]? = H[q]?) → va_S A0 H0 H1 locs1 → W p l e R s m args below meth c H1 locs1 (cells + mc) (slots + ms) Q (F0 m (pc + 3) ls (.float r :: rest))) : W p l e R s m args below meth c H locs cells slots Q (F0 m pc ls st0) := by
  intro T hT X
  rcases hr T hT X with ⟨v, st₀, t, T', L, h0, X', hL, e1, e2, ⟨⟨r, u, hv, hp, hb⟩, hF⟩, st⟩ | ⟨q, st₀, t, T', L, E, ce, h0, X', hL, e1, e2, ⟨u, hp, hb, hF⟩, hce, hcv, hcl, st⟩
  · cases hv
    obtain ⟨k1, k2, k3⟩ := vx_keep h0 e1 hS hA hf hL hF
    obtain ⟨t2, a1, b1⟩ := kk r u t T'.heap (locs ++ L) e1.symm (by rw [← e2]; exact X'.warmed.alike) hp hb k1 k2 k3 T' rfl X'
    exact ⟨t2, st t2 a1, b1⟩
  · obtain ⟨k1, k2, k3⟩ := vx_keep h0 e1 hS hAX hf hL hF
    obtain ⟨t2, a1, b1⟩ := kx E ce q u t T'.heap (locs ++ L) e1.symm (by rw [← e2]; exact X'.warmed.alike) hp hb k1 k2 k3 (by rw [e1]; exact hce) hcv hcl T' rfl X'
    exact ⟨t2, st.trans a1, b1⟩
theorem vx_calld {S SX : Type} {post : UInt64 → S → Prop} {px : SX → Prop} {B : S → State → Prop} {BX : String → SX → State → Prop} {AX : Nat → Prop} (hr : vx_Run p l e R s m args below meth c H locs cells slots mc ms (F0 m pc ls st0) rest (va_Qd post B A1 a) (vx_X px BX AX) free) (hS : va_S A0 H0 H locs) (hA : ∀ q, q < H.size → A1 q → A0 q) (hf : ∀ q, free q → A0 q) (hAX : ∀ q, q < H.size → AX q → A0 q)
    (kx : ∀ (E : String) (ce : Cell) (q9 : Addr) (u : SX) (t : State) (H1 : Heap) (locs1 : List Loc), t.heap = H1 → s.vm.Alike t.vm → px u → BX E u t → H.size ≤ H1.size → (∀ q : Nat, q < H.size → ¬ AX q → H1[q]? = H[q]?) → va_S A0 H0 H1 locs1 → H1[q9]? = some ce → ce.vm = .none → s.vm.findClass E = some ce.cls → vx_W p l e R s m args below meth c H1 locs1 (cells + mc) (slots + ms) Q (F0 m pc ls rest) q9)
    (kk : ∀ (r : UInt64) (u : S) (t : State) (H1 : Heap) (locs1 : List Loc), t.heap = H1 → s.vm.Alike t.vm → post r u → B u t → H.size ≤ H1.size → (∀ q : Nat, q < H.size → ¬ A1 q → H1[q]? = H[q]?) → va_S A0 H0 H1 locs1 → W p l e R s m args below meth c H1 locs1 (cells + mc) (slots + ms) Q (F0 m (pc + 3) ls (.double r :: rest))) : W p l e R s m args below meth c H locs cells slots Q (F0 m pc ls st0) := by
  intro T hT X
  rcases hr T hT X with ⟨v, st₀, t, T', L, h0, X', hL, e1, e2, ⟨⟨r, u, hv, hp, hb⟩, hF⟩, st⟩ | ⟨q, st₀, t, T', L, E, ce, h0, X', hL, e1, e2, ⟨u, hp, hb, hF⟩, hce, hcv, hcl, st⟩
  · cases hv
    obtain ⟨k1, k2, k3⟩ := vx_keep h0 e1 hS hA hf hL hF
    obtain ⟨t2, a1, b1⟩ := kk r u t T'.heap (locs ++ L) e1.symm (by rw [← e2]; exact X'.warmed.alike) hp hb k1 k2 k3 T' rfl X'
    exact ⟨t2, st t2 a1, b1⟩
  · obtain ⟨k1, k2, k3⟩ := vx_keep h0 e1 hS hAX hf hL hF
    obtain ⟨t2, a1, b1⟩ := kx E ce q u t T'.heap (locs ++ L) e1.symm (by rw [← e2]; exact X'.warmed.alike) hp hb k1 k2 k3 (by rw [e1]; exact hce) hcv hcl T' rfl X'
    exact ⟨t2, st.trans a1, b1⟩
theorem vx_callv {S SX : Type} {post : S → Prop} {px : SX → Prop} {B : S → State → Prop} {BX : String → SX → State → Prop} {AX : Nat → Prop} (hr : vx_Run p l e R s m args below meth c H locs cells slots mc ms (F0 m pc ls st0) rest (va_Qv post B A1 a) (vx_X px BX AX) free) (hS : va_S A0 H0 H locs) (hA : ∀ q, q < H.size → A1 q → A0 q) (hf : ∀ q, free q → A0 q) (hAX : ∀ q, q < H.size → AX q → A0 q)
    (kx : ∀ (E : String) (ce : Cell) (q9 : Addr) (u : SX) (t : State) (H1 : Heap) (locs1 : List Loc), t.heap = H1 → s.vm.Alike t.vm → px u → BX E u t → H.size ≤ H1.size → (∀ q : Nat, q < H.size → ¬ AX q → H1[q]? = H[q]?) → va_S A0 H0 H1 locs1 → H1[q9]? = some ce → ce.vm = .none → s.vm.findClass E = some ce.cls → vx_W p l e R s m args below meth c H1 locs1 (cells + mc) (slots + ms) Q (F0 m pc ls rest) q9)
    (kk : ∀ (u : S) (t : State) (H1 : Heap) (locs1 : List Loc), t.heap = H1 → s.vm.Alike t.vm → post u → B u t → H.size ≤ H1.size → (∀ q : Nat, q < H.size → ¬ A1 q → H1[q]? = H[q]?) → va_S A0 H0 H1 locs1 → W p l e R s m args below meth c H1 locs1 (cells + mc) (slots + ms) Q (F0 m (pc + 3) ls (rest))) : W p l e R s m args below meth c H locs cells slots Q (F0 m pc ls st0) := by
  intro T hT X
  rcases hr T hT X with ⟨v, st₀, t, T', L, h0, X', hL, e1, e2, ⟨⟨u, hv, hp, hb⟩, hF⟩, st⟩ | ⟨q, st₀, t, T', L, E, ce, h0, X', hL, e1, e2, ⟨u, hp, hb, hF⟩, hce, hcv, hcl, st⟩
  · cases hv
    obtain ⟨k1, k2, k3⟩ := vx_keep h0 e1 hS hA hf hL hF
    obtain ⟨t2, a1, b1⟩ := kk u t T'.heap (locs ++ L) e1.symm (by rw [← e2]; exact X'.warmed.alike) hp hb k1 k2 k3 T' rfl X'
    exact ⟨t2, st t2 a1, b1⟩
  · obtain ⟨k1, k2, k3⟩ := vx_keep h0 e1 hS hAX hf hL hF
    obtain ⟨t2, a1, b1⟩ := kx E ce q u t T'.heap (locs ++ L) e1.symm (by rw [← e2]; exact X'.warmed.alike) hp hb k1 k2 k3 (by rw [e1]; exact hce) hcv hcl T' rfl X'
    exact ⟨t2, st.trans a1, b1⟩
/-- caught by the row x of this method's table; the rows ahead don't take it -/
theorem vx_catch {own name : String} {E : String} {ce : Cell} {q : Addr} (hown : s.vm.findClass own = some m.cls) (pre : List ExceptionTableEntry) (x : ExceptionTableEntry) (suf : List ExceptionTableEntry) (hsplit : c.exceptionTable.toList = pre ++ x :: suf)
    (hpass : ∀ z ∈ pre, covers z pc = false ∨ (z.catchType ≠ 0 ∧ ∃ nm : String, (Cond.classLink own z.catchType nm).before args s = true ∧ va_Nc E nm s)) (hx : covers x pc = true) (h0 : x.catchType ≠ 0)
    (hlink : (Cond.classLink own x.catchType name).before args s = true) (hcast : (Cond.castable E name).before args s = true) (hcell : H[q]? = some ce) (hv : ce.vm = .none) (hcl : s.vm.findClass E = some ce.cls)
    (kk : W p l e R s m args below meth c H locs cells slots Q (F0 m x.handlerPc ls [.ref q])) : vx_W p l e R s m args below meth c H locs cells slots Q (F0 m pc ls rest) q := by
  intro T hT X
  have hpl : e.platform.magicAccessors = ({} : Platform).magicAccessors := by rw [X.admits.platform]
  obtain ⟨c3, c4, hc3, hc4, hasg⟩ := Cond.castable_spec hcast
  cases Option.some.inj (hc3.symm.trans hcl)
  obtain ⟨c5, hc5, hcl5⟩ := Cond.classLink_spec hown hlink e.platform hpl
  cases Option.some.inj (hc4.symm.trans hc5)
  obtain ⟨vm', X', st⟩ := X.thenCaughtThrough q (g := F0 m pc ls rest) rfl (Steps.refl _) (by rw [hT]; exact hcell) (by rw [hv]; rfl) (by obtain ⟨k9, h9, -⟩ := Vm.findClass_spec hcl; exact ⟨k9, h9⟩) pre x suf hsplit
    (fun z hz => by
      rcases hpass z hz with h | ⟨hz0, nm, hl1, hn1⟩
      · exact Or.inl h
      · obtain ⟨c6, hc6, hcl6⟩ := Cond.classLink_spec hown hl1 e.platform hpl
        obtain ⟨a8, b8, h1, h2, h3⟩ := hn1
        cases Option.some.inj (h1.symm.trans hcl)
        cases Option.some.inj (h2.symm.trans hc6)
        exact Or.inr ⟨hz0, _, hcl6, h3⟩) hx (Or.inr ⟨h0, c4, hcl5, hasg⟩)
  obtain ⟨t, a1, b1⟩ := kk (T.setVm vm') hT X'
  exact ⟨t, st.trans a1, b1⟩
end Rows
section Ends
variable {p : Program} {l : Launch} {e : Env} {R : Room} {s : State} {m : MethodId} {args : Array Value} {below : List Frame} {meth : Method} {c : Code} {H : Heap} {locs : List Loc} {cells slots : Nat} {Q : State → Prop}
variable {mc ms : Nat} {free : Addr → Prop} {A0 A1 : Nat → Prop} {H0 : Heap} {a : Array Value} {ls : Array Slot} {st0 rest : List Value}
variable {Qc : Array Value → State → Outcome → State → Prop} {XC : String → State → State → Prop}
/-- what a body that may throw owes at its end -/
def vx_MQ (below : List Frame) (Qc : Array Value → State → Outcome → State → Prop) (XC : String → State → State → Prop) (a : Array Value) (s : State) (mc ms : Nat) (free : Addr → Prop) : State → Prop := fun t =>
  ∃ o, t.status = .running ∧ Ended t below o ∧ vx_Q Qc XC mc ms free a s o t
theorem vx_ret {g : JFrame} {mc ms : Nat} (k : W p l e R s m args below meth c H locs cells slots (MQ below Qc args s mc ms free) g) : W p l e R s m args below meth c H locs cells slots (vx_MQ below Qc XC args s mc ms free) g := by
  intro T hT X
  obtain ⟨t, a1, o, b1, b2, b3, b4⟩ := k T hT X
  exact ⟨t, a1, o, b1, b2, Or.inl ⟨b3, b4⟩⟩
/-- not caught here: it goes on to the caller -/
theorem vx_widen {g : JFrame} {q : Addr} {k n : Nat} (h1 : cells ≤ k) (h2 : slots ≤ n) (kk : vx_W p l e R s m args below meth c H locs k n Q g q) : vx_W p l e R s m args below meth c H locs cells slots Q g q := fun T hT X => kk T hT (stand_widen X h1 h2)
theorem vx_out {pc : Nat} {E : String} {ce : Cell} {q : Addr} {mc ms : Nat} (hout : ∀ x ∈ c.exceptionTable.toList, covers x pc = false) (hlocks : meth.locks = false) (hcell : H[q]? = some ce) (hv : ce.vm = .none) (hcl : s.vm.findClass E = some ce.cls)
    (hx : ∀ t : State, t.heap = H → s.vm.Alike t.vm → XC E s t) (hf : ∀ z ∈ locs, free z.base) (hc : cells ≤ mc) (hs : slots ≤ ms) :
    vx_W p l e R s m args below meth c H locs cells slots (vx_MQ below Qc XC args s mc ms free) (F0 m pc ls rest) q := by
  intro T hT X
  obtain ⟨st1, hrun, hend, hW, hsm⟩ := X.leaveThrown q (g := F0 m pc ls rest) rfl rfl rfl hout hlocks
  have hcell9 : (T.setFrames (.throwing q :: below)).heap[q]? = some ce := by
    show T.heap[q]? = some ce
    rw [hT]; exact hcell
  exact ⟨_, st1, .threw q, hrun, hend, Or.inr ⟨q, rfl, E, ce, locs, hx _ hT hW.alike, hcell9, hv, hcl, hW, hsm.mono hc hs, hf⟩⟩
theorem vx_frame {U : State} {k n : Nat} (h : s.sameButNew ({ U with vm := s.vm } : State) locs k n) : s.heap.size ≤ U.heap.size ∧ ∀ q : Nat, q < s.heap.size → (∀ z ∈ locs, z.base ≠ q) → U.heap[q]? = s.heap[q]? := by
  obtain ⟨-, h2, -, -, -, h6⟩ := h
  refine ⟨h2, fun q hq hz => ?_⟩
  obtain ⟨c9, e1, e2, e3, e4⟩ := h6 q _ (Array.getElem?_eq_getElem hq)
  have hs : c9.slots = (s.heap[q]).slots := Array.ext_getElem? fun i => e4 i fun hm => hz _ hm rfl
  have h9 : c9 = s.heap[q] := by
    rw [hs] at e2
    exact e2
  have e5 : U.heap[q]? = some c9 := e1
  rw [e5, h9, Array.getElem?_eq_getElem hq]
/-- the words of a throw but the four that speak of the heap -/
def vx_no (w : Cond) : Bool := decide (w ≠ .isRef (.static Bundle.tN "UNASSIGNED_STACK" Bundle.steD)) && decide (w ≠ .isRef (.static Bundle.tN "SUPPRESSED_SENTINEL" Bundle.listD)) && decide (w ≠ .laysStatic Bundle.tN "UNASSIGNED_STACK" Bundle.steD) && decide (w ≠ .laysStatic Bundle.tN "SUPPRESSED_SENTINEL" Bundle.listD)
def vx_at0 (own : String) (ic : Nat) (X : String) (names : List String) : List Cond := (Bundle.ownAtoms0 own ic X names).filter vx_no
def vx_atS (own : String) (ic : Nat) (X : String) (names : List String) : List Cond := (Bundle.ownAtoms own ic X names).filter vx_no
/-- a word that the tables alone decide, or a good one -/
def vx_ot (w : Cond) : Bool := w.onTables || goodWord w
theorem vx_ot_at {args a' : Array Value} {s U : State} {w : Cond} (hW : s.WarmedH U.vm) (hvm : s.vm = U.vm) (hg : vx_ot w = true) (h : w.before args s = true) : w.before a' U = true := by
  simp only [vx_ot, Bool.or_eq_true] at hg
  rcases hg with hg | hg
  · exact va_tabs hg hvm h
  · exact word_at hW (good_of_word hg) h
/-- a list's words: the good ones out of the method's own list, the others by premises of their own -/
theorem vx_hat {args : Array Value} {s : State} {L B : List Cond} (h1 : ∀ w ∈ L.filter goodWord, w.before args s = true) (h2 : ∀ w ∈ L.filter (fun w => !goodWord w), w ∈ B) (h3 : ∀ w ∈ B, w.before args s = true) : ∀ w ∈ L, w.before args s = true := by
  intro w hw
  by_cases g : goodWord w = true
  · exact h1 w (List.mem_filter.mpr ⟨hw, g⟩)
  · refine h3 w (h2 w (List.mem_filter.mpr ⟨hw, ?_⟩))
    show (!goodWord w) = true
    cases hgw : goodWord w
    · rfl
    · exact absurd hgw g
theorem vx_c {args : Array Value} {s : State} {w : Cond} {B : List Cond} (h : w.before args s = true) (t : ∀ w ∈ B, w.before args s = true) : ∀ w' ∈ w :: B, w'.before args s = true := fun w' h' => (List.mem_cons.mp h').elim (fun e => by rw [e]; exact h) (t w')
theorem vx_n {args : Array Value} {s : State} : ∀ w ∈ ([] : List Cond), w.before args s = true := fun _ h => nomatch h
theorem vx_own {args : Array Value} {s : State} {L : List Cond} (h1 : ∀ w ∈ L.filter vx_no, w.before args s = true)
    (hU : (Cond.isRef (.static Bundle.tN "UNASSIGNED_STACK" Bundle.steD)).before args s = true) (hN : (Cond.isRef (.static Bundle.tN "SUPPRESSED_SENTINEL" Bundle.listD)).before args s = true)
    (lU : (Cond.laysStatic Bundle.tN "UNASSIGNED_STACK" Bundle.steD).before args s = true) (lN : (Cond.laysStatic Bundle.tN "SUPPRESSED_SENTINEL" Bundle.listD).before args s = true) : ∀ w ∈ L, w.before args s = true := by
  intro w hw
  by_cases e1 : w = .isRef (.static Bundle.tN "UNASSIGNED_STACK" Bundle.steD)
  · rw [e1]; exact hU
  · by_cases e2 : w = .isRef (.static Bundle.tN "SUPPRESSED_SENTINEL" Bundle.listD)
    · rw [e2]; exact hN
    · by_cases e3 : w = .laysStatic Bundle.tN "UNASSIGNED_STACK" Bundle.steD
      · rw [e3]; exact lU
      · by_cases e4 : w = .laysStatic Bundle.tN "SUPPRESSED_SENTINEL" Bundle.listD
        · rw [e4]; exact lN
        · exact h1 w (List.mem_filter.mpr ⟨hw, by unfold vx_no; rw [decide_eq_true e1, decide_eq_true e2, decide_eq_true e3, decide_eq_true e4]; rfl⟩)
/-- where a static field lies, its class's statics cell in H -/
def vx_L (C n d : String) (A : Nat → Prop) (U : State) (H : Heap) : Prop := ∃ (c : ClassId) (k : Class) (i : Nat) (f : Field) (a : Nat) (cell : Cell), U.vm.findClass C = some c ∧ U.fieldFound? C n d = some (c, k, i, f) ∧ f.isStatic = true ∧ k.statics = some a ∧ H[a]? = some cell ∧ cell.vm.isStatics = true ∧ cell.cls = c ∧ f.slot < cell.slots.size ∧ k.staticTypes[f.slot]? = some f.type ∧ ¬ A a
theorem vx_L.moved {C n d : String} {A : Nat → Prop} {u U : State} {H : Heap} (hvm : u.vm.Alike U.vm) (h : vx_L C n d A u H) : vx_L C n d A U H := by
  obtain ⟨c, k, i, f, a, cell, h1, h2, h3, h4, h5, h6, h7, h8, h9, h10⟩ := h
  obtain ⟨k', hi', he⟩ := State.fieldFound?_setVm hvm h2
  exact ⟨c, k', i, f, a, cell, by rw [hvm.findClass]; exact h1, hi', h3, by rw [he]; exact h4, h5, h6, h7, h8, by rw [he]; exact h9, h10⟩
theorem vx_L.kept {C n d : String} {A : Nat → Prop} {U : State} {H H1 : Heap} (h : vx_L C n d A U H) (hq : ∀ a : Nat, a < H.size → ¬ A a → H1[a]? = H[a]?) : vx_L C n d A U H1 := by
  obtain ⟨c, k, i, f, a, cell, h1, h2, h3, h4, h5, h6, h7, h8, h9, h10⟩ := h
  exact ⟨c, k, i, f, a, cell, h1, h2, h3, h4, by rw [hq a (Array.getElem?_eq_some_iff.mp h5).1 h10]; exact h5, h6, h7, h8, h9, h10⟩
theorem vx_L.narrow {C n d : String} {A B : Nat → Prop} {U : State} {H : Heap} (h : vx_L C n d A U H) (hAB : ∀ q, B q → A q) : vx_L C n d B U H := by
  obtain ⟨c, k, i, f, a, cell, h1, h2, h3, h4, h5, h6, h7, h8, h9, h10⟩ := h
  exact ⟨c, k, i, f, a, cell, h1, h2, h3, h4, h5, h6, h7, h8, h9, fun z => h10 (hAB _ z)⟩
theorem vx_L.word {C n d : String} {A : Nat → Prop} {s : State} {args : Array Value} (h : vx_L C n d A s s.heap) : (Cond.laysStatic C n d).before args s = true := by
  obtain ⟨c, k, i, f, a, cell, h1, h2, h3, h4, h5, h6, h7, h8, h9, -⟩ := h
  show (Cond.laysStatic C n d).holds args s none s [] = true
  exact Cond.laysStatic_of h1 h2 h3 h4 h5 h6 h7 h8 h9
/-- .. and what it holds: null or some reference -/
def vx_Zq (C n d : String) (A : Nat → Prop) (U : State) (H : Heap) : Prop := va_Zq C n d A U H ∧ vx_L C n d A U H
theorem vx_Zq.moved {C n d : String} {A : Nat → Prop} {u U : State} {H : Heap} (hvm : u.vm.Alike U.vm) (h : vx_Zq C n d A u H) : vx_Zq C n d A U H := ⟨va_Zq.moved hvm h.1, vx_L.moved hvm h.2⟩
theorem vx_Zq.kept {C n d : String} {A : Nat → Prop} {U : State} {H H1 : Heap} (h : vx_Zq C n d A U H) (hq : ∀ a : Nat, a < H.size → ¬ A a → H1[a]? = H[a]?) : vx_Zq C n d A U H1 := ⟨va_Zq.kept h.1 hq, vx_L.kept h.2 hq⟩
theorem vx_Zq.narrow {C n d : String} {A B : Nat → Prop} {U : State} {H : Heap} (h : vx_Zq C n d A U H) (hAB : ∀ q, B q → A q) : vx_Zq C n d B U H := ⟨va_Zq.narrow h.1 hAB, vx_L.narrow h.2 hAB⟩
theorem vx_Zqof {args : Array Value} {s : State} {C n d : String} {A : Nat → Prop} (hl : (Cond.laysStatic C n d).before args s = true) (hini : (Cond.initialized C).before args s = true) (h : (Cond.isRef (.static C n d)).before args s = true) (hA : ∀ a : Nat, a < s.heap.size → ¬ A a) : vx_Zq C n d A s s.heap := by
  refine ⟨va_Zqof hl hini h hA, ?_⟩
  obtain ⟨c, k, i, f, a, cell, h1, h2, h3, h4, h5, h6, h7, h8, h9⟩ := Cond.laysStatic_spec hl
  exact ⟨c, k, i, f, a, cell, h1, h2, h3, h4, h5, h6, h7, h8, h9, hA a (Array.getElem?_eq_some_iff.mp h5).1⟩
theorem vx_isRef {C n d : String} {v : Value} {A : Nat → Prop} {s : State} {args : Array Value} (h : va_Z C n d v A s s.heap) (hv : v.isRef = true) : (Cond.isRef (.static C n d)).before args s = true := by
  obtain ⟨cf, kf, fi, f, a, cell, h1, h2, h3, h4, h5, h6, h7, -⟩ := h
  have he : (Term.static C n d).eval args s none [] s = some v := by
    simp [Term.eval, State.fieldNamed?, h1, h2, h4, h5, h6, h7]
  simp only [Cond.before, Cond.holds, Cond.value, he]
  cases v <;> simp_all [Value.isRef]
theorem vx_isRefq {C n d : String} {A : Nat → Prop} {s : State} {args : Array Value} (h : va_Zq C n d A s s.heap) : (Cond.isRef (.static C n d)).before args s = true := by
  rcases h with h | ⟨t, h⟩
  · exact vx_isRef h rfl
  · exact vx_isRef h rfl
/-- the same frame, seen from here: as if the method were called anew in this heap -/
theorem vx_rebase {T : State} (X : Stand p l e R s m args below meth c T locs cells slots) {R' : Room} (hf : R'.frames ≤ R.frames) (hl : R'.locals ≤ R.locals) (hc : cells + R'.cells ≤ R.cells) (hs : slots + R'.slots ≤ R.slots) :
    Stand p l e R' ((T.setVm s.vm).setFrames (.invoking m args :: below)) m args below meth c T [] 0 0 := by
  have htop : (T.setVm s.vm).topJava?.isSome := X.here.top
  have hF : ((T.setVm s.vm).setFrames (.invoking m args :: below)).frames = .invoking m args :: below := State.frames_setFrames _ (State.cur_lt_of_top htop)
  obtain ⟨g₀, hg0⟩ := Option.isSome_iff_exists.mp htop
  obtain ⟨r, hr⟩ := State.topJava?_eq_some.mp hg0
  have hl9 : e.platform.stackLimits (T.setVm s.vm).me = e.platform.stackLimits s.me := X.limits
  have hb9 : (T.setVm s.vm).me.stackBytes = s.me.stackBytes := X.bytes
  refine ⟨X.admits, X.cas, X.clock, hF, ?_, X.hears, X.method, X.code, X.here, X.tail, X.warmed, ?_, ?_, ?_⟩
  · have h := X.room
    have hU : ((T.setVm s.vm).setFrames (.invoking m args :: below)).localsInUse = s.localsInUse := by
      rw [State.localsInUse_invoking hF (meth := meth) (c := c) X.method X.code, State.localsInUse_invoking X.frames X.method X.code]
    simp only [State.hasRoom, Bool.and_eq_true, decide_eq_true_eq] at h ⊢
    obtain ⟨⟨⟨⟨h1, h2, h3, h4, h5, h6⟩, h7⟩, h8⟩, h9⟩ := h
    rw [X.frames, List.length_cons] at h2 h3
    have q1 := X.heapSize
    have q2 := X.used
    simp only [hF, hU, List.length_cons, State.stackLimits_setFrames, State.stackBytes_setFrames, hl9, hb9]
    refine ⟨⟨⟨⟨by omega, by omega, by omega, by omega, by omega, h6⟩, ?_⟩, ?_⟩, X.book⟩
    · show T.heap.size + R'.cells ≤ e.platform.maxCells
      omega
    · show T.slotsUsed + R'.slots ≤ e.platform.maxSlots
      omega
  · rw [State.stackLimits_setFrames]; rfl
  · rw [State.stackBytes_setFrames]; rfl
  · refine ⟨?_, Nat.le_refl _, Nat.le_refl _, ?_, ?_, fun a c9 h9 => ⟨c9, h9, rfl, rfl, fun _ _ => rfl⟩⟩
    · obtain ⟨t, ht, -⟩ := State.frames_cons hr
      show T.setVm s.vm = { ((T.setVm s.vm).setFrames (.invoking m args :: below)).setFrames (T.setVm s.vm).frames with heap := T.heap, slotsUsed := T.slotsUsed }
      rw [State.setFrames_setFrames, State.setFrames_self ht]
      rfl
    · show T.slotsUsed = T.slotsUsed + ((T.heap.toList.drop T.heap.size).map (·.slots.size)).sum
      rw [List.drop_eq_nil_of_le (Nat.le_of_eq Array.length_toList)]
      rfl
    · show ((T.heap.toList.drop T.heap.size).map (·.slots.size)).sum ≤ 0
      rw [List.drop_eq_nil_of_le (Nat.le_of_eq Array.length_toList)]
      exact Nat.le_refl _
/-- 'throw new E()': new; dup; invokespecial; athrow -/
theorem vx_throw0 {cc : ByteArray} {pc : Nat} (hexec : p.tables.exec = Jvm.exec) (hb : c.code = cc) (hl : l.stackTraces = false) {own cls : String} {names : List String} {ik ic mc ms : Nat} {A : Nat → Prop}
    (hown : s.vm.findClass own = some m.cls) (hcls : Bundle.fit cls = true) (hnames : ∀ n ∈ names, Bundle.fit n = true)
    (hk : (Cond.classLink own ik cls).before args s = true) (hini : (Cond.initialized cls).before args s = true) (hat : ∀ w ∈ vx_at0 own ic cls names, w.before args s = true)
    (hgood : ∀ w ∈ Cond.classLink own ik cls :: Cond.initialized cls :: vx_at0 own ic cls names, vx_ot w = true)
    (hU : vx_Zq Bundle.tN "UNASSIGNED_STACK" Bundle.steD A s s.heap) (hN : vx_Zq Bundle.tN "SUPPRESSED_SENTINEL" Bundle.listD A s s.heap) (hS : va_S A s.heap H locs) (hsize : ls.size = c.maxLocals)
    (d0 : decode cc pc = .ok (.new ik, 3)) (d3 : decode cc (pc + 3) = .ok (.dup, 1)) (d4 : decode cc (pc + 4) = .ok (.invokespecial ic, 3)) (d7 : decode cc (pc + 7) = .ok (.athrow, 1))
    (hout : ∀ x ∈ c.exceptionTable.toList, covers x (pc + 7) = false)
    (hRframes : names.length + 3 < R.frames) (hRlocals : (rest.map fun v => v.category).sum + (13 * (names.length + 1) + 42) ≤ R.locals) (hRcells : cells + 1 ≤ R.cells) (hRslots : slots + 6 ≤ R.slots) (hlocks : meth.locks = false)
    (hx : ∀ t : State, s.vm.Alike t.vm → H.size ≤ t.heap.size → (∀ q : Nat, q < H.size → t.heap[q]? = H[q]?) → XC cls s t)
    (hf : ∀ z ∈ locs, free z.base) (hc : cells + 1 ≤ mc) (hs : slots + 6 ≤ ms) :
    W p l e R s m args below meth c H locs cells slots (vx_MQ below Qc XC args s mc ms free) (F0 m pc ls rest) := by
  intro T hT X
  have htr : e.platform.stackTraces = false := (show e.platform.stackTraces = l.stackTraces by rw [X.admits.platform]).trans hl
  have Y := vx_rebase X (R' := { frames := R.frames, locals := R.locals, cells := 1, slots := 6 }) (Nat.le_refl _) (Nat.le_refl _) hRcells hRslots
  obtain ⟨s', hA⟩ : ∃ z, z = (T.setVm s.vm).setFrames (.invoking m args :: below) := ⟨_, rfl⟩
  rw [← hA] at Y
  have hvm : s'.vm = s.vm := by rw [hA]; rfl
  have hhp : s'.heap = H := by rw [hA]; exact hT
  have hW0 : s.WarmedH s'.vm := by rw [hvm]; exact State.WarmedH.refl s
  have hat' : ∀ w ∈ vx_at0 own ic cls names, w.before args s' = true := fun w hw => vx_ot_at hW0 hvm.symm (hgood w (List.mem_cons_of_mem _ (List.mem_cons_of_mem _ hw))) (hat w hw)
  have hk' : (Cond.classLink own ik cls).before args s' = true := vx_ot_at hW0 hvm.symm (hgood _ List.mem_cons_self) hk
  have hini' : (Cond.initialized cls).before args s' = true := vx_ot_at hW0 hvm.symm (hgood _ (List.mem_cons_of_mem _ List.mem_cons_self)) hini
  have hU' : vx_Zq Bundle.tN "UNASSIGNED_STACK" Bundle.steD A s' s'.heap := by rw [hhp]; exact vx_Zq.moved hW0.alike (hU.kept hS.2.1)
  have hN' : vx_Zq Bundle.tN "SUPPRESSED_SENTINEL" Bundle.listD A s' s'.heap := by rw [hhp]; exact vx_Zq.moved hW0.alike (hN.kept hS.2.1)
  have h : ∀ w ∈ Bundle.ownAtoms0 own ic cls names, w.before args s' = true := vx_own hat' (vx_isRefq hU'.1) (vx_isRefq hN'.1) hU'.2.word hN'.2.word
  have hown' : s'.vm.findClass own = some m.cls := by rw [hvm]; exact hown
  have hins : (Cond.instantiable cls 6).before args s' = true := h _ (by simp [Bundle.ownAtoms0])
  obtain ⟨vm₁, cX, kX, hfX, hkX, -, -, X₁, st1⟩ := Y.newCold hexec (own := own) (C := cls) (index := ik) (n := 6) hown' hk' hins hini'
    (g := F0 m pc ls rest) rfl (by rw [hb]; exact d0) (Nat.le_refl _) (Nat.le_refl _)
  generalize hT1 : (T.setVm vm₁).pushCell { cls := cX, slots := kX.instanceTypes.map defaultValue, vm := .none } = T1 at X₁ st1
  have hcat : (Value.ref T.heap.size).category = 1 := rfl
  have hcellA : T1.heap[T.heap.size]? = some (freshCell cX kX) := by rw [← hT1]; exact State.heap_pushCell_size _ _
  have d3' : decode c.code (pc + 3) = .ok (.dup, 1) := by rw [hb]; exact d3
  obtain ⟨U, hsteps, hrun, hend, hW, hsame, ce, hce, hO⟩ := X₁.ctorThrow0 hexec htr (own := own) (cls := cls) (names := names) (ic := ic) hown' hcls hnames h (fun x hx => nomatch hx) hfX hkX hcellA (by rw [hhp, hT]; exact Nat.le_refl _)
    (g := { method := m, pc := pc + 4, locals := ls, stack := .ref T.heap.size :: .ref T.heap.size :: rest, locked := none }) rfl hsize rfl rfl (rest := rest) rfl
    (by rw [hb]; exact d4) (by rw [hb]; exact d7) hout hRframes (by simp only [List.map_cons, List.sum_cons, hcat]; omega) hlocks
  obtain ⟨f1, f2⟩ := vx_frame hsame
  rw [hhp] at f1 f2
  have hWs : s.WarmedH U.vm := State.WarmedH.trans hW0 hW
  have hcl : s.vm.findClass cls = some ce.cls := by
    have h9 := hO.cls
    rw [hvm] at h9
    exact h9
  have hall : s.sameButNew ({ U with vm := s.vm } : State) locs mc ms := by
    subst hA
    obtain ⟨e1, e2⟩ := hsame
    rw [State.setFrames_setFrames] at e1
    have h2 : (T.setVm s.vm).sameButNew ({ U with vm := s.vm } : State) [] (0 + 1) (0 + 6) := ⟨e1, e2⟩
    have h3 := X.same.trans h2
    rw [List.append_nil] at h3
    exact h3.mono hc hs
  refine ⟨U, ?_, .threw T.heap.size, hrun, hend, Or.inr ⟨T.heap.size, rfl, cls, ce, locs, hx U hWs.alike f1 (fun q hq => f2 q hq (fun z hz => nomatch hz)), hce, hO.vm, hcl, hWs, hall, hf⟩⟩
  refine st1 _ ?_
  show Steps p.tables e below (T1.setTop { method := m, pc := pc + 3, locals := ls, stack := .ref T.heap.size :: rest, locked := none }) _
  jvm_step X₁.here [X₁.here.top, hexec, d3', Value.category]
  exact hsteps
/-- 'throw new E("text")': new; dup; ldc; invokespecial; athrow -/
theorem vx_throwS {cc : ByteArray} {pc : Nat} (hexec : p.tables.exec = Jvm.exec) (hb : c.code = cc) (hl : l.stackTraces = false) {own cls text : String} {names : List String} {ik is ic mc ms sa : Nat} {A : Nat → Prop}
    (hown : s.vm.findClass own = some m.cls) (hcls : Bundle.fit cls = true) (hnames : ∀ n ∈ names, Bundle.fit n = true)
    (hk : (Cond.classLink own ik cls).before args s = true) (hini : (Cond.initialized cls).before args s = true) (hstr : vk_R own is text sa s) (hat : ∀ w ∈ vx_atS own ic cls names, w.before args s = true)
    (hgood : ∀ w ∈ Cond.classLink own ik cls :: Cond.initialized cls :: vx_atS own ic cls names, vx_ot w = true)
    (hU : vx_Zq Bundle.tN "UNASSIGNED_STACK" Bundle.steD A s s.heap) (hN : vx_Zq Bundle.tN "SUPPRESSED_SENTINEL" Bundle.listD A s s.heap) (hS : va_S A s.heap H locs) (hsize : ls.size = c.maxLocals)
    (d0 : decode cc pc = .ok (.new ik, 3)) (d3 : decode cc (pc + 3) = .ok (.dup, 1)) (d4 : decode cc (pc + 4) = .ok (.ldc is, 2)) (d6 : decode cc (pc + 6) = .ok (.invokespecial ic, 3)) (d9 : decode cc (pc + 9) = .ok (.athrow, 1))
    (hout : ∀ x ∈ c.exceptionTable.toList, covers x (pc + 9) = false)
    (hRframes : names.length + 3 < R.frames) (hRlocals : (rest.map fun v => v.category).sum + (13 * (names.length + 1) + 43) ≤ R.locals) (hRcells : cells + 1 ≤ R.cells) (hRslots : slots + 6 ≤ R.slots) (hlocks : meth.locks = false)
    (hx : ∀ t : State, s.vm.Alike t.vm → H.size ≤ t.heap.size → (∀ q : Nat, q < H.size → t.heap[q]? = H[q]?) → XC cls s t)
    (hf : ∀ z ∈ locs, free z.base) (hc : cells + 1 ≤ mc) (hs : slots + 6 ≤ ms) :
    W p l e R s m args below meth c H locs cells slots (vx_MQ below Qc XC args s mc ms free) (F0 m pc ls rest) := by
  intro T hT X
  have htr : e.platform.stackTraces = false := (show e.platform.stackTraces = l.stackTraces by rw [X.admits.platform]).trans hl
  have Y := vx_rebase X (R' := { frames := R.frames, locals := R.locals, cells := 1, slots := 6 }) (Nat.le_refl _) (Nat.le_refl _) hRcells hRslots
  obtain ⟨s', hA⟩ : ∃ z, z = (T.setVm s.vm).setFrames (.invoking m args :: below) := ⟨_, rfl⟩
  rw [← hA] at Y
  have hvm : s'.vm = s.vm := by rw [hA]; rfl
  have hhp : s'.heap = H := by rw [hA]; exact hT
  have hW0 : s.WarmedH s'.vm := by rw [hvm]; exact State.WarmedH.refl s
  have hat' : ∀ w ∈ vx_atS own ic cls names, w.before args s' = true := fun w hw => vx_ot_at hW0 hvm.symm (hgood w (List.mem_cons_of_mem _ (List.mem_cons_of_mem _ hw))) (hat w hw)
  have hk' : (Cond.classLink own ik cls).before args s' = true := vx_ot_at hW0 hvm.symm (hgood _ List.mem_cons_self) hk
  have hini' : (Cond.initialized cls).before args s' = true := vx_ot_at hW0 hvm.symm (hgood _ (List.mem_cons_of_mem _ List.mem_cons_self)) hini
  have hU' : vx_Zq Bundle.tN "UNASSIGNED_STACK" Bundle.steD A s' s'.heap := by rw [hhp]; exact vx_Zq.moved hW0.alike (hU.kept hS.2.1)
  have hN' : vx_Zq Bundle.tN "SUPPRESSED_SENTINEL" Bundle.listD A s' s'.heap := by rw [hhp]; exact vx_Zq.moved hW0.alike (hN.kept hS.2.1)
  have h : ∀ w ∈ Bundle.ownAtoms own ic cls names, w.before args s' = true := vx_own hat' (vx_isRefq hU'.1) (vx_isRefq hN'.1) hU'.2.word hN'.2.word
  have hown' : s'.vm.findClass own = some m.cls := by rw [hvm]; exact hown
  have hins : (Cond.instantiable cls 6).before args s' = true := h _ (by simp [Bundle.ownAtoms])
  obtain ⟨vm₁, cX, kX, hfX, hkX, -, -, X₁, st1⟩ := Y.newCold hexec (own := own) (C := cls) (index := ik) (n := 6) hown' hk' hins hini'
    (g := F0 m pc ls rest) rfl (by rw [hb]; exact d0) (Nat.le_refl _) (Nat.le_refl _)
  generalize hT1 : (T.setVm vm₁).pushCell { cls := cX, slots := kX.instanceTypes.map defaultValue, vm := .none } = T1 at X₁ st1
  have hcat : (Value.ref T.heap.size).category = 1 := rfl
  have hcellA : T1.heap[T.heap.size]? = some (freshCell cX kX) := by rw [← hT1]; exact State.heap_pushCell_size _ _
  have d3' : decode c.code (pc + 3) = .ok (.dup, 1) := by rw [hb]; exact d3
  have d4' : decode c.code (pc + 4) = .ok (.ldc is, 2) := by rw [hb]; exact d4
  have hstr' : vk_R own is text sa s' := vk_R.warm hW0 hstr
  obtain ⟨U, hsteps, hrun, hend, hW, hsame, ce, hce, hO⟩ := X₁.ctorThrowS hexec htr (own := own) (cls := cls) (names := names) (ic := ic) hown' hcls hnames h (fun x hx => nomatch hx) hfX hkX hcellA (by rw [hhp, hT]; exact Nat.le_refl _) (msg := .ref sa) rfl
    (g := { method := m, pc := pc + 6, locals := ls, stack := .ref sa :: .ref T.heap.size :: .ref T.heap.size :: rest, locked := none }) rfl hsize rfl rfl (rest := rest) rfl
    (by rw [hb]; exact d6) (by rw [hb]; exact d9) hout hRframes (by simp only [List.map_cons, List.sum_cons, hcat]; omega) hlocks
  obtain ⟨f1, f2⟩ := vx_frame hsame
  rw [hhp] at f1 f2
  have hWs : s.WarmedH U.vm := State.WarmedH.trans hW0 hW
  have hcl : s.vm.findClass cls = some ce.cls := by
    have h9 := hO.cls
    rw [hvm] at h9
    exact h9
  have hall : s.sameButNew ({ U with vm := s.vm } : State) locs mc ms := by
    subst hA
    obtain ⟨e1, e2⟩ := hsame
    rw [State.setFrames_setFrames] at e1
    have h2 : (T.setVm s.vm).sameButNew ({ U with vm := s.vm } : State) [] (0 + 1) (0 + 6) := ⟨e1, e2⟩
    have h3 := X.same.trans h2
    rw [List.append_nil] at h3
    exact h3.mono hc hs
  refine ⟨U, ?_, .threw T.heap.size, hrun, hend, Or.inr ⟨T.heap.size, rfl, cls, ce, locs, hx U hWs.alike f1 (fun q hq => f2 q hq (fun z hz => nomatch hz)), hce, hO.vm, hcl, hWs, hall, hf⟩⟩
  refine st1 _ ?_
  show Steps p.tables e below (T1.setTop { method := m, pc := pc + 3, locals := ls, stack := .ref T.heap.size :: rest, locked := none }) _
  jvm_step X₁.here [X₁.here.top, hexec, d3', Value.category]
  exact X₁.ldcString hexec (own := own) (text := text) (index := is) (a := sa) hown' hstr'.1 hstr'.2
    (g := { method := m, pc := pc + 4, locals := ls, stack := .ref T.heap.size :: .ref T.heap.size :: rest, locked := none }) rfl d4' _ hsteps
/-- 'throw new E("text")', the text by a wide index -/
theorem vx_throwSW {cc : ByteArray} {pc : Nat} (hexec : p.tables.exec = Jvm.exec) (hb : c.code = cc) (hl : l.stackTraces = false) {own cls text : String} {names : List String} {ik is ic mc ms sa : Nat} {A : Nat → Prop}
    (hown : s.vm.findClass own = some m.cls) (hcls : Bundle.fit cls = true) (hnames : ∀ n ∈ names, Bundle.fit n = true)
    (hk : (Cond.classLink own ik cls).before args s = true) (hini : (Cond.initialized cls).before args s = true) (hstr : vk_R own is text sa s) (hat : ∀ w ∈ vx_atS own ic cls names, w.before args s = true)
    (hgood : ∀ w ∈ Cond.classLink own ik cls :: Cond.initialized cls :: vx_atS own ic cls names, vx_ot w = true)
    (hU : vx_Zq Bundle.tN "UNASSIGNED_STACK" Bundle.steD A s s.heap) (hN : vx_Zq Bundle.tN "SUPPRESSED_SENTINEL" Bundle.listD A s s.heap) (hS : va_S A s.heap H locs) (hsize : ls.size = c.maxLocals)
    (d0 : decode cc pc = .ok (.new ik, 3)) (d3 : decode cc (pc + 3) = .ok (.dup, 1)) (d4 : decode cc (pc + 4) = .ok (.ldc_w is, 3)) (d7 : decode cc (pc + 7) = .ok (.invokespecial ic, 3)) (d10 : decode cc (pc + 10) = .ok (.athrow, 1))
    (hout : ∀ x ∈ c.exceptionTable.toList, covers x (pc + 10) = false)
    (hRframes : names.length + 3 < R.frames) (hRlocals : (rest.map fun v => v.category).sum + (13 * (names.length + 1) + 43) ≤ R.locals) (hRcells : cells + 1 ≤ R.cells) (hRslots : slots + 6 ≤ R.slots) (hlocks : meth.locks = false)
    (hx : ∀ t : State, s.vm.Alike t.vm → H.size ≤ t.heap.size → (∀ q : Nat, q < H.size → t.heap[q]? = H[q]?) → XC cls s t)
    (hf : ∀ z ∈ locs, free z.base) (hc : cells + 1 ≤ mc) (hs : slots + 6 ≤ ms) :
    W p l e R s m args below meth c H locs cells slots (vx_MQ below Qc XC args s mc ms free) (F0 m pc ls rest) := by
  intro T hT X
  have htr : e.platform.stackTraces = false := (show e.platform.stackTraces = l.stackTraces by rw [X.admits.platform]).trans hl
  have Y := vx_rebase X (R' := { frames := R.frames, locals := R.locals, cells := 1, slots := 6 }) (Nat.le_refl _) (Nat.le_refl _) hRcells hRslots
  obtain ⟨s', hA⟩ : ∃ z, z = (T.setVm s.vm).setFrames (.invoking m args :: below) := ⟨_, rfl⟩
  rw [← hA] at Y
  have hvm : s'.vm = s.vm := by rw [hA]; rfl
  have hhp : s'.heap = H := by rw [hA]; exact hT
  have hW0 : s.WarmedH s'.vm := by rw [hvm]; exact State.WarmedH.refl s
  have hat' : ∀ w ∈ vx_atS own ic cls names, w.before args s' = true := fun w hw => vx_ot_at hW0 hvm.symm (hgood w (List.mem_cons_of_mem _ (List.mem_cons_of_mem _ hw))) (hat w hw)
  have hk' : (Cond.classLink own ik cls).before args s' = true := vx_ot_at hW0 hvm.symm (hgood _ List.mem_cons_self) hk
  have hini' : (Cond.initialized cls).before args s' = true := vx_ot_at hW0 hvm.symm (hgood _ (List.mem_cons_of_mem _ List.mem_cons_self)) hini
  have hU' : vx_Zq Bundle.tN "UNASSIGNED_STACK" Bundle.steD A s' s'.heap := by rw [hhp]; exact vx_Zq.moved hW0.alike (hU.kept hS.2.1)
  have hN' : vx_Zq Bundle.tN "SUPPRESSED_SENTINEL" Bundle.listD A s' s'.heap := by rw [hhp]; exact vx_Zq.moved hW0.alike (hN.kept hS.2.1)
  have h : ∀ w ∈ Bundle.ownAtoms own ic cls names, w.before args s' = true := vx_own hat' (vx_isRefq hU'.1) (vx_isRefq hN'.1) hU'.2.word hN'.2.word
  have hown' : s'.vm.findClass own = some m.cls := by rw [hvm]; exact hown
  have hins : (Cond.instantiable cls 6).before args s' = true := h _ (by simp [Bundle.ownAtoms])
  obtain ⟨vm₁, cX, kX, hfX, hkX, -, -, X₁, st1⟩ := Y.newCold hexec (own := own) (C := cls) (index := ik) (n := 6) hown' hk' hins hini'
    (g := F0 m pc ls rest) rfl (by rw [hb]; exact d0) (Nat.le_refl _) (Nat.le_refl _)
  generalize hT1 : (T.setVm vm₁).pushCell { cls := cX, slots := kX.instanceTypes.map defaultValue, vm := .none } = T1 at X₁ st1
  have hcat : (Value.ref T.heap.size).category = 1 := rfl
  have hcellA : T1.heap[T.heap.size]? = some (freshCell cX kX) := by rw [← hT1]; exact State.heap_pushCell_size _ _
  have d3' : decode c.code (pc + 3) = .ok (.dup, 1) := by rw [hb]; exact d3
  have d4' : decode c.code (pc + 4) = .ok (.ldc_w is, 3) := by rw [hb]; exact d4
  have hstr' : vk_R own is text sa s' := vk_R.warm hW0 hstr
  obtain ⟨U, hsteps, hrun, hend, hW, hsame, ce, hce, hO⟩ := X₁.ctorThrowS hexec htr (own := own) (cls := cls) (names := names) (ic := ic) hown' hcls hnames h (fun x hx => nomatch hx) hfX hkX hcellA (by rw [hhp, hT]; exact Nat.le_refl _) (msg := .ref sa) rfl
    (g := { method := m, pc := pc + 7, locals := ls, stack := .ref sa :: .ref T.heap.size :: .ref T.heap.size :: rest, locked := none }) rfl hsize rfl rfl (rest := rest) rfl
    (by rw [hb]; exact d7) (by rw [hb]; exact d10) hout hRframes (by simp only [List.map_cons, List.sum_cons, hcat]; omega) hlocks
  obtain ⟨f1, f2⟩ := vx_frame hsame
  rw [hhp] at f1 f2
  have hWs : s.WarmedH U.vm := State.WarmedH.trans hW0 hW
  have hcl : s.vm.findClass cls = some ce.cls := by
    have h9 := hO.cls
    rw [hvm] at h9
    exact h9
  have hall : s.sameButNew ({ U with vm := s.vm } : State) locs mc ms := by
    subst hA
    obtain ⟨e1, e2⟩ := hsame
    rw [State.setFrames_setFrames] at e1
    have h2 : (T.setVm s.vm).sameButNew ({ U with vm := s.vm } : State) [] (0 + 1) (0 + 6) := ⟨e1, e2⟩
    have h3 := X.same.trans h2
    rw [List.append_nil] at h3
    exact h3.mono hc hs
  refine ⟨U, ?_, .threw T.heap.size, hrun, hend, Or.inr ⟨T.heap.size, rfl, cls, ce, locs, hx U hWs.alike f1 (fun q hq => f2 q hq (fun z hz => nomatch hz)), hce, hO.vm, hcl, hWs, hall, hf⟩⟩
  refine st1 _ ?_
  show Steps p.tables e below (T1.setTop { method := m, pc := pc + 3, locals := ls, stack := .ref T.heap.size :: rest, locked := none }) _
  jvm_step X₁.here [X₁.here.top, hexec, d3', Value.category]
  exact X₁.ldcStringW hexec (own := own) (text := text) (index := is) (a := sa) hown' hstr'.1 hstr'.2
    (g := { method := m, pc := pc + 4, locals := ls, stack := .ref T.heap.size :: .ref T.heap.size :: rest, locked := none }) rfl d4' _ hsteps
end Ends
section Bodies
variable {l : Launch}
theorem vx_ofW {y : MethodName} {ws ws' : List Cond} {rm : Room} {Pc : Array Value → State → Prop} {Qc : Array Value → State → Outcome → State → Prop} {XC : String → State → State → Prop} {mc ms : Nat} {free : Addr → Prop} {cc : ByteArray} {maxL : Nat} {ret : Option FieldType}
    (hy : plainName y.cls = true) (hw : ws = Cond.code y cc maxL ret :: ws')
    (body : ∀ p e s m args below meth c s₁, BodyLoose p l y (headSpec ws rm) cc maxL ret e s m args below meth c s₁ → c.maxLocals = maxL → (∀ x ∈ c.exceptionTable.toList, False) → Pc args s →
      W p l e (headSpec ws rm).room s m args below meth c s.heap [] 0 0 (vx_MQ below Qc XC args s mc ms free) (entryFrame m args maxL)) : vx_Met l y ws rm Pc Qc XC mc ms free := by
  refine MetFree.of_bodyS (code := cc) (maxLocals := maxL) (ret := ret) hy ?_ ?_
  · intro args s m h hn
    obtain ⟨meth, c, h1, h2, h3, h4, h5, h6, -, -⟩ := Cond.code_spec hn (atoms_spec (ws := ws) h _ (by rw [hw]; exact List.mem_cons_self))
    exact ⟨meth, c, h1, h2, h3, h4, h5, h6⟩
  · intro p e s m args below meth c s₁ B hml hP _
    have hh0 : s₁.heap = s.heap := by rw [B.state]; rfl
    have ht : ∀ x ∈ c.exceptionTable.toList, False := by
      obtain ⟨meth9, c9, h1, h2, -, -, -, -, h7, -⟩ := Cond.code_spec B.named (atoms_spec (ws := ws) B.pre _ (by rw [hw]; exact List.mem_cons_self))
      cases Option.some.inj (h1.symm.trans B.method)
      cases Option.some.inj (h2.symm.trans (Stand.of_body B).code)
      intro x hx
      rw [Array.isEmpty_iff.mp h7] at hx
      cases hx
    obtain ⟨t, a1, o, b1, b2, b3⟩ := body p e s m args below meth c s₁ B hml ht hP s₁ hh0 (Stand.of_body B)
    exact ⟨t, o, a1, b1, b2, b3⟩
/-- the table of a body with handlers -/
theorem vx_table {p : Program} {x y : MethodName} {S : Spec} {cc bytes : ByteArray} {maxL maxL' : Nat} {ret ret' : Option FieldType} {e : Env} {s s₁ : State} {m : MethodId} {args : Array Value} {below : List Frame} {meth : Method} {c : Code} {hh : List (Nat × Nat × Nat × Nat)}
    (B : BodyLoose p l y S cc maxL ret e s m args below meth c s₁) (h : (Cond.codeWith y bytes maxL' ret' hh).before args s = true) : c.exceptionTable.toList = tableOf hh := by
  obtain ⟨m9, meth9, c9, hn9, h1, h2, -, -, h6, -⟩ := Cond.codeWith_spec h
  cases Option.some.inj (hn9.symm.trans B.named)
  cases Option.some.inj (h1.symm.trans B.method)
  cases Option.some.inj (h2.symm.trans (Stand.of_body B).code)
  rw [← h6, table_eq]
end Bodies
end VXA
/-! ===== END ===== -/
/-! ===== BEGIN a static call of a method with an exception table ===== -/
section VXS
variable {p : Program} {l : Launch} {e : Env} {R : Room} {s : State} {m : MethodId} {args : Array Value} {below : List Frame} {meth : Method} {c : Code} {T : State} {H : Heap} {locs : List Loc} {cells slots : Nat}
abbrev vx_CSW (R : Room) (s : State) (args : Array Value) (own : String) (index : Nat) (y : MethodName) (bytes : ByteArray) (maxL : Nat) (ret : Option FieldType) (hh : List (Nat × Nat × Nat × Nat)) (ws : List Cond) (rm : Room) (mc ms n : Nat) : Prop :=
  (rm.cells = mc ∧ rm.slots = ms ∧ rm.frames + 1 ≤ R.frames ∧ 8 + (maxL + 11) + rm.locals ≤ R.locals ∧ (∀ w ∈ ws, ∀ (a' : Array Value) (U : State), s.WarmedH U.vm → w.before a' U = true) ∧ Cond.codeWith y bytes maxL ret hh ∈ ws) ∧
  (Cond.codeWith y bytes maxL ret hh).before args s = true ∧ (Cond.initialized y.cls).before args s = true ∧ (y.cls ≠ "java/lang/invoke/MethodHandle" ∧ y.cls ≠ "java/lang/invoke/VarHandle") ∧
  (∀ sig, parseMethodDescriptor y.desc = some sig → n = sig.parameters.length) ∧ (Cond.methodLink own index y).before args s = true ∧ (Cond.static y).before args s = true
theorem vx_cwSW {own : String} {index maxL mc ms : Nat} {y : MethodName} {bytes : ByteArray} {ret : Option FieldType} {hh : List (Nat × Nat × Nat × Nat)} {Ts ws ws' : List Cond} {rm : Room} (n : Nat) (ht : ∀ w ∈ Ts, w.before args s = true) (hT : GoodIn Ts (va_wsS own index y ws)) (hw : ws = Cond.codeWith y bytes maxL ret hh :: ws') (hrc : rm.cells = mc) (hrs : rm.slots = ms)
    (hd : y.cls ≠ "java/lang/invoke/MethodHandle" ∧ y.cls ≠ "java/lang/invoke/VarHandle" ∧ (parseMethodDescriptor y.desc).map (fun d => d.parameters.length) = some n) (hR : rm.frames + 1 ≤ R.frames ∧ 8 + (maxL + 11) + rm.locals ≤ R.locals) :
    vx_CSW R s args own index y bytes maxL ret hh ws rm mc ms n := by
  have ok : ∀ w ∈ va_wsS own index y ws, w.before args s = true := fun w h => ht w (hT w h).1
  have hG : GoodIn Ts ws := fun w h => hT w (by unfold va_wsS; exact List.mem_append_right _ h)
  have hc : Cond.codeWith y bytes maxL ret hh ∈ ws := by rw [hw]; exact List.mem_cons_self
  refine ⟨⟨hrc, hrs, hR.1, hR.2, pay_in ht hG, hc⟩, ht _ (hG _ hc).1, ok _ (by simp [va_wsS]), ⟨hd.1, hd.2.1⟩, fun sig h => ?_, ok _ (by simp [va_wsS]), ok _ (by simp [va_wsS])⟩
  have h2 := hd.2.2
  rw [h] at h2
  exact (Option.some.inj h2).symm
theorem vx_callSW (X : Stand p l e R s m args below meth c T locs cells slots) (hexec : p.tables.exec = Jvm.exec) {own : String} {index : Nat} {y : MethodName} {bytes : ByteArray} {maxL : Nat} {ret : Option FieldType} {hh : List (Nat × Nat × Nat × Nat)}
    (hown : s.vm.findClass own = some m.cls) (hlink : (Cond.methodLink own index y).before args s = true) (hstat : (Cond.static y).before args s = true) (hinit : (Cond.initialized y.cls).before args s = true)
    (hcode : (Cond.codeWith y bytes maxL ret hh).before args s = true) (hy : y.cls ≠ "java/lang/invoke/MethodHandle" ∧ y.cls ≠ "java/lang/invoke/VarHandle")
    {W9 : Nat} {Pre : Pt → Array Value → Prop} {Post : Pt → Array Value → Option Value → Pt → Prop} (hK : Back l R p e below s args y 3 W9 Pre Post)
    {g : JFrame} (hg : g.method = m) (hsize : g.locals.size = c.maxLocals) {argsL rest : List Value} (hlen : ∀ sig, parseMethodDescriptor y.desc = some sig → argsL.length = sig.parameters.length)
    (hstack : g.stack = argsL.reverse ++ rest) (hW : 2 * g.monitorRoom + (rest.map fun v => v.category).sum ≤ W9) (hdg : decode c.code g.pc = .ok (.invokestatic index, 3))
    (hpre : ∀ vm₁, s.WarmedH vm₁ → Pre ⟨T.setVm vm₁, locs, cells, slots⟩ argsL.toArray) :
    ∃ (v : Option Value) (vm₁ : Vm) (B : Pt), s.WarmedH vm₁ ∧ Stand p l e R s m args below meth c B.U B.locs B.cells B.slots ∧ Post ⟨T.setVm vm₁, locs, cells, slots⟩ argsL.toArray v B ∧
      ∀ target, Steps p.tables e below (B.U.setTop { g with pc := g.pc + 3, stack := v.toList ++ rest }) target → Steps p.tables e below (T.setTop g) target := by
  obtain ⟨mk, methM, cM, hnamed, hmethM, -, -, -, -, -, -, hsigM⟩ := Cond.codeWith_spec hcode
  have hstatic : methM.isStatic = true := Cond.static_spec hnamed hmethM hstat
  obtain ⟨kP, hkP, -⟩ := className_of_methodNamed hnamed
  have hinitP : kP.init = .initialized := Cond.initialized_spec (findClass_of_methodNamed hnamed) hkP hinit
  obtain ⟨vm₁, X₁, hstep₁⟩ := X.invokestatic hexec hown hlink hnamed hmethM hstatic hkP hinitP hy (g := g) hg (argsL := argsL) (rest := rest) (hlen _ hsigM) hstack hdg
  obtain ⟨v, B, X', hpost, hsteps⟩ := hK m meth c ⟨T.setVm vm₁, locs, cells, slots⟩ { g with stack := rest } (.invokestatic index) mk argsL.toArray X₁ hg hsize hdg hW (X₁.named hnamed) (hpre vm₁ X₁.warmed)
  exact ⟨v, vm₁, B, X₁.warmed, X', hpost, fun target h => hstep₁ _ fun acts => by rw [doInvoke_state]; exact hsteps.trans h⟩
theorem vx_runSW {y : MethodName} {bytes cc : ByteArray} {maxL nL mc ms n index : Nat} {ret : Option FieldType} {hh : List (Nat × Nat × Nat × Nat)} {ws : List Cond} {rm : Room} {Pc : Array Value → State → Prop} {Qc : Array Value → State → Outcome → State → Prop} {free : Addr → Prop} {Ts : List Cond} {own : String} {As rest : List Value} {g : JFrame}
    (S : CallFix p m c cc nL s args Ts own) (hM : Met l y ws rm Pc Qc mc ms free) (cw : vx_CSW R s args own index y bytes maxL ret hh ws rm mc ms n) (hp : PreS s H Pc As)
    (hg : g.method = m) (hn : As.length = n) (hsize : g.locals.size = nL) (hstack : g.stack = As.reverse ++ rest) (hW : 2 * g.monitorRoom + (rest.map fun v => v.category).sum ≤ 8) (hdg : decode cc g.pc = .ok (.invokestatic index, 3)) (hf : cells + mc ≤ R.cells ∧ slots + ms ≤ R.slots) :
    va_Run p l e R s m args below meth c H locs cells slots mc ms g rest (Qc As.toArray) (free) := by
  obtain ⟨⟨hrc, hrs, hfr, hlo, hws, hcw⟩, hcode, hini, hy, hlen, hl, hstt⟩ := cw
  have hK : Back l R p e below s args y 3 8 (PreOf R mc ms Pc) (PostOf Qc mc ms free) := va_backW (hh := hh) (bytes := bytes) (maxL := maxL) (ret := ret) hM hp.1 hrc hrs hfr hlo hws hcw (fun a' U hW => word_at hW (Or.inl (by first | rfl | simp [Cond.onTables, Cond.keeps, Cond.steady])) hini)
  obtain ⟨hx, hb, hml, ho, -⟩ := S
  intro T hT X
  obtain ⟨v, vm₁, ⟨U', l2, c2, s2⟩, hW₁, X', ⟨g', mk, t, L, e1, e2, hq, h1, hL, h2, h3⟩, st⟩ := vx_callSW X hx (hh := hh) (bytes := bytes) (maxL := maxL) (ret := ret) ho hl hstt hini hcode hy hK hg (hsize.trans hml.symm) (argsL := As) (rest := rest) (fun sig h => hn.trans (hlen sig h)) hstack hW (by rw [hb]; exact hdg)
    (fun vm₁ hW₁ => ⟨hf.1, hf.2, hp.2 (T.setVm vm₁) hT hW₁⟩)
  dsimp only [Pt.U, Pt.locs, Pt.cells, Pt.slots] at X' e1 e2 h1 h2 h3 st
  subst h1; subst h2; subst h3
  exact ⟨v, (T.setVm vm₁).calling g' mk As.toArray, t, U', L, hT, X', hL, e1, e2, hq, st⟩
/-- not caught here, past rows that name other classes: it goes on to the caller -/
theorem vx_outP {p : Program} {l : Launch} {e : Env} {R : Room} {s : State} {m : MethodId} {args : Array Value} {below : List Frame} {meth : Method} {c : Code} {H : Heap} {locs : List Loc} {cells slots : Nat} {free : Addr → Prop} {ls : Array Slot} {rest : List Value} {Qc : Array Value → State → Outcome → State → Prop} {XC : String → State → State → Prop}
    {pc : Nat} {own E : String} {ce : Cell} {q : Addr} {mc ms : Nat} (hown : s.vm.findClass own = some m.cls) (hlocks : meth.locks = false)
    (hpass : ∀ z ∈ c.exceptionTable.toList, covers z pc = false ∨ (z.catchType ≠ 0 ∧ ∃ nm : String, (Cond.classLink own z.catchType nm).before args s = true ∧ va_Nc E nm s)) (hcell : H[q]? = some ce) (hv : ce.vm = .none) (hcl : s.vm.findClass E = some ce.cls)
    (hx : ∀ t : State, t.heap = H → s.vm.Alike t.vm → XC E s t) (hf : ∀ z ∈ locs, free z.base) (hc : cells ≤ mc) (hs : slots ≤ ms) :
    vx_W p l e R s m args below meth c H locs cells slots (vx_MQ below Qc XC args s mc ms free) (F0 m pc ls rest) q := by
  intro T hT X
  have hpl : e.platform.magicAccessors = ({} : Platform).magicAccessors := by rw [X.admits.platform]
  obtain ⟨vm', hW', X', st⟩ := X.outThrough hlocks q (g := F0 m pc ls rest) rfl rfl rfl (cell := ce) (by rw [hT]; exact hcell) (by rw [hv]; rfl)
    (by obtain ⟨k9, h9, -⟩ := Vm.findClass_spec hcl; exact ⟨k9, h9⟩) (fun z hz => by
      rcases hpass z hz with h | ⟨hz0, nm, hl1, hn1⟩
      · exact Or.inl h
      · obtain ⟨c6, hc6, hcl6⟩ := Cond.classLink_spec hown hl1 e.platform hpl
        obtain ⟨a8, b8, h1, h2, h3⟩ := hn1
        cases Option.some.inj (h1.symm.trans hcl)
        cases Option.some.inj (h2.symm.trans hc6)
        exact Or.inr ⟨hz0, _, hcl6, h3⟩)
  obtain ⟨g₀, hfr⟩ := X'.frames_eq
  have hcell9 : ((T.setVm vm').setFrames (.throwing q :: below)).heap[q]? = some ce := by
    show T.heap[q]? = some ce
    rw [hT]; exact hcell
  have hend : Ended ((T.setVm vm').setFrames (.throwing q :: below)) below (.threw q) := State.frames_setFrames _ (State.cur_lt_of_frames hfr)
  refine ⟨(T.setVm vm').setFrames (.throwing q :: below), ?_, .threw q, X'.here.running, hend, Or.inr ⟨q, rfl, E, ce, locs, hx _ hT (X'.ends _).1.alike, hcell9, hv, hcl, (X'.ends _).1, (X'.ends _).2.mono hc hs, hf⟩⟩
  rw [X.pushThrowing_eq]
  exact st
/-- a thing of a world lies in the heap -/
theorem vx_lt {D : va_G} {cl : List vw_C} {ws : va_W} {H1 : Heap} (h : va_P D cl ws H1) {k : Nat} {q : Nat × va_E} (hk : ws[k]? = some q) : q.1 < H1.size := (h k q hk).lt
end VXS
/-! ===== END ===== -/
/-! ===== BEGIN methods with a table of their own: called by a name, returning or throwing ===== -/
section VXH
/-! vx_backW, vx_callVX, vx_callSX, vx_callVW, vx_runVW, vx_runVX, vx_runSX, vx_ofWH follow the same proofs as their sisters above (Free/Laws.lean, Shelf42/LK1.lean); vx_outP calls Shelf42/NT130.lean (outThrough). -/
section
variable {l : Launch} {R : Room} {p : Program} {e : Env} {below : List Frame} {s : State} {sargs : Array Value} {y : MethodName} {len W9 : Nat}
theorem vx_backW {ws : List Cond} {rm : Room} {Pc : Array Value → State → Prop} {Qc : Array Value → State → Outcome → State → Prop} {XC : String → State → State → Prop} {mc ms : Nat} {free : Addr → Prop} {bytes : ByteArray} {maxL : Nat} {ret : Option FieldType} {hh : List (Nat × Nat × Nat × Nat)}
    (hM : vx_Met l y ws rm Pc Qc XC mc ms free) (hblind : FrameBlind Pc) (hrc : rm.cells = mc) (hrs : rm.slots = ms)
    (hframes : rm.frames + 1 ≤ R.frames) (hlocals : W9 + (maxL + 11) + rm.locals ≤ R.locals)
    (hws : ∀ w ∈ ws, ∀ a' U, s.WarmedH U.vm → w.before a' U = true) (hcode : Cond.codeWith y bytes maxL ret hh ∈ ws) (hinit : ∀ a' U, s.WarmedH U.vm → (Cond.initialized y.cls).before a' U = true) :
    vx_Back l R p e below s sargs y len W9 (PreOf R mc ms Pc) (PostOf Qc mc ms free) (vx_Post XC mc ms free) := by
  intro m meth c A g ig mk a X hg hsize hdg hW hn hp
  have h1 : (headSpec ws rm).pre.before a A.U = true := atoms_intro fun w hw => hws w hw _ _ X.warmed
  have h2 : (Cond.codeWith y bytes maxL ret hh).before a A.U = true := hws _ hcode _ _ X.warmed
  have h3 : (Cond.initialized y.cls).before a A.U = true := hinit _ _ X.warmed
  have h4 : A.cells + (headSpec ws rm).room.cells ≤ R.cells := by rw [show (headSpec ws rm).room.cells = mc from hrc]; exact hp.1
  have h5 : A.slots + (headSpec ws rm).room.slots ≤ R.slots := by rw [show (headSpec ws rm).room.slots = ms from hrs]; exact hp.2.1
  have hPc : Pc a (A.U.calling g mk a) := hblind _ _ _ _ hp.2.2
  obtain ⟨U, Ls, c0, s0⟩ := A
  dsimp only [Pt.U, Pt.locs, Pt.cells, Pt.slots] at h1 h2 h3 h4 h5 X hn hPc ⊢
  obtain ⟨m9, methY, cY, hn9, hmY, hcY, -, hlY, -⟩ := Cond.codeWith_spec h2
  cases Option.some.inj (hn9.symm.trans hn)
  obtain ⟨kY, hkY, -⟩ := className_of_methodNamed hn
  have hinitY : kY.init = .initialized := Cond.initialized_spec (findClass_of_methodNamed hn) hkY h3
  have h : At U g.method c below := by rw [hg]; exact X.here
  have hlocals9 : W9 + (maxL + 11) + (headSpec ws rm).room.locals ≤ R.locals := hlocals
  have happ : (headSpec ws rm).appliesLoose y e.platform (U.calling g mk a) = true :=
    Spec.appliesLoose_calling (g := g) h hdg hn hkY hinitY
      (X.room_calling (g := g) (R' := (headSpec ws rm).room) hsize hmY hcY hframes (by rw [hlY]; omega) h4 h5) h1
  obtain ⟨mid, hmid⟩ := h.above
  have hfr : (U.setTop g).frames = (.java g :: mid) ++ below := by rw [State.frames_setTop' g h.top, hmid]; rfl
  obtain ⟨o, s₂, hsteps, -, hend, hq⟩ := Steps.callFree hM p X.admits X.cas X.clock (acts := []) hfr happ hPc trivial
  have hq' : vx_Q Qc XC mc ms free a (U.calling g mk a) o s₂ := hq
  rw [State.frames_setTop' g h.top] at hend
  obtain ⟨g₀, hg0⟩ := Option.isSome_iff_exists.mp h.top
  obtain ⟨r, hr⟩ := State.topJava?_eq_some.mp hg0
  have hr' : (({ U with heap := s₂.heap, slotsUsed := s₂.slotsUsed } : State).setVm s₂.vm).frames = .java g₀ :: r := hr
  rcases hq' with ⟨hqc, L, hfe, hL⟩ | ⟨q, rfl, E, ce, L, hx, hce, hcv, hcl, hW₂, hsm, hL⟩
  · obtain ⟨⟨v, rfl⟩, hW₂, e2, q2, q3, q4, q5, q6⟩ := id hfe
    have e3 : s₂ = ({ (U.calling g mk a).setFrames s₂.frames with heap := s₂.heap, slotsUsed := s₂.slotsUsed } : State).setVm s₂.vm := by
      have : s₂ = ({ s₂ with vm := (U.calling g mk a).vm } : State).setVm s₂.vm := rfl
      rw [e2] at this
      exact this
    obtain ⟨c₂, i₂, len₂, hc₂, hd₂, hf₂⟩ := hend
    have hW' : U.WarmedH s₂.vm := hW₂
    have hcc : c₂ = c := by
      have h1 : s₂.code? g.method = U.code? g.method := by
        rw [State.code?_eq, State.code?_eq, hW'.alike.method?]
      exact Option.some.inj (hc₂.symm.trans (h1.trans h.code))
    subst hcc
    have hlen : len₂ = len := by rw [hdg] at hd₂; cases hd₂; rfl
    subst hlen
    have hs₂ : s₂ = (({ U with heap := s₂.heap, slotsUsed := s₂.slotsUsed } : State).setVm s₂.vm).setTop { g with pc := g.pc + len₂, stack := v.toList ++ g.stack } := by
      refine e3.trans ?_
      rw [hf₂, State.calling_eq h.top, State.setFrames_setFrames, State.setTop_of_frames _ hr', hr]
      rfl
    have hsame : U.sameButNew ({ U with heap := s₂.heap, slotsUsed := s₂.slotsUsed } : State) L mc ms := by
      refine ⟨?_, q2, q3, q4, q5, q6⟩
      obtain ⟨t, ht, -⟩ := State.frames_cons hr
      show ({ U with heap := s₂.heap, slotsUsed := s₂.slotsUsed } : State) = { U.setFrames U.frames with heap := s₂.heap, slotsUsed := s₂.slotsUsed }
      rw [State.setFrames_self ht]
    subst hg
    refine Or.inl ⟨v, ⟨(({ U with heap := s₂.heap, slotsUsed := s₂.slotsUsed } : State).setVm s₂.vm), Ls ++ L, c0 + mc, s0 + ms⟩,
      ⟨X.admits, X.cas, X.clock, X.frames, X.room, X.hears, X.method, X.code, (X.here.setHeapUsed s₂.heap s₂.slotsUsed).setVm hW'.alike, X.tail, State.WarmedH.trans X.warmed hW', X.limits, X.bytes, X.same.trans (hsame.setVm s.vm)⟩,
      ⟨g, mk, s₂, L, rfl, rfl, hqc, rfl, hL, rfl, rfl⟩, ?_⟩
    show Steps p.tables e below _ ((({ U with heap := s₂.heap, slotsUsed := s₂.slotsUsed } : State).setVm s₂.vm).setTop { g with pc := g.pc + len₂, stack := v.toList ++ g.stack })
    rw [← hs₂]
    exact hsteps
  · obtain ⟨e2, q2, q3, q4, q5, q6⟩ := id hsm
    have e3 : s₂ = ({ (U.calling g mk a).setFrames s₂.frames with heap := s₂.heap, slotsUsed := s₂.slotsUsed } : State).setVm s₂.vm := by
      have : s₂ = ({ s₂ with vm := (U.calling g mk a).vm } : State).setVm s₂.vm := rfl
      rw [e2] at this
      exact this
    have hf₂ : s₂.frames = .throwing q :: .java g :: U.frames.tail := hend
    have hW' : U.WarmedH s₂.vm := hW₂
    have hs₂ : s₂ = ((({ U with heap := s₂.heap, slotsUsed := s₂.slotsUsed } : State).setVm s₂.vm).setTop g).pushFrame (.throwing q) := by
      refine e3.trans ?_
      rw [hf₂, State.calling_eq h.top, State.setFrames_setFrames, State.pushFrame, State.frames_setTop _ hr', State.setTop_of_frames _ hr', State.setFrames_setFrames, hr]
      rfl
    have hsame : U.sameButNew ({ U with heap := s₂.heap, slotsUsed := s₂.slotsUsed } : State) L mc ms := by
      refine ⟨?_, q2, q3, q4, q5, q6⟩
      obtain ⟨t, ht, -⟩ := State.frames_cons hr
      show ({ U with heap := s₂.heap, slotsUsed := s₂.slotsUsed } : State) = { U.setFrames U.frames with heap := s₂.heap, slotsUsed := s₂.slotsUsed }
      rw [State.setFrames_self ht]
    subst hg
    refine Or.inr ⟨q, ⟨(({ U with heap := s₂.heap, slotsUsed := s₂.slotsUsed } : State).setVm s₂.vm), Ls ++ L, c0 + mc, s0 + ms⟩,
      ⟨X.admits, X.cas, X.clock, X.frames, X.room, X.hears, X.method, X.code, (X.here.setHeapUsed s₂.heap s₂.slotsUsed).setVm hW'.alike, X.tail, State.WarmedH.trans X.warmed hW', X.limits, X.bytes, X.same.trans (hsame.setVm s.vm)⟩,
      ⟨g, mk, s₂, L, E, ce, rfl, rfl, hx, hce, hcv, hcl, rfl, hL, rfl, rfl⟩, ?_⟩
    show Steps p.tables e below _ (((({ U with heap := s₂.heap, slotsUsed := s₂.slotsUsed } : State).setVm s₂.vm).setTop g).pushFrame (.throwing q))
    rw [← hs₂]
    exact hsteps
end
variable {p : Program} {l : Launch} {e : Env} {R : Room} {s : State} {m : MethodId} {args : Array Value} {below : List Frame} {meth : Method} {c : Code} {T : State} {H : Heap} {locs : List Loc} {cells slots : Nat}
theorem vx_callVX (X : Stand p l e R s m args below meth c T locs cells slots) (hexec : p.tables.exec = Jvm.exec) {own C : String} {index : Nat} {y : MethodName} {bytes : ByteArray} {maxL : Nat} {ret : Option FieldType} {hh : List (Nat × Nat × Nat × Nat)}
    (hown : s.vm.findClass own = some m.cls) (hlink : (Cond.methodLink own index y).before args s = true) (hinst : (Cond.instanceMethod y).before args s = true) (hsel : (Cond.selects C y y).before args s = true)
    (hcode : (Cond.codeWith y bytes maxL ret hh).before args s = true) (hy : y.cls ≠ "java/lang/invoke/MethodHandle" ∧ y.cls ≠ "java/lang/invoke/VarHandle")
    {W9 : Nat} {Pre : Pt → Array Value → Prop} {Post : Pt → Array Value → Option Value → Pt → Prop} {PostX : Pt → Array Value → Addr → Pt → Prop} (hK : vx_Back l R p e below s args y 3 W9 Pre Post PostX)
    {b : Addr} {cellB : Cell} (hcell : T.heap[b]? = some cellB) (hobj : cellB.vm.isStatics = false) (hcls : s.vm.findClass C = some cellB.cls)
    {g : JFrame} (hg : g.method = m) (hsize : g.locals.size = c.maxLocals) {argsL rest : List Value} (hlen : ∀ sig, parseMethodDescriptor y.desc = some sig → argsL.length = sig.parameters.length)
    (hstack : g.stack = argsL.reverse ++ .ref b :: rest) (hW : 2 * g.monitorRoom + (rest.map fun v => v.category).sum ≤ W9) (hdg : decode c.code g.pc = .ok (.invokevirtual index, 3))
    (hpre : ∀ vm₁, s.WarmedH vm₁ → Pre ⟨T.setVm vm₁, locs, cells, slots⟩ (Value.ref b :: argsL).toArray) :
    (∃ (v : Option Value) (vm₁ : Vm) (B : Pt), s.WarmedH vm₁ ∧ Stand p l e R s m args below meth c B.U B.locs B.cells B.slots ∧ Post ⟨T.setVm vm₁, locs, cells, slots⟩ (Value.ref b :: argsL).toArray v B ∧
      ∀ target, Steps p.tables e below (B.U.setTop { g with pc := g.pc + 3, stack := v.toList ++ rest }) target → Steps p.tables e below (T.setTop g) target) ∨
    (∃ (q : Addr) (vm₁ : Vm) (B : Pt), s.WarmedH vm₁ ∧ Stand p l e R s m args below meth c B.U B.locs B.cells B.slots ∧ PostX ⟨T.setVm vm₁, locs, cells, slots⟩ (Value.ref b :: argsL).toArray q B ∧
      Steps p.tables e below (T.setTop g) ((B.U.setTop { g with stack := rest }).pushFrame (.throwing q))) := by
  obtain ⟨mk, methM, hnamed, hmethM, hstM, habM⟩ := Cond.instanceMethod_spec hinst
  obtain ⟨m8, methM', cM, hn8, hmethM', -, -, -, -, -, -, hsigM⟩ := Cond.codeWith_spec hcode
  cases Option.some.inj (hn8.symm.trans hnamed)
  cases hmethM.symm.trans hmethM'
  obtain ⟨c2, r2, m2, q1, q2, q3, q4, kP, hkP, hkPi⟩ := Cond.selects_spec hsel
  cases hcls.symm.trans q1
  cases (State.methodFound?_of_named hnamed hy).symm.trans q2
  cases hnamed.symm.trans q3
  have hselP : selectMethod e.platform s.vm cellB.cls mk = .method mk := by rw [Launch.admits_selectMethod X.admits]; exact q4
  obtain ⟨vm₁, X₁, hstep₁⟩ := X.invokevirtual hexec hown hlink hnamed hmethM hstM hkP hkPi hy (a := b) (cell := cellB) hcell
    (fun z h => by rw [h] at hobj; cases hobj) hselP hmethM habM hkP hkPi (g := g) hg (argsL := argsL) (rest := rest) (hlen _ hsigM) hstack hdg
  rcases hK m meth c ⟨T.setVm vm₁, locs, cells, slots⟩ { g with stack := rest } (.invokevirtual index) mk (Value.ref b :: argsL).toArray X₁ hg hsize hdg hW (X₁.named hnamed) (hpre vm₁ X₁.warmed) with ⟨v, B, X', hpost, hsteps⟩ | ⟨q, B, X', hpost, hsteps⟩
  · exact Or.inl ⟨v, vm₁, B, X₁.warmed, X', hpost, fun target h => hstep₁ _ fun acts => by rw [doInvoke_state]; exact hsteps.trans h⟩
  · exact Or.inr ⟨q, vm₁, B, X₁.warmed, X', hpost, hstep₁ _ fun acts => by rw [doInvoke_state]; exact hsteps⟩
theorem vx_callSX (X : Stand p l e R s m args below meth c T locs cells slots) (hexec : p.tables.exec = Jvm.exec) {own : String} {index : Nat} {y : MethodName} {bytes : ByteArray} {maxL : Nat} {ret : Option FieldType} {hh : List (Nat × Nat × Nat × Nat)}
    (hown : s.vm.findClass own = some m.cls) (hlink : (Cond.methodLink own index y).before args s = true) (hstat : (Cond.static y).before args s = true) (hinit : (Cond.initialized y.cls).before args s = true)
    (hcode : (Cond.codeWith y bytes maxL ret hh).before args s = true) (hy : y.cls ≠ "java/lang/invoke/MethodHandle" ∧ y.cls ≠ "java/lang/invoke/VarHandle")
    {W9 : Nat} {Pre : Pt → Array Value → Prop} {Post : Pt → Array Value → Option Value → Pt → Prop} {PostX : Pt → Array Value → Addr → Pt → Prop} (hK : vx_Back l R p e below s args y 3 W9 Pre Post PostX)
    {g : JFrame} (hg : g.method = m) (hsize : g.locals.size = c.maxLocals) {argsL rest : List Value} (hlen : ∀ sig, parseMethodDescriptor y.desc = some sig → argsL.length = sig.parameters.length)
    (hstack : g.stack = argsL.reverse ++ rest) (hW : 2 * g.monitorRoom + (rest.map fun v => v.category).sum ≤ W9) (hdg : decode c.code g.pc = .ok (.invokestatic index, 3))
    (hpre : ∀ vm₁, s.WarmedH vm₁ → Pre ⟨T.setVm vm₁, locs, cells, slots⟩ argsL.toArray) :
    (∃ (v : Option Value) (vm₁ : Vm) (B : Pt), s.WarmedH vm₁ ∧ Stand p l e R s m args below meth c B.U B.locs B.cells B.slots ∧ Post ⟨T.setVm vm₁, locs, cells, slots⟩ argsL.toArray v B ∧
      ∀ target, Steps p.tables e below (B.U.setTop { g with pc := g.pc + 3, stack := v.toList ++ rest }) target → Steps p.tables e below (T.setTop g) target) ∨
    (∃ (q : Addr) (vm₁ : Vm) (B : Pt), s.WarmedH vm₁ ∧ Stand p l e R s m args below meth c B.U B.locs B.cells B.slots ∧ PostX ⟨T.setVm vm₁, locs, cells, slots⟩ argsL.toArray q B ∧
      Steps p.tables e below (T.setTop g) ((B.U.setTop { g with stack := rest }).pushFrame (.throwing q))) := by
  obtain ⟨mk, methM, cM, hnamed, hmethM, -, -, -, -, -, -, hsigM⟩ := Cond.codeWith_spec hcode
  have hstatic : methM.isStatic = true := Cond.static_spec hnamed hmethM hstat
  obtain ⟨kP, hkP, -⟩ := className_of_methodNamed hnamed
  have hinitP : kP.init = .initialized := Cond.initialized_spec (findClass_of_methodNamed hnamed) hkP hinit
  obtain ⟨vm₁, X₁, hstep₁⟩ := X.invokestatic hexec hown hlink hnamed hmethM hstatic hkP hinitP hy (g := g) hg (argsL := argsL) (rest := rest) (hlen _ hsigM) hstack hdg
  rcases hK m meth c ⟨T.setVm vm₁, locs, cells, slots⟩ { g with stack := rest } (.invokestatic index) mk argsL.toArray X₁ hg hsize hdg hW (X₁.named hnamed) (hpre vm₁ X₁.warmed) with ⟨v, B, X', hpost, hsteps⟩ | ⟨q, B, X', hpost, hsteps⟩
  · exact Or.inl ⟨v, vm₁, B, X₁.warmed, X', hpost, fun target h => hstep₁ _ fun acts => by rw [doInvoke_state]; exact hsteps.trans h⟩
  · exact Or.inr ⟨q, vm₁, B, X₁.warmed, X', hpost, hstep₁ _ fun acts => by rw [doInvoke_state]; exact hsteps⟩
theorem vx_callVW (X : Stand p l e R s m args below meth c T locs cells slots) (hexec : p.tables.exec = Jvm.exec) {own C : String} {index : Nat} {y : MethodName} {bytes : ByteArray} {maxL : Nat} {ret : Option FieldType} {hh : List (Nat × Nat × Nat × Nat)}
    (hown : s.vm.findClass own = some m.cls) (hlink : (Cond.methodLink own index y).before args s = true) (hinst : (Cond.instanceMethod y).before args s = true) (hsel : (Cond.selects C y y).before args s = true)
    (hcode : (Cond.codeWith y bytes maxL ret hh).before args s = true) (hy : y.cls ≠ "java/lang/invoke/MethodHandle" ∧ y.cls ≠ "java/lang/invoke/VarHandle")
    {W9 : Nat} {Pre : Pt → Array Value → Prop} {Post : Pt → Array Value → Option Value → Pt → Prop} (hK : Back l R p e below s args y 3 W9 Pre Post)
    {b : Addr} {cellB : Cell} (hcell : T.heap[b]? = some cellB) (hobj : cellB.vm.isStatics = false) (hcls : s.vm.findClass C = some cellB.cls)
    {g : JFrame} (hg : g.method = m) (hsize : g.locals.size = c.maxLocals) {argsL rest : List Value} (hlen : ∀ sig, parseMethodDescriptor y.desc = some sig → argsL.length = sig.parameters.length)
    (hstack : g.stack = argsL.reverse ++ .ref b :: rest) (hW : 2 * g.monitorRoom + (rest.map fun v => v.category).sum ≤ W9) (hdg : decode c.code g.pc = .ok (.invokevirtual index, 3))
    (hpre : ∀ vm₁, s.WarmedH vm₁ → Pre ⟨T.setVm vm₁, locs, cells, slots⟩ (Value.ref b :: argsL).toArray) :
    ∃ (v : Option Value) (vm₁ : Vm) (B : Pt), s.WarmedH vm₁ ∧ Stand p l e R s m args below meth c B.U B.locs B.cells B.slots ∧ Post ⟨T.setVm vm₁, locs, cells, slots⟩ (Value.ref b :: argsL).toArray v B ∧
      ∀ target, Steps p.tables e below (B.U.setTop { g with pc := g.pc + 3, stack := v.toList ++ rest }) target → Steps p.tables e below (T.setTop g) target := by
  obtain ⟨mk, methM, hnamed, hmethM, hstM, habM⟩ := Cond.instanceMethod_spec hinst
  obtain ⟨m8, methM', cM, hn8, hmethM', -, -, -, -, -, -, hsigM⟩ := Cond.codeWith_spec hcode
  cases Option.some.inj (hn8.symm.trans hnamed)
  cases hmethM.symm.trans hmethM'
  obtain ⟨c2, r2, m2, q1, q2, q3, q4, kP, hkP, hkPi⟩ := Cond.selects_spec hsel
  cases hcls.symm.trans q1
  cases (State.methodFound?_of_named hnamed hy).symm.trans q2
  cases hnamed.symm.trans q3
  have hselP : selectMethod e.platform s.vm cellB.cls mk = .method mk := by rw [Launch.admits_selectMethod X.admits]; exact q4
  obtain ⟨vm₁, X₁, hstep₁⟩ := X.invokevirtual hexec hown hlink hnamed hmethM hstM hkP hkPi hy (a := b) (cell := cellB) hcell
    (fun z h => by rw [h] at hobj; cases hobj) hselP hmethM habM hkP hkPi (g := g) hg (argsL := argsL) (rest := rest) (hlen _ hsigM) hstack hdg
  obtain ⟨v, B, X', hpost, hsteps⟩ := hK m meth c ⟨T.setVm vm₁, locs, cells, slots⟩ { g with stack := rest } (.invokevirtual index) mk (Value.ref b :: argsL).toArray X₁ hg hsize hdg hW (X₁.named hnamed) (hpre vm₁ X₁.warmed)
  exact ⟨v, vm₁, B, X₁.warmed, X', hpost, fun target h => hstep₁ _ fun acts => by rw [doInvoke_state]; exact hsteps.trans h⟩
abbrev vx_CVW (R : Room) (s : State) (args : Array Value) (own C : String) (index : Nat) (y : MethodName) (bytes : ByteArray) (maxL : Nat) (ret : Option FieldType) (hh : List (Nat × Nat × Nat × Nat)) (ws : List Cond) (rm : Room) (mc ms n : Nat) : Prop :=
  (rm.cells = mc ∧ rm.slots = ms ∧ rm.frames + 1 ≤ R.frames ∧ 8 + (maxL + 11) + rm.locals ≤ R.locals ∧ (∀ w ∈ ws, ∀ (a' : Array Value) (U : State), s.WarmedH U.vm → w.before a' U = true) ∧ Cond.codeWith y bytes maxL ret hh ∈ ws) ∧
  (Cond.codeWith y bytes maxL ret hh).before args s = true ∧ (Cond.initialized y.cls).before args s = true ∧ (y.cls ≠ "java/lang/invoke/MethodHandle" ∧ y.cls ≠ "java/lang/invoke/VarHandle") ∧
  (∀ sig, parseMethodDescriptor y.desc = some sig → n = sig.parameters.length) ∧ (Cond.methodLink own index y).before args s = true ∧ (Cond.instanceMethod y).before args s = true ∧ (Cond.selects C y y).before args s = true
theorem vx_cwVW {own C : String} {index maxL mc ms : Nat} {y : MethodName} {bytes : ByteArray} {ret : Option FieldType} {hh : List (Nat × Nat × Nat × Nat)} {Ts ws ws' : List Cond} {rm : Room} (n : Nat) (ht : ∀ w ∈ Ts, w.before args s = true) (hT : GoodIn Ts (wsV own index C y ws)) (hw : ws = Cond.codeWith y bytes maxL ret hh :: ws') (hrc : rm.cells = mc) (hrs : rm.slots = ms)
    (hd : y.cls = C ∧ y.cls ≠ "java/lang/invoke/MethodHandle" ∧ y.cls ≠ "java/lang/invoke/VarHandle" ∧ (parseMethodDescriptor y.desc).map (fun d => d.parameters.length) = some n) (hR : rm.frames + 1 ≤ R.frames ∧ 8 + (maxL + 11) + rm.locals ≤ R.locals) :
    vx_CVW R s args own C index y bytes maxL ret hh ws rm mc ms n := by
  obtain ⟨hC, hd⟩ := hd
  subst hC
  have ok : ∀ w ∈ wsV own index y.cls y ws, w.before args s = true := fun w h => ht w (hT w h).1
  have hG : GoodIn Ts ws := fun w h => hT w (by unfold wsV; exact List.mem_append_right _ h)
  have hc : Cond.codeWith y bytes maxL ret hh ∈ ws := by rw [hw]; exact List.mem_cons_self
  refine ⟨⟨hrc, hrs, hR.1, hR.2, pay_in ht hG, hc⟩, ht _ (hG _ hc).1, ok _ (by simp [wsV]), ⟨hd.1, hd.2.1⟩, fun sig h => ?_, ok _ (by simp [wsV]), ok _ (by simp [wsV]), ok _ (by simp [wsV])⟩
  have h2 := hd.2.2
  rw [h] at h2
  exact (Option.some.inj h2).symm
theorem vx_runVW {y : MethodName} {bytes cc : ByteArray} {maxL nL mc ms n index : Nat} {ret : Option FieldType} {hh : List (Nat × Nat × Nat × Nat)} {ws : List Cond} {rm : Room} {Pc : Array Value → State → Prop} {Qc : Array Value → State → Outcome → State → Prop} {free : Addr → Prop} {Ts : List Cond} {own C : String} {b : Addr} {As rest : List Value} {g : JFrame}
    (S : CallFix p m c cc nL s args Ts own) (hM : Met l y ws rm Pc Qc mc ms free) (cw : vx_CVW R s args own C index y bytes maxL ret hh ws rm mc ms n) (hp : PreV s H C b Pc As)
    (hg : g.method = m) (hn : As.length = n) (hsize : g.locals.size = nL) (hstack : g.stack = As.reverse ++ .ref b :: rest) (hW : 2 * g.monitorRoom + (rest.map fun v => v.category).sum ≤ 8) (hdg : decode cc g.pc = .ok (.invokevirtual index, 3)) (hf : cells + mc ≤ R.cells ∧ slots + ms ≤ R.slots) :
    va_Run p l e R s m args below meth c H locs cells slots mc ms g rest (Qc (Value.ref b :: As).toArray) free := by
  obtain ⟨⟨hrc, hrs, hfr, hlo, hws, hcw⟩, hcode, hini, hy, hlen, hl, hin, hse⟩ := cw
  have hK : Back l R p e below s args y 3 8 (PreOf R mc ms Pc) (PostOf Qc mc ms free) := va_backW (hh := hh) (bytes := bytes) (maxL := maxL) (ret := ret) hM hp.1 hrc hrs hfr hlo hws hcw (fun a' U hW => word_at hW (Or.inl (by first | rfl | simp [Cond.onTables, Cond.keeps, Cond.steady])) hini)
  obtain ⟨hx, hb, hml, ho, -⟩ := S
  obtain ⟨-, ⟨cellB, hcB, hoB, hclB⟩, hPc⟩ := hp
  intro T hT X
  obtain ⟨v, vm₁, ⟨U', l2, c2, s2⟩, hW₁, X', ⟨g', mk, t, L, e1, e2, hq, h1, hL, h2, h3⟩, st⟩ := vx_callVW X hx (C := C) (hh := hh) (bytes := bytes) (maxL := maxL) (ret := ret) ho hl hin hse hcode hy hK (by rw [hT]; exact hcB) hoB hclB hg (hsize.trans hml.symm) (argsL := As) (rest := rest) (fun sig h => hn.trans (hlen sig h)) hstack hW (by rw [hb]; exact hdg)
    (fun vm₁ hW₁ => ⟨hf.1, hf.2, hPc (T.setVm vm₁) hT hW₁⟩)
  dsimp only [Pt.U, Pt.locs, Pt.cells, Pt.slots] at X' e1 e2 h1 h2 h3 st
  subst h1; subst h2; subst h3
  exact ⟨v, (T.setVm vm₁).calling g' mk (Value.ref b :: As).toArray, t, U', L, hT, X', hL, e1, e2, hq, st⟩
section
variable {y : MethodName} {bytes cc : ByteArray} {maxL nL mc ms n index : Nat} {ret : Option FieldType} {ws : List Cond} {rm : Room} {Pc : Array Value → State → Prop} {Qc : Array Value → State → Outcome → State → Prop} {XC : String → State → State → Prop} {free : Addr → Prop} {Ts : List Cond} {own C : String} {b : Addr} {As rest : List Value} {g : JFrame}
theorem vx_runVX {hh : List (Nat × Nat × Nat × Nat)} (S : CallFix p m c cc nL s args Ts own) (hM : vx_Met l y ws rm Pc Qc XC mc ms free) (cw : vx_CVW R s args own C index y bytes maxL ret hh ws rm mc ms n) (hp : PreV s H C b Pc As)
    (hg : g.method = m) (hn : As.length = n) (hsize : g.locals.size = nL) (hstack : g.stack = As.reverse ++ .ref b :: rest) (hW : 2 * g.monitorRoom + (rest.map fun v => v.category).sum ≤ 8) (hdg : decode cc g.pc = .ok (.invokevirtual index, 3)) (hf : cells + mc ≤ R.cells ∧ slots + ms ≤ R.slots) :
    vx_Run p l e R s m args below meth c H locs cells slots mc ms g rest (Qc (Value.ref b :: As).toArray) XC free := by
  obtain ⟨⟨hrc, hrs, hfr, hlo, hws, hcw⟩, hcode, hini, hy, hlen, hl, hin, hse⟩ := cw
  have hK : vx_Back l R p e below s args y 3 8 (PreOf R mc ms Pc) (PostOf Qc mc ms free) (vx_Post XC mc ms free) := vx_backW (hh := hh) (bytes := bytes) (maxL := maxL) (ret := ret) hM hp.1 hrc hrs hfr hlo hws hcw (fun a' U hW => word_at hW (Or.inl (by first | rfl | simp [Cond.onTables, Cond.keeps, Cond.steady])) hini)
  obtain ⟨hx, hb, hml, ho, -⟩ := S
  obtain ⟨-, ⟨cellB, hcB, hoB, hclB⟩, hPc⟩ := hp
  intro T hT X
  rcases vx_callVX X hx (C := C) (hh := hh) (bytes := bytes) (maxL := maxL) (ret := ret) ho hl hin hse hcode hy hK (by rw [hT]; exact hcB) hoB hclB hg (hsize.trans hml.symm) (argsL := As) (rest := rest) (fun sig h => hn.trans (hlen sig h)) hstack hW (by rw [hb]; exact hdg)
    (fun vm₁ hW₁ => ⟨hf.1, hf.2, hPc (T.setVm vm₁) hT hW₁⟩) with ⟨v, vm₁, ⟨U', l2, c2, s2⟩, hW₁, X', ⟨g', mk, t, L, e1, e2, hq, h1, hL, h2, h3⟩, st⟩ | ⟨q, vm₁, ⟨U', l2, c2, s2⟩, hW₁, X', ⟨g', mk, t, L, E, ce, e1, e2, hq, hce, hcv, hcl, h1, hL, h2, h3⟩, st⟩
  · dsimp only [Pt.U, Pt.locs, Pt.cells, Pt.slots] at X' e1 e2 h1 h2 h3 st
    subst h1; subst h2; subst h3
    exact Or.inl ⟨v, (T.setVm vm₁).calling g' mk (Value.ref b :: As).toArray, t, U', L, hT, X', hL, e1, e2, hq, st⟩
  · dsimp only [Pt.U, Pt.locs, Pt.cells, Pt.slots] at X' e1 e2 h1 h2 h3 st hcl
    subst h1; subst h2; subst h3
    exact Or.inr ⟨q, (T.setVm vm₁).calling g' mk (Value.ref b :: As).toArray, t, U', L, E, ce, hT, X', hL, e1, e2, hq, hce, hcv, vx_cls hW₁ hcl, st⟩
theorem vx_runSX {hh : List (Nat × Nat × Nat × Nat)} (S : CallFix p m c cc nL s args Ts own) (hM : vx_Met l y ws rm Pc Qc XC mc ms free) (cw : vx_CSW R s args own index y bytes maxL ret hh ws rm mc ms n) (hp : PreS s H Pc As)
    (hg : g.method = m) (hn : As.length = n) (hsize : g.locals.size = nL) (hstack : g.stack = As.reverse ++ rest) (hW : 2 * g.monitorRoom + (rest.map fun v => v.category).sum ≤ 8) (hdg : decode cc g.pc = .ok (.invokestatic index, 3)) (hf : cells + mc ≤ R.cells ∧ slots + ms ≤ R.slots) :
    vx_Run p l e R s m args below meth c H locs cells slots mc ms g rest (Qc As.toArray) XC free := by
  obtain ⟨⟨hrc, hrs, hfr, hlo, hws, hcw⟩, hcode, hini, hy, hlen, hl, hstt⟩ := cw
  have hK : vx_Back l R p e below s args y 3 8 (PreOf R mc ms Pc) (PostOf Qc mc ms free) (vx_Post XC mc ms free) := vx_backW (hh := hh) (bytes := bytes) (maxL := maxL) (ret := ret) hM hp.1 hrc hrs hfr hlo hws hcw (fun a' U hW => word_at hW (Or.inl (by first | rfl | simp [Cond.onTables, Cond.keeps, Cond.steady])) hini)
  obtain ⟨hx, hb, hml, ho, -⟩ := S
  intro T hT X
  rcases vx_callSX X hx (hh := hh) (bytes := bytes) (maxL := maxL) (ret := ret) ho hl hstt hini hcode hy hK hg (hsize.trans hml.symm) (argsL := As) (rest := rest) (fun sig h => hn.trans (hlen sig h)) hstack hW (by rw [hb]; exact hdg)
    (fun vm₁ hW₁ => ⟨hf.1, hf.2, hp.2 (T.setVm vm₁) hT hW₁⟩) with ⟨v, vm₁, ⟨U', l2, c2, s2⟩, hW₁, X', ⟨g', mk, t, L, e1, e2, hq, h1, hL, h2, h3⟩, st⟩ | ⟨q, vm₁, ⟨U', l2, c2, s2⟩, hW₁, X', ⟨g', mk, t, L, E, ce, e1, e2, hq, hce, hcv, hcl, h1, hL, h2, h3⟩, st⟩
  · dsimp only [Pt.U, Pt.locs, Pt.cells, Pt.slots] at X' e1 e2 h1 h2 h3 st
    subst h1; subst h2; subst h3
    exact Or.inl ⟨v, (T.setVm vm₁).calling g' mk As.toArray, t, U', L, hT, X', hL, e1, e2, hq, st⟩
  · dsimp only [Pt.U, Pt.locs, Pt.cells, Pt.slots] at X' e1 e2 h1 h2 h3 st hcl
    subst h1; subst h2; subst h3
    exact Or.inr ⟨q, (T.setVm vm₁).calling g' mk As.toArray, t, U', L, E, ce, hT, X', hL, e1, e2, hq, hce, hcv, vx_cls hW₁ hcl, st⟩
end
end VXH
theorem vx_ofWH {l : Launch} {y : MethodName} {ws ws' : List Cond} {rm : Room} {Pc : Array Value → State → Prop} {Qc : Array Value → State → Outcome → State → Prop} {XC : String → State → State → Prop} {mc ms : Nat} {free : Addr → Prop} {cc : ByteArray} {maxL : Nat} {ret : Option FieldType} {hh : List (Nat × Nat × Nat × Nat)}
    (hy : plainName y.cls = true) (hw : ws = Cond.codeWith y cc maxL ret hh :: ws')
    (body : ∀ p e s m args below meth c s₁, BodyLoose p l y (headSpec ws rm) cc maxL ret e s m args below meth c s₁ → c.maxLocals = maxL → Pc args s →
      W p l e (headSpec ws rm).room s m args below meth c s.heap [] 0 0 (vx_MQ below Qc XC args s mc ms free) (entryFrame m args maxL)) : vx_Met l y ws rm Pc Qc XC mc ms free := by
  refine MetFree.of_bodyS (code := cc) (maxLocals := maxL) (ret := ret) hy ?_ ?_
  · intro args s m h hn
    obtain ⟨m9, meth, c, hn9, h1, h2, h3, h4, -, h5, h6, -⟩ := Cond.codeWith_spec (atoms_spec (ws := ws) h _ (by rw [hw]; exact List.mem_cons_self))
    cases hn.symm.trans hn9
    exact ⟨meth, c, h1, h2, h3, h4, h5, h6⟩
  · intro p e s m args below meth c s₁ B hml hP _
    have hh0 : s₁.heap = s.heap := by rw [B.state]; rfl
    obtain ⟨t, a1, o, b1, b2, b3⟩ := body p e s m args below meth c s₁ B hml hP s₁ hh0 (Stand.of_body B)
    exact ⟨t, o, a1, b1, b2, b3⟩
/-! ===== END ===== -/
end
section
/-! ===== BEGIN printed: names, fields, word lists, decode rows ===== -/
def RX0 : String := "SelfOpener$Machine"
def TX0 : u_T := fun k => match k with
  | 0 => ("SelfOpener$Machine", "memory", "[I", true)
  | 1 => ("SelfOpener$Machine", "registers", "[I", true)
  | 2 => ("SelfOpener$Machine", "kept", "[I", true)
  | 3 => ("SelfOpener$Machine", "place", "I", false)
  | 4 => ("SelfOpener$Machine", "state", "I", false)
  | 5 => ("SelfOpener$Machine", "steps", "I", false)
  | _ => ("SelfOpener$Machine", "putOut", "I", false)
def tyX0 : Nat → FieldType := fun k => match k with
  | 0 => .array .int
  | 1 => .array .int
  | 2 => .array .int
  | 3 => .int
  | 4 => .int
  | 5 => .int
  | _ => .int
abbrev wsX00 : List Cond := u_ws RX0 TX0 7
theorem nmX0 : ∀ a, a < 7 → ∀ b, b < 7 → a ≠ b → (TX0 a).2.1 ≠ (TX0 b).2.1 := by decide +kernel
theorem tyX0_ok : ∀ k, k < 7 → parseFieldDescriptor (TX0 k).2.2.1 = some (tyX0 k) := by decide +kernel
abbrev cX0_init : ByteArray := prog_2_method_1_code
def yX0_init : MethodName := ⟨RX0, "<init>", "()V"⟩
abbrev cX0_runs : ByteArray := prog_2_method_2_code
def yX0_runs : MethodName := ⟨RX0, "runs", "()Z"⟩
abbrev cX0_keeps : ByteArray := prog_2_method_3_code
def yX0_keeps : MethodName := ⟨RX0, "keeps", "(I)Z"⟩
abbrev cX0_clear : ByteArray := prog_2_method_4_code
def yX0_clear : MethodName := ⟨RX0, "clear", "(I)V"⟩
abbrev cX0_write : ByteArray := prog_2_method_5_code
def yX0_write : MethodName := ⟨RX0, "write", "(I[II)V"⟩
abbrev cX0_writeStub : ByteArray := prog_2_method_6_code
def yX0_writeStub : MethodName := ⟨RX0, "writeStub", "(IIII)V"⟩
abbrev cX0_step : ByteArray := prog_2_method_7_code
def yX0_step : MethodName := ⟨RX0, "step", "()V"⟩
abbrev cX0_act : ByteArray := prog_2_method_8_code
def yX0_act : MethodName := ⟨RX0, "act", "(III)V"⟩
abbrev cX0_jump : ByteArray := prog_2_method_9_code
def yX0_jump : MethodName := ⟨RX0, "jump", "(III)V"⟩
abbrev cX0_reckon : ByteArray := prog_2_method_10_code
def yX0_reckon : MethodName := ⟨RX0, "reckon", "(IIII)I"⟩
def RX1 : String := "SelfOpener$Packing"
def TX1 : u_T := fun k => match k with
  | 0 => ("SelfOpener$Packing", "program", "LSelfOpener$Program;", true)
  | 1 => ("SelfOpener$Packing", "stream", "[I", true)
  | 2 => ("SelfOpener$Packing", "length", "I", false)
  | 3 => ("SelfOpener$Packing", "gap", "I", false)
  | 4 => ("SelfOpener$Packing", "edition", "I", false)
  | 5 => ("SelfOpener$Packing", "cost", "[I", true)
  | 6 => ("SelfOpener$Packing", "makes", "[I", true)
  | 7 => ("SelfOpener$Packing", "distance", "[I", true)
  | _ => ("SelfOpener$Packing", "alike", "[I", true)
def tyX1 : Nat → FieldType := fun k => match k with
  | 0 => .object "SelfOpener$Program"
  | 1 => .array .int
  | 2 => .int
  | 3 => .int
  | 4 => .int
  | 5 => .array .int
  | 6 => .array .int
  | 7 => .array .int
  | _ => .array .int
abbrev wsX10 : List Cond := u_ws RX1 TX1 9
theorem nmX1 : ∀ a, a < 9 → ∀ b, b < 9 → a ≠ b → (TX1 a).2.1 ≠ (TX1 b).2.1 := by decide +kernel
theorem tyX1_ok : ∀ k, k < 9 → parseFieldDescriptor (TX1 k).2.2.1 = some (tyX1 k) := by decide +kernel
abbrev cX1_init : ByteArray := prog_3_method_1_code
def yX1_init : MethodName := ⟨RX1, "<init>", "()V"⟩
abbrev cX1_stubAddress : ByteArray := prog_3_method_2_code
def yX1_stubAddress : MethodName := ⟨RX1, "stubAddress", "()I"⟩
abbrev cX1_layoutEnd : ByteArray := prog_3_method_3_code
def yX1_layoutEnd : MethodName := ⟨RX1, "layoutEnd", "()I"⟩
abbrev cX1_fits : ByteArray := prog_3_method_4_code
def yX1_fits : MethodName := ⟨RX1, "fits", "()Z"⟩
abbrev cX1_refresh : ByteArray := prog_3_method_5_code
def yX1_refresh : MethodName := ⟨RX1, "refresh", "()V"⟩
abbrev cX1_findCopy : ByteArray := prog_3_method_6_code
def yX1_findCopy : MethodName := ⟨RX1, "findCopy", "(I)V"⟩
abbrev cX1_chooseToken : ByteArray := prog_3_method_7_code
def yX1_chooseToken : MethodName := ⟨RX1, "chooseToken", "(I)V"⟩
abbrev cX1_writeStream : ByteArray := prog_3_method_8_code
def yX1_writeStream : MethodName := ⟨RX1, "writeStream", "()V"⟩
def RX2 : String := "SelfOpener$Program"
def TX2 : u_T := fun k => match k with
  | 0 => ("SelfOpener$Program", "bytes", "[I", true)
  | 1 => ("SelfOpener$Program", "opened", "[I", true)
  | 2 => ("SelfOpener$Program", "size", "I", false)
  | 3 => ("SelfOpener$Program", "origin", "I", false)
  | 4 => ("SelfOpener$Program", "entry", "I", false)
  | _ => ("SelfOpener$Program", "edition", "I", false)
def tyX2 : Nat → FieldType := fun k => match k with
  | 0 => .array .int
  | 1 => .array .int
  | 2 => .int
  | 3 => .int
  | 4 => .int
  | _ => .int
abbrev wsX20 : List Cond := u_ws RX2 TX2 6
theorem nmX2 : ∀ a, a < 6 → ∀ b, b < 6 → a ≠ b → (TX2 a).2.1 ≠ (TX2 b).2.1 := by decide +kernel
theorem tyX2_ok : ∀ k, k < 6 → parseFieldDescriptor (TX2 k).2.2.1 = some (tyX2 k) := by decide +kernel
abbrev cX2_init : ByteArray := prog_4_method_1_code
def yX2_init : MethodName := ⟨RX2, "<init>", "()V"⟩
abbrev cX2_hasRoom : ByteArray := prog_4_method_2_code
def yX2_hasRoom : MethodName := ⟨RX2, "hasRoom", "(I)Z"⟩
abbrev cX2_fits : ByteArray := prog_4_method_3_code
def yX2_fits : MethodName := ⟨RX2, "fits", "()Z"⟩
abbrev cX2_append : ByteArray := prog_4_method_4_code
def yX2_append : MethodName := ⟨RX2, "append", "(I)V"⟩
abbrev cX2_set : ByteArray := prog_4_method_5_code
def yX2_set : MethodName := ⟨RX2, "set", "(II)V"⟩
abbrev cX2_shorten : ByteArray := prog_4_method_6_code
def yX2_shorten : MethodName := ⟨RX2, "shorten", "(I)V"⟩
abbrev cX2_loadedAt : ByteArray := prog_4_method_7_code
def yX2_loadedAt : MethodName := ⟨RX2, "loadedAt", "(I)I"⟩
abbrev cX2_openAsStream : ByteArray := prog_4_method_8_code
def yX2_openAsStream : MethodName := ⟨RX2, "openAsStream", "()V"⟩
abbrev cX2_openRun : ByteArray := prog_4_method_9_code
def yX2_openRun : MethodName := ⟨RX2, "openRun", "(III)I"⟩
abbrev cX2_openCopy : ByteArray := prog_4_method_10_code
def yX2_openCopy : MethodName := ⟨RX2, "openCopy", "(III)I"⟩
def RX3 : String := "SelfOpener"
def TX3 : u_T := fun k => match k with
  | 0 => ("SelfOpener", "packing", "LSelfOpener$Packing;", true)
  | 1 => ("SelfOpener", "program", "LSelfOpener$Program;", true)
  | _ => ("SelfOpener", "machine", "LSelfOpener$Machine;", true)
def tyX3 : Nat → FieldType := fun k => match k with
  | 0 => .object "SelfOpener$Packing"
  | 1 => .object "SelfOpener$Program"
  | _ => .object "SelfOpener$Machine"
abbrev wsX30 : List Cond := u_ws RX3 TX3 3
theorem nmX3 : ∀ a, a < 3 → ∀ b, b < 3 → a ≠ b → (TX3 a).2.1 ≠ (TX3 b).2.1 := by decide +kernel
theorem tyX3_ok : ∀ k, k < 3 → parseFieldDescriptor (TX3 k).2.2.1 = some (tyX3 k) := by decide +kernel
abbrev cX3_init : ByteArray := prog_1_method_1_code
def yX3_init : MethodName := ⟨RX3, "<init>", "()V"⟩
abbrev cX3_put : ByteArray := prog_1_method_2_code
def yX3_put : MethodName := ⟨RX3, "put", "(JI)Z"⟩
abbrev cX3_again : ByteArray := prog_1_method_3_code
def yX3_again : MethodName := ⟨RX3, "again", "(II)Z"⟩
abbrev cX3_change : ByteArray := prog_1_method_4_code
def yX3_change : MethodName := ⟨RX3, "change", "(II)V"⟩
abbrev cX3_cut : ByteArray := prog_1_method_5_code
def yX3_cut : MethodName := ⟨RX3, "cut", "(I)V"⟩
abbrev cX3_place : ByteArray := prog_1_method_6_code
def yX3_place : MethodName := ⟨RX3, "place", "(II)V"⟩
abbrev cX3_size : ByteArray := prog_1_method_7_code
def yX3_size : MethodName := ⟨RX3, "size", "()I"⟩
abbrev cX3_packed : ByteArray := prog_1_method_8_code
def yX3_packed : MethodName := ⟨RX3, "packed", "()I"⟩
abbrev cX3_stream : ByteArray := prog_1_method_9_code
def yX3_stream : MethodName := ⟨RX3, "stream", "(I)I"⟩
abbrev cX3_gap : ByteArray := prog_1_method_10_code
def yX3_gap : MethodName := ⟨RX3, "gap", "()I"⟩
abbrev cX3_unpack : ByteArray := prog_1_method_11_code
def yX3_unpack : MethodName := ⟨RX3, "unpack", "()I"⟩
abbrev cX3_load : ByteArray := prog_1_method_12_code
def yX3_load : MethodName := ⟨RX3, "load", "()V"⟩
abbrev cX3_loadPacked : ByteArray := prog_1_method_13_code
def yX3_loadPacked : MethodName := ⟨RX3, "loadPacked", "()I"⟩
abbrev cX3_run : ByteArray := prog_1_method_14_code
def yX3_run : MethodName := ⟨RX3, "run", "(II)I"⟩
abbrev cX3_look : ByteArray := prog_1_method_15_code
def yX3_look : MethodName := ⟨RX3, "look", "(I)I"⟩
abbrev cX3_memory : ByteArray := prog_1_method_16_code
def yX3_memory : MethodName := ⟨RX3, "memory", "(I)I"⟩
abbrev cX3_out : ByteArray := prog_1_method_17_code
def yX3_out : MethodName := ⟨RX3, "out", "(I)I"⟩
abbrev cX3_apart : ByteArray := prog_1_method_18_code
def yX3_apart : MethodName := ⟨RX3, "apart", "()I"⟩
abbrev cX3_isByte : ByteArray := prog_1_method_19_code
def yX3_isByte : MethodName := ⟨RX3, "isByte", "(I)Z"⟩
def RX4 : String := "SelfOpenerModel"
def TX4 : u_T := fun k => match k with
  | 0 => ("SelfOpenerModel", "thrown", "I", false)
  | 1 => ("SelfOpenerModel", "size", "I", false)
  | 2 => ("SelfOpenerModel", "program", "[I", true)
  | 3 => ("SelfOpenerModel", "origin", "I", false)
  | 4 => ("SelfOpenerModel", "entry", "I", false)
  | 5 => ("SelfOpenerModel", "known", "Z", false)
  | 6 => ("SelfOpenerModel", "gap", "I", false)
  | 7 => ("SelfOpenerModel", "length", "I", false)
  | 8 => ("SelfOpenerModel", "stream", "[I", true)
  | 9 => ("SelfOpenerModel", "least", "[I", true)
  | 10 => ("SelfOpenerModel", "token", "[I", true)
  | 11 => ("SelfOpenerModel", "distance", "[I", true)
  | 12 => ("SelfOpenerModel", "right", "[I", true)
  | 13 => ("SelfOpenerModel", "open", "[I", true)
  | 14 => ("SelfOpenerModel", "memory", "[I", true)
  | 15 => ("SelfOpenerModel", "registers", "[I", true)
  | 16 => ("SelfOpenerModel", "place", "I", false)
  | 17 => ("SelfOpenerModel", "state", "I", false)
  | 18 => ("SelfOpenerModel", "steps", "I", false)
  | 19 => ("SelfOpenerModel", "outs", "I", false)
  | _ => ("SelfOpenerModel", "out", "[I", true)
def tyX4 : Nat → FieldType := fun k => match k with
  | 0 => .int
  | 1 => .int
  | 2 => .array .int
  | 3 => .int
  | 4 => .int
  | 5 => .boolean
  | 6 => .int
  | 7 => .int
  | 8 => .array .int
  | 9 => .array .int
  | 10 => .array .int
  | 11 => .array .int
  | 12 => .array .int
  | 13 => .array .int
  | 14 => .array .int
  | 15 => .array .int
  | 16 => .int
  | 17 => .int
  | 18 => .int
  | 19 => .int
  | _ => .array .int
abbrev wsX40 : List Cond := u_ws RX4 TX4 21
theorem nmX4 : ∀ a, a < 21 → ∀ b, b < 21 → a ≠ b → (TX4 a).2.1 ≠ (TX4 b).2.1 := by decide +kernel
theorem tyX4_ok : ∀ k, k < 21 → parseFieldDescriptor (TX4 k).2.2.1 = some (tyX4 k) := by decide +kernel
abbrev cX4_init : ByteArray := prog_6_method_1_code
def yX4_init : MethodName := ⟨RX4, "<init>", "()V"⟩
abbrev cX4_thrown : ByteArray := prog_6_method_2_code
def yX4_thrown : MethodName := ⟨RX4, "thrown", "()I"⟩
abbrev cX4_fail : ByteArray := prog_6_method_3_code
def yX4_fail : MethodName := ⟨RX4, "fail", "(I)I"⟩
abbrev cX4_put : ByteArray := prog_6_method_4_code
def yX4_put : MethodName := ⟨RX4, "put", "(JI)Z"⟩
abbrev cX4_again : ByteArray := prog_6_method_5_code
def yX4_again : MethodName := ⟨RX4, "again", "(II)Z"⟩
abbrev cX4_isByte : ByteArray := prog_6_method_6_code
def yX4_isByte : MethodName := ⟨RX4, "isByte", "(I)Z"⟩
abbrev cX4_change : ByteArray := prog_6_method_7_code
def yX4_change : MethodName := ⟨RX4, "change", "(II)V"⟩
abbrev cX4_cut : ByteArray := prog_6_method_8_code
def yX4_cut : MethodName := ⟨RX4, "cut", "(I)V"⟩
abbrev cX4_place : ByteArray := prog_6_method_9_code
def yX4_place : MethodName := ⟨RX4, "place", "(II)V"⟩
abbrev cX4_size : ByteArray := prog_6_method_10_code
def yX4_size : MethodName := ⟨RX4, "size", "()I"⟩
abbrev cX4_choose : ByteArray := prog_6_method_11_code
def yX4_choose : MethodName := ⟨RX4, "choose", "(I)V"⟩
abbrev cX4_pack : ByteArray := prog_6_method_12_code
def yX4_pack : MethodName := ⟨RX4, "pack", "()V"⟩
abbrev cX4_packed : ByteArray := prog_6_method_13_code
def yX4_packed : MethodName := ⟨RX4, "packed", "()I"⟩
abbrev cX4_stream : ByteArray := prog_6_method_14_code
def yX4_stream : MethodName := ⟨RX4, "stream", "(I)I"⟩
abbrev cX4_gap : ByteArray := prog_6_method_15_code
def yX4_gap : MethodName := ⟨RX4, "gap", "()I"⟩
abbrev cX4_wrong : ByteArray := prog_6_method_16_code
def yX4_wrong : MethodName := ⟨RX4, "wrong", "(II)I"⟩
abbrev cX4_unpack : ByteArray := prog_6_method_17_code
def yX4_unpack : MethodName := ⟨RX4, "unpack", "()I"⟩
abbrev cX4_clear : ByteArray := prog_6_method_18_code
def yX4_clear : MethodName := ⟨RX4, "clear", "(I)V"⟩
abbrev cX4_load : ByteArray := prog_6_method_19_code
def yX4_load : MethodName := ⟨RX4, "load", "()V"⟩
abbrev cX4_eighth : ByteArray := prog_6_method_20_code
def yX4_eighth : MethodName := ⟨RX4, "eighth", "(JI)I"⟩
abbrev cX4_first : ByteArray := prog_6_method_21_code
def yX4_first : MethodName := ⟨RX4, "first", "(I)I"⟩
abbrev cX4_second : ByteArray := prog_6_method_22_code
def yX4_second : MethodName := ⟨RX4, "second", "(II)I"⟩
abbrev cX4_isPackable : ByteArray := prog_6_method_23_code
def yX4_isPackable : MethodName := ⟨RX4, "isPackable", "()Z"⟩
abbrev cX4_loadPacked : ByteArray := prog_6_method_24_code
def yX4_loadPacked : MethodName := ⟨RX4, "loadPacked", "()I"⟩
abbrev cX4_putOut : ByteArray := prog_6_method_25_code
def yX4_putOut : MethodName := ⟨RX4, "putOut", "(I)V"⟩
abbrev cX4_step : ByteArray := prog_6_method_26_code
def yX4_step : MethodName := ⟨RX4, "step", "()V"⟩
abbrev cX4_run : ByteArray := prog_6_method_27_code
def yX4_run : MethodName := ⟨RX4, "run", "(II)I"⟩
abbrev cX4_look : ByteArray := prog_6_method_28_code
def yX4_look : MethodName := ⟨RX4, "look", "(I)I"⟩
abbrev cX4_memory : ByteArray := prog_6_method_29_code
def yX4_memory : MethodName := ⟨RX4, "memory", "(I)I"⟩
abbrev cX4_out : ByteArray := prog_6_method_30_code
def yX4_out : MethodName := ⟨RX4, "out", "(I)I"⟩
abbrev cX4_apart : ByteArray := prog_6_method_31_code
def yX4_apart : MethodName := ⟨RX4, "apart", "()I"⟩
def RJx145de : String := "java/io/Serializable"
def TJx145de : u_T := fun k => match k with
  | _ => ("", "", "", false)
def tyJx145de : Nat → FieldType := fun k => match k with
  | _ => .int
abbrev wsJx145de0 : List Cond := u_ws RJx145de TJx145de 0
theorem nmJx145de : ∀ a, a < 0 → ∀ b, b < 0 → a ≠ b → (TJx145de a).2.1 ≠ (TJx145de b).2.1 := by decide +kernel
theorem tyJx145de_ok : ∀ k, k < 0 → parseFieldDescriptor (TJx145de k).2.2.1 = some (tyJx145de k) := by decide +kernel
def RJ9 : String := "java/lang/Math"
def TJ9 : u_T := fun k => match k with
  | _ => ("", "", "", false)
def tyJ9 : Nat → FieldType := fun k => match k with
  | _ => .int
abbrev wsJ90 : List Cond := u_ws RJ9 TJ9 0
theorem nmJ9 : ∀ a, a < 0 → ∀ b, b < 0 → a ≠ b → (TJ9 a).2.1 ≠ (TJ9 b).2.1 := by decide +kernel
theorem tyJ9_ok : ∀ k, k < 0 → parseFieldDescriptor (TJ9 k).2.2.1 = some (tyJ9 k) := by decide +kernel
abbrev cJ9_max_7cf53 : ByteArray := prog_12_method_65_code
def yJ9_max_7cf53 : MethodName := ⟨RJ9, "max", "(II)I"⟩
abbrev cJ9_min_7cf53 : ByteArray := prog_12_method_69_code
def yJ9_min_7cf53 : MethodName := ⟨RJ9, "min", "(II)I"⟩
def RJ10 : String := "java/lang/System"
def TJ10 : u_T := fun k => match k with
  | _ => ("", "", "", false)
def tyJ10 : Nat → FieldType := fun k => match k with
  | _ => .int
abbrev wsJ100 : List Cond := u_ws RJ10 TJ10 0
theorem nmJ10 : ∀ a, a < 0 → ∀ b, b < 0 → a ≠ b → (TJ10 a).2.1 ≠ (TJ10 b).2.1 := by decide +kernel
theorem tyJ10_ok : ∀ k, k < 0 → parseFieldDescriptor (TJ10 k).2.2.1 = some (tyJ10 k) := by decide +kernel
def RL : String := "SelfOpenerLaw"
abbrev cL_change : ByteArray := method_3_code
def yL_change : MethodName := ⟨RL, "change", "(LSelfOpener;II)I"⟩
abbrev cL_cut : ByteArray := method_4_code
def yL_cut : MethodName := ⟨RL, "cut", "(LSelfOpener;I)I"⟩
abbrev cL_place : ByteArray := method_5_code
def yL_place : MethodName := ⟨RL, "place", "(LSelfOpener;II)I"⟩
abbrev cL_stream : ByteArray := method_6_code
def yL_stream : MethodName := ⟨RL, "stream", "(LSelfOpener;I[J)I"⟩
abbrev cL_unpack : ByteArray := method_7_code
def yL_unpack : MethodName := ⟨RL, "unpack", "(LSelfOpener;[J)I"⟩
abbrev cL_load : ByteArray := method_8_code
def yL_load : MethodName := ⟨RL, "load", "(LSelfOpener;)I"⟩
abbrev cL_loadPacked : ByteArray := method_9_code
def yL_loadPacked : MethodName := ⟨RL, "loadPacked", "(LSelfOpener;[J)I"⟩
abbrev cL_run : ByteArray := method_10_code
def yL_run : MethodName := ⟨RL, "run", "(LSelfOpener;II[J)I"⟩
abbrev cL_look : ByteArray := method_11_code
def yL_look : MethodName := ⟨RL, "look", "(LSelfOpener;I[J)I"⟩
abbrev cL_memory : ByteArray := method_12_code
def yL_memory : MethodName := ⟨RL, "memory", "(LSelfOpener;I[J)I"⟩
abbrev cL_out : ByteArray := method_13_code
def yL_out : MethodName := ⟨RL, "out", "(LSelfOpener;I[J)I"⟩
abbrev cL_apart : ByteArray := method_14_code
def yL_apart : MethodName := ⟨RL, "apart", "(LSelfOpener;[J)I"⟩
abbrev cL_law : ByteArray := code
def yL_law : MethodName := ⟨RL, "law", "([I)Z"⟩
def wsX0_init : List Cond := .code yX0_init cX0_init 1 none :: ([.methodLink RX0 3 objectInit, .instanceMethod objectInit, .code objectInit ⟨#[0xb1]⟩ 1 none, .arrayClass .int, .fieldLink RX0 9 "SelfOpener$Machine" "memory" "[I", .fieldLink RX0 15 "SelfOpener$Machine" "registers" "[I", .fieldLink RX0 18 "SelfOpener$Machine" "kept" "[I", .fieldLink RX0 21 "SelfOpener$Machine" "state" "I"] ++ wsX00)
def wsX0_runs : List Cond := .code yX0_runs cX0_runs 1 (some .boolean) :: ([.fieldLink RX0 21 "SelfOpener$Machine" "state" "I"] ++ wsX00)
def wsX0_keeps : List Cond := .code yX0_keeps cX0_keeps 2 (some .boolean) :: ([.fieldLink RX0 25 "SelfOpener$Machine" "putOut" "I"] ++ wsX00)
def wsX0_clear : List Cond := .code yX0_clear cX0_clear 3 none :: ([.fieldLink RX0 9 "SelfOpener$Machine" "memory" "[I", .fieldLink RX0 15 "SelfOpener$Machine" "registers" "[I", .fieldLink RX0 28 "SelfOpener$Machine" "place" "I", .fieldLink RX0 21 "SelfOpener$Machine" "state" "I", .fieldLink RX0 31 "SelfOpener$Machine" "steps" "I", .fieldLink RX0 25 "SelfOpener$Machine" "putOut" "I"] ++ wsX00)
def wsX0_write : List Cond := .code yX0_write cX0_write 4 none :: ([.fieldLink RX0 9 "SelfOpener$Machine" "memory" "[I", .methodLink RX0 34 arraycopyName, .native arraycopyName, .static arraycopyName, .initialized "java/lang/System"] ++ wsX00)
def wsX0_writeStub : List Cond := .code yX0_writeStub cX0_writeStub 7 none :: ([.fieldLink RX0 40 "SelfOpener$Machine" "STUB" "[I", .fieldLink RX0 9 "SelfOpener$Machine" "memory" "[I"] ++ wsX00)
def wsX0_jump : List Cond := .code yX0_jump cX0_jump 4 none :: ([.fieldLink RX0 28 "SelfOpener$Machine" "place" "I"] ++ wsX00)
def wsX0_reckon : List Cond := .code yX0_reckon cX0_reckon 5 (some .int) :: ([.fieldLink RX0 9 "SelfOpener$Machine" "memory" "[I"] ++ wsX00)
def wsX0_act : List Cond := .code yX0_act cX0_act 5 none :: ([.fieldLink RX0 15 "SelfOpener$Machine" "registers" "[I", .fieldLink RX0 21 "SelfOpener$Machine" "state" "I", .fieldLink RX0 9 "SelfOpener$Machine" "memory" "[I", .fieldLink RX0 18 "SelfOpener$Machine" "kept" "[I", .fieldLink RX0 25 "SelfOpener$Machine" "putOut" "I", .methodLink RX0 47 yX0_jump, .instanceMethod yX0_jump, .selects RX0 yX0_jump yX0_jump, .initialized RX0, .code yX0_jump cX0_jump 4 none, .fieldLink RX0 28 "SelfOpener$Machine" "place" "I", .methodLink RX0 50 yX0_reckon, .instanceMethod yX0_reckon, .selects RX0 yX0_reckon yX0_reckon, .code yX0_reckon cX0_reckon 5 (some .int)] ++ wsX00)
def wsX0_step : List Cond := .code yX0_step cX0_step 3 none :: ([.fieldLink RX0 9 "SelfOpener$Machine" "memory" "[I", .fieldLink RX0 28 "SelfOpener$Machine" "place" "I", .fieldLink RX0 31 "SelfOpener$Machine" "steps" "I", .methodLink RX0 43 yX0_act, .instanceMethod yX0_act, .selects RX0 yX0_act yX0_act, .initialized RX0, .code yX0_act cX0_act 5 none, .fieldLink RX0 15 "SelfOpener$Machine" "registers" "[I", .fieldLink RX0 21 "SelfOpener$Machine" "state" "I", .fieldLink RX0 18 "SelfOpener$Machine" "kept" "[I", .fieldLink RX0 25 "SelfOpener$Machine" "putOut" "I", .methodLink RX0 47 yX0_jump, .instanceMethod yX0_jump, .selects RX0 yX0_jump yX0_jump, .code yX0_jump cX0_jump 4 none, .methodLink RX0 50 yX0_reckon, .instanceMethod yX0_reckon, .selects RX0 yX0_reckon yX0_reckon, .code yX0_reckon cX0_reckon 5 (some .int)] ++ wsX00)
def wsX2_init : List Cond := .code yX2_init cX2_init 1 none :: ([.methodLink RX2 3 objectInit, .instanceMethod objectInit, .code objectInit ⟨#[0xb1]⟩ 1 none, .arrayClass .int, .fieldLink RX2 9 "SelfOpener$Program" "bytes" "[I", .fieldLink RX2 15 "SelfOpener$Program" "opened" "[I"] ++ wsX20)
def wsX1_init : List Cond := .code yX1_init cX1_init 1 none :: ([.methodLink RX1 3 objectInit, .instanceMethod objectInit, .code objectInit ⟨#[0xb1]⟩ 1 none, .classLink RX1 9 RX2, .instantiable RX2 6, .initialized RX2, .fieldLink RX1 12 "SelfOpener$Packing" "program" "LSelfOpener$Program;", .arrayClass .int, .fieldLink RX1 18 "SelfOpener$Packing" "stream" "[I", .fieldLink RX1 22 "SelfOpener$Packing" "cost" "[I", .fieldLink RX1 25 "SelfOpener$Packing" "makes" "[I", .fieldLink RX1 28 "SelfOpener$Packing" "distance" "[I", .fieldLink RX1 31 "SelfOpener$Packing" "alike" "[I", .fieldLink RX1 34 "SelfOpener$Packing" "edition" "I", .methodLink RX1 11 yX2_init, .instanceMethod yX2_init, .code yX2_init cX2_init 1 none, .methodLink RX2 3 objectInit, .fieldLink RX2 9 "SelfOpener$Program" "bytes" "[I", .fieldLink RX2 15 "SelfOpener$Program" "opened" "[I"] ++ wsX20 ++ wsX10)
def wsX1_stubAddress : List Cond := .code yX1_stubAddress cX1_stubAddress 1 (some .int) :: ([.fieldLink RX1 12 "SelfOpener$Packing" "program" "LSelfOpener$Program;", .fieldLink RX1 38 "SelfOpener$Program" "origin" "I", .fieldLink RX1 41 "SelfOpener$Program" "size" "I", .fieldLink RX1 44 "SelfOpener$Packing" "gap" "I"] ++ wsX10 ++ wsX20)
def wsX1_layoutEnd : List Cond := .code yX1_layoutEnd cX1_layoutEnd 1 (some .int) :: ([.methodLink RX1 47 yX1_stubAddress, .instanceMethod yX1_stubAddress, .selects RX1 yX1_stubAddress yX1_stubAddress, .initialized RX1, .code yX1_stubAddress cX1_stubAddress 1 (some .int), .fieldLink RX1 12 "SelfOpener$Packing" "program" "LSelfOpener$Program;", .fieldLink RX1 38 "SelfOpener$Program" "origin" "I", .fieldLink RX1 41 "SelfOpener$Program" "size" "I", .fieldLink RX1 44 "SelfOpener$Packing" "gap" "I"] ++ wsX10 ++ wsX20)
def wsX1_fits : List Cond := .code yX1_fits cX1_fits 1 (some .boolean) :: ([.methodLink RX1 53 yX1_layoutEnd, .instanceMethod yX1_layoutEnd, .selects RX1 yX1_layoutEnd yX1_layoutEnd, .initialized RX1, .code yX1_layoutEnd cX1_layoutEnd 1 (some .int), .methodLink RX1 47 yX1_stubAddress, .instanceMethod yX1_stubAddress, .selects RX1 yX1_stubAddress yX1_stubAddress, .code yX1_stubAddress cX1_stubAddress 1 (some .int), .fieldLink RX1 12 "SelfOpener$Packing" "program" "LSelfOpener$Program;", .fieldLink RX1 38 "SelfOpener$Program" "origin" "I", .fieldLink RX1 41 "SelfOpener$Program" "size" "I", .fieldLink RX1 44 "SelfOpener$Packing" "gap" "I"] ++ wsX10 ++ wsX20)
def wsX1_findCopy : List Cond := .code yX1_findCopy cX1_findCopy 5 none :: ([.fieldLink RX1 12 "SelfOpener$Packing" "program" "LSelfOpener$Program;", .fieldLink RX1 70 "SelfOpener$Program" "bytes" "[I", .fieldLink RX1 25 "SelfOpener$Packing" "makes" "[I", .fieldLink RX1 28 "SelfOpener$Packing" "distance" "[I", .fieldLink RX1 31 "SelfOpener$Packing" "alike" "[I", .methodLink RX1 73 Lib.Math.min.name, .static Lib.Math.min.name, .initialized "java/lang/Math", .code Lib.Math.min.name Lib.Math.min.code 2 (some .int)] ++ wsX10 ++ wsX20)
def wsX1_chooseToken : List Cond := .code yX1_chooseToken cX1_chooseToken 6 none :: ([.fieldLink RX1 28 "SelfOpener$Packing" "distance" "[I", .fieldLink RX1 22 "SelfOpener$Packing" "cost" "[I", .fieldLink RX1 25 "SelfOpener$Packing" "makes" "[I", .fieldLink RX1 12 "SelfOpener$Packing" "program" "LSelfOpener$Program;", .fieldLink RX1 41 "SelfOpener$Program" "size" "I", .methodLink RX1 73 Lib.Math.min.name, .static Lib.Math.min.name, .initialized "java/lang/Math", .code Lib.Math.min.name Lib.Math.min.code 2 (some .int)] ++ wsX10 ++ wsX20)
def wsX1_writeStream : List Cond := .code yX1_writeStream cX1_writeStream 6 none :: ([.fieldLink RX1 12 "SelfOpener$Packing" "program" "LSelfOpener$Program;", .fieldLink RX1 41 "SelfOpener$Program" "size" "I", .fieldLink RX1 64 "SelfOpener$Packing" "length" "I", .methodLink RX1 79 Lib.Math.max.name, .static Lib.Math.max.name, .initialized "java/lang/Math", .code Lib.Math.max.name Lib.Math.max.code 2 (some .int), .fieldLink RX1 44 "SelfOpener$Packing" "gap" "I", .fieldLink RX1 25 "SelfOpener$Packing" "makes" "[I", .fieldLink RX1 28 "SelfOpener$Packing" "distance" "[I", .fieldLink RX1 18 "SelfOpener$Packing" "stream" "[I", .fieldLink RX1 70 "SelfOpener$Program" "bytes" "[I", .methodLink RX1 82 arraycopyName, .native arraycopyName, .static arraycopyName, .initialized "java/lang/System"] ++ wsX10 ++ wsX20)
def wsX1_refresh_r1 : List Cond := [Cond.fieldLink RX1 34 "SelfOpener$Packing" "edition" "I", Cond.fieldLink RX1 12 "SelfOpener$Packing" "program" "LSelfOpener$Program;", Cond.fieldLink RX1 56 "SelfOpener$Program" "edition" "I", Cond.fieldLink RX1 41 "SelfOpener$Program" "size" "I", Cond.fieldLink RX1 31 "SelfOpener$Packing" "alike" "[I", Cond.fieldLink RX1 22 "SelfOpener$Packing" "cost" "[I", Cond.fieldLink RX1 64 "SelfOpener$Packing" "length" "I", Cond.methodLink RX1 57 yX1_findCopy, Cond.instanceMethod yX1_findCopy, Cond.selects RX1 yX1_findCopy yX1_findCopy, Cond.initialized RX1, Cond.code yX1_findCopy cX1_findCopy 5 none, Cond.fieldLink RX1 70 "SelfOpener$Program" "bytes" "[I", Cond.fieldLink RX1 25 "SelfOpener$Packing" "makes" "[I", Cond.fieldLink RX1 28 "SelfOpener$Packing" "distance" "[I", Cond.methodLink RX1 73 Lib.Math.min.name, Cond.static Lib.Math.min.name, Cond.initialized "java/lang/Math", Cond.code Lib.Math.min.name Lib.Math.min.code 2 (some .int), Cond.methodLink RX1 61 yX1_chooseToken, Cond.instanceMethod yX1_chooseToken, Cond.selects RX1 yX1_chooseToken yX1_chooseToken, Cond.code yX1_chooseToken cX1_chooseToken 6 none, Cond.methodLink RX1 67 yX1_writeStream]
def wsX1_refresh_r2 : List Cond := [Cond.instanceMethod yX1_writeStream, Cond.selects RX1 yX1_writeStream yX1_writeStream, Cond.code yX1_writeStream cX1_writeStream 6 none, Cond.methodLink RX1 79 Lib.Math.max.name, Cond.static Lib.Math.max.name, Cond.code Lib.Math.max.name Lib.Math.max.code 2 (some .int), Cond.fieldLink RX1 44 "SelfOpener$Packing" "gap" "I", Cond.fieldLink RX1 18 "SelfOpener$Packing" "stream" "[I", Cond.methodLink RX1 82 arraycopyName, Cond.native arraycopyName, Cond.static arraycopyName, Cond.initialized "java/lang/System"]
def wsX1_refresh : List Cond := .code yX1_refresh cX1_refresh 3 none :: ((wsX1_refresh_r1 ++ wsX1_refresh_r2) ++ wsX10 ++ wsX20)
def wsX2_hasRoom : List Cond := .code yX2_hasRoom cX2_hasRoom 2 (some .boolean) :: ([.fieldLink RX2 18 "SelfOpener$Program" "size" "I"] ++ wsX20)
def wsX2_fits : List Cond := .code yX2_fits cX2_fits 1 (some .boolean) :: ([.fieldLink RX2 22 "SelfOpener$Program" "origin" "I", .fieldLink RX2 18 "SelfOpener$Program" "size" "I"] ++ wsX20)
def wsX2_append : List Cond := .code yX2_append cX2_append 2 none :: ([.fieldLink RX2 9 "SelfOpener$Program" "bytes" "[I", .fieldLink RX2 18 "SelfOpener$Program" "size" "I", .fieldLink RX2 25 "SelfOpener$Program" "edition" "I"] ++ wsX20)
def wsX2_set : List Cond := .code yX2_set cX2_set 3 none :: ([.fieldLink RX2 9 "SelfOpener$Program" "bytes" "[I", .fieldLink RX2 25 "SelfOpener$Program" "edition" "I"] ++ wsX20)
def wsX2_shorten : List Cond := .code yX2_shorten cX2_shorten 2 none :: ([.fieldLink RX2 18 "SelfOpener$Program" "size" "I", .fieldLink RX2 25 "SelfOpener$Program" "edition" "I"] ++ wsX20)
def wsX2_loadedAt : List Cond := .code yX2_loadedAt cX2_loadedAt 3 (some .int) :: ([.fieldLink RX2 22 "SelfOpener$Program" "origin" "I", .fieldLink RX2 18 "SelfOpener$Program" "size" "I", .fieldLink RX2 9 "SelfOpener$Program" "bytes" "[I"] ++ wsX20)
def wsX2_openRun : List Cond := .code yX2_openRun cX2_openRun 4 (some .int) :: ([.classLink RX2 37 "java/util/NoSuchElementException", .initialized "java/util/NoSuchElementException", .classLink RX2 53 "java/lang/UnsupportedOperationException", .initialized "java/lang/UnsupportedOperationException", .fieldLink RX2 18 "SelfOpener$Program" "size" "I", .fieldLink RX2 9 "SelfOpener$Program" "bytes" "[I", .fieldLink RX2 15 "SelfOpener$Program" "opened" "[I", .methodLink RX2 43 arraycopyName, .native arraycopyName, .static arraycopyName, .initialized "java/lang/System"] ++ wsX20 ++ (vx_at0 RX2 39 "java/util/NoSuchElementException" ["java/lang/RuntimeException", "java/lang/Exception"]).filter goodWord ++ (vx_at0 RX2 55 "java/lang/UnsupportedOperationException" ["java/lang/RuntimeException", "java/lang/Exception"]).filter goodWord)
def wsX2_openCopy : List Cond := .code yX2_openCopy cX2_openCopy 6 (some .int) :: ([.classLink RX2 37 "java/util/NoSuchElementException", .initialized "java/util/NoSuchElementException", .classLink RX2 56 "java/lang/IllegalArgumentException", .initialized "java/lang/IllegalArgumentException", .classLink RX2 53 "java/lang/UnsupportedOperationException", .initialized "java/lang/UnsupportedOperationException", .fieldLink RX2 18 "SelfOpener$Program" "size" "I", .fieldLink RX2 9 "SelfOpener$Program" "bytes" "[I", .fieldLink RX2 15 "SelfOpener$Program" "opened" "[I"] ++ wsX20 ++ (vx_at0 RX2 39 "java/util/NoSuchElementException" ["java/lang/RuntimeException", "java/lang/Exception"]).filter goodWord ++ (vx_at0 RX2 58 "java/lang/IllegalArgumentException" ["java/lang/RuntimeException", "java/lang/Exception"]).filter goodWord ++ (vx_at0 RX2 55 "java/lang/UnsupportedOperationException" ["java/lang/RuntimeException", "java/lang/Exception"]).filter goodWord)
def wsX2_openAsStream_r1 : List Cond := [Cond.classLink RX2 37 "java/util/NoSuchElementException", Cond.initialized "java/util/NoSuchElementException", Cond.classLink RX2 40 "java/lang/IllegalStateException", Cond.initialized "java/lang/IllegalStateException", Cond.fieldLink RX2 18 "SelfOpener$Program" "size" "I", Cond.fieldLink RX2 9 "SelfOpener$Program" "bytes" "[I", Cond.fieldLink RX2 15 "SelfOpener$Program" "opened" "[I", Cond.methodLink RX2 43 arraycopyName, Cond.native arraycopyName, Cond.static arraycopyName, Cond.initialized "java/lang/System", Cond.methodLink RX2 30 yX2_openRun, Cond.instanceMethod yX2_openRun, Cond.selects RX2 yX2_openRun yX2_openRun, Cond.initialized RX2, Cond.code yX2_openRun cX2_openRun 4 (some .int), Cond.classLink RX2 53 "java/lang/UnsupportedOperationException", Cond.initialized "java/lang/UnsupportedOperationException", Cond.methodLink RX2 34 yX2_openCopy, Cond.instanceMethod yX2_openCopy, Cond.selects RX2 yX2_openCopy yX2_openCopy, Cond.code yX2_openCopy cX2_openCopy 6 (some .int), Cond.classLink RX2 56 "java/lang/IllegalArgumentException", Cond.initialized "java/lang/IllegalArgumentException"]
def wsX2_openAsStream_r2 : List Cond := [Cond.methodLink RX2 49 yX2_shorten, Cond.instanceMethod yX2_shorten, Cond.selects RX2 yX2_shorten yX2_shorten, Cond.code yX2_shorten cX2_shorten 2 none, Cond.fieldLink RX2 25 "SelfOpener$Program" "edition" "I"]
def wsX2_openAsStream : List Cond := .code yX2_openAsStream cX2_openAsStream 4 none :: ((wsX2_openAsStream_r1 ++ wsX2_openAsStream_r2) ++ wsX20 ++ (vx_at0 RX2 39 "java/util/NoSuchElementException" ["java/lang/RuntimeException", "java/lang/Exception"]).filter goodWord ++ (vx_at0 RX2 42 "java/lang/IllegalStateException" ["java/lang/RuntimeException", "java/lang/Exception"]).filter goodWord ++ (vx_at0 RX2 55 "java/lang/UnsupportedOperationException" ["java/lang/RuntimeException", "java/lang/Exception"]).filter goodWord ++ (vx_at0 RX2 58 "java/lang/IllegalArgumentException" ["java/lang/RuntimeException", "java/lang/Exception"]).filter goodWord)
def wsX3_init_r1 : List Cond := [Cond.methodLink RX3 1 objectInit, Cond.instanceMethod objectInit, Cond.code objectInit ⟨#[0xb1]⟩ 1 none, Cond.classLink RX3 7 RX1, Cond.instantiable RX1 9, Cond.initialized RX1, Cond.fieldLink RX3 10 "SelfOpener" "packing" "LSelfOpener$Packing;", Cond.fieldLink RX3 16 "SelfOpener$Packing" "program" "LSelfOpener$Program;", Cond.fieldLink RX3 20 "SelfOpener" "program" "LSelfOpener$Program;", Cond.classLink RX3 21 RX0, Cond.instantiable RX0 7, Cond.initialized RX0, Cond.fieldLink RX3 24 "SelfOpener" "machine" "LSelfOpener$Machine;", Cond.methodLink RX3 9 yX1_init, Cond.instanceMethod yX1_init, Cond.code yX1_init cX1_init 1 none, Cond.methodLink RX1 3 objectInit, Cond.classLink RX1 9 RX2, Cond.instantiable RX2 6, Cond.initialized RX2, Cond.fieldLink RX1 12 "SelfOpener$Packing" "program" "LSelfOpener$Program;", Cond.arrayClass .int, Cond.fieldLink RX1 18 "SelfOpener$Packing" "stream" "[I", Cond.fieldLink RX1 22 "SelfOpener$Packing" "cost" "[I"]
def wsX3_init_r2 : List Cond := [Cond.fieldLink RX1 25 "SelfOpener$Packing" "makes" "[I", Cond.fieldLink RX1 28 "SelfOpener$Packing" "distance" "[I", Cond.fieldLink RX1 31 "SelfOpener$Packing" "alike" "[I", Cond.fieldLink RX1 34 "SelfOpener$Packing" "edition" "I", Cond.methodLink RX1 11 yX2_init, Cond.instanceMethod yX2_init, Cond.code yX2_init cX2_init 1 none, Cond.methodLink RX2 3 objectInit, Cond.fieldLink RX2 9 "SelfOpener$Program" "bytes" "[I", Cond.fieldLink RX2 15 "SelfOpener$Program" "opened" "[I", Cond.methodLink RX3 23 yX0_init, Cond.instanceMethod yX0_init, Cond.code yX0_init cX0_init 1 none, Cond.methodLink RX0 3 objectInit, Cond.fieldLink RX0 9 "SelfOpener$Machine" "memory" "[I", Cond.fieldLink RX0 15 "SelfOpener$Machine" "registers" "[I", Cond.fieldLink RX0 18 "SelfOpener$Machine" "kept" "[I", Cond.fieldLink RX0 21 "SelfOpener$Machine" "state" "I"]
def wsX3_init : List Cond := .code yX3_init cX3_init 1 none :: ((wsX3_init_r1 ++ wsX3_init_r2) ++ wsX10 ++ wsX30 ++ wsX00 ++ wsX20)
def wsX3_put : List Cond := .code yX3_put cX3_put 7 (some .boolean) :: ([.fieldLink RX3 20 "SelfOpener" "program" "LSelfOpener$Program;", .constantLong RX3 34 (255), .methodLink RX3 28 yX2_hasRoom, .instanceMethod yX2_hasRoom, .selects RX2 yX2_hasRoom yX2_hasRoom, .initialized RX2, .code yX2_hasRoom cX2_hasRoom 2 (some .boolean), .fieldLink RX2 18 "SelfOpener$Program" "size" "I", .methodLink RX3 36 yX2_append, .instanceMethod yX2_append, .selects RX2 yX2_append yX2_append, .code yX2_append cX2_append 2 none, .fieldLink RX2 9 "SelfOpener$Program" "bytes" "[I", .fieldLink RX2 25 "SelfOpener$Program" "edition" "I"] ++ wsX30 ++ wsX20)
def wsX3_again : List Cond := .code yX3_again cX3_again 4 (some .boolean) :: ([.fieldLink RX3 20 "SelfOpener" "program" "LSelfOpener$Program;", .fieldLink RX3 40 "SelfOpener$Program" "size" "I", .fieldLink RX3 44 "SelfOpener$Program" "bytes" "[I", .methodLink RX3 28 yX2_hasRoom, .instanceMethod yX2_hasRoom, .selects RX2 yX2_hasRoom yX2_hasRoom, .initialized RX2, .code yX2_hasRoom cX2_hasRoom 2 (some .boolean), .fieldLink RX2 18 "SelfOpener$Program" "size" "I", .methodLink RX3 36 yX2_append, .instanceMethod yX2_append, .selects RX2 yX2_append yX2_append, .code yX2_append cX2_append 2 none, .fieldLink RX2 9 "SelfOpener$Program" "bytes" "[I", .fieldLink RX2 25 "SelfOpener$Program" "edition" "I"] ++ wsX30 ++ wsX20)
def wsX3_isByte : List Cond := .code yX3_isByte cX3_isByte 1 (some .boolean) :: ([])
def wsX3_change : List Cond := .code yX3_change cX3_change 3 none :: ([.classLink RX3 48 "java/lang/IndexOutOfBoundsException", .initialized "java/lang/IndexOutOfBoundsException", .classLink RX3 54 "java/lang/IllegalArgumentException", .initialized "java/lang/IllegalArgumentException", .fieldLink RX3 20 "SelfOpener" "program" "LSelfOpener$Program;", .fieldLink RX3 40 "SelfOpener$Program" "size" "I", .methodLink RX3 51 yX3_isByte, .static yX3_isByte, .initialized RX3, .code yX3_isByte cX3_isByte 1 (some .boolean), .methodLink RX3 57 yX2_set, .instanceMethod yX2_set, .selects RX2 yX2_set yX2_set, .initialized RX2, .code yX2_set cX2_set 3 none, .fieldLink RX2 9 "SelfOpener$Program" "bytes" "[I", .fieldLink RX2 25 "SelfOpener$Program" "edition" "I"] ++ wsX30 ++ wsX20 ++ (vx_at0 RX3 50 "java/lang/IndexOutOfBoundsException" ["java/lang/RuntimeException", "java/lang/Exception"]).filter goodWord ++ (vx_at0 RX3 56 "java/lang/IllegalArgumentException" ["java/lang/RuntimeException", "java/lang/Exception"]).filter goodWord)
def wsX3_cut : List Cond := .code yX3_cut cX3_cut 2 none :: ([.classLink RX3 54 "java/lang/IllegalArgumentException", .initialized "java/lang/IllegalArgumentException", .fieldLink RX3 20 "SelfOpener" "program" "LSelfOpener$Program;", .fieldLink RX3 40 "SelfOpener$Program" "size" "I", .methodLink RX3 61 yX2_shorten, .instanceMethod yX2_shorten, .selects RX2 yX2_shorten yX2_shorten, .initialized RX2, .code yX2_shorten cX2_shorten 2 none, .fieldLink RX2 18 "SelfOpener$Program" "size" "I", .fieldLink RX2 25 "SelfOpener$Program" "edition" "I"] ++ wsX30 ++ wsX20 ++ (vx_at0 RX3 56 "java/lang/IllegalArgumentException" ["java/lang/RuntimeException", "java/lang/Exception"]).filter goodWord)
def wsX3_place : List Cond := .code yX3_place cX3_place 3 none :: ([.classLink RX3 54 "java/lang/IllegalArgumentException", .initialized "java/lang/IllegalArgumentException", .fieldLink RX3 20 "SelfOpener" "program" "LSelfOpener$Program;", .fieldLink RX3 64 "SelfOpener$Program" "origin" "I", .fieldLink RX3 67 "SelfOpener$Program" "entry" "I", .methodLink RX3 51 yX3_isByte, .static yX3_isByte, .initialized RX3, .code yX3_isByte cX3_isByte 1 (some .boolean)] ++ wsX30 ++ wsX20 ++ (vx_at0 RX3 56 "java/lang/IllegalArgumentException" ["java/lang/RuntimeException", "java/lang/Exception"]).filter goodWord)
def wsX3_size : List Cond := .code yX3_size cX3_size 1 (some .int) :: ([.fieldLink RX3 20 "SelfOpener" "program" "LSelfOpener$Program;", .fieldLink RX3 40 "SelfOpener$Program" "size" "I"] ++ wsX30 ++ wsX20)
def wsX3_packed_r1 : List Cond := [Cond.fieldLink RX3 10 "SelfOpener" "packing" "LSelfOpener$Packing;", Cond.fieldLink RX3 73 "SelfOpener$Packing" "length" "I", Cond.methodLink RX3 70 yX1_refresh, Cond.instanceMethod yX1_refresh, Cond.selects RX1 yX1_refresh yX1_refresh, Cond.initialized RX1, Cond.code yX1_refresh cX1_refresh 3 none, Cond.fieldLink RX1 34 "SelfOpener$Packing" "edition" "I", Cond.fieldLink RX1 12 "SelfOpener$Packing" "program" "LSelfOpener$Program;", Cond.fieldLink RX1 56 "SelfOpener$Program" "edition" "I", Cond.fieldLink RX1 41 "SelfOpener$Program" "size" "I", Cond.fieldLink RX1 31 "SelfOpener$Packing" "alike" "[I", Cond.fieldLink RX1 22 "SelfOpener$Packing" "cost" "[I", Cond.fieldLink RX1 64 "SelfOpener$Packing" "length" "I", Cond.methodLink RX1 57 yX1_findCopy, Cond.instanceMethod yX1_findCopy, Cond.selects RX1 yX1_findCopy yX1_findCopy, Cond.code yX1_findCopy cX1_findCopy 5 none, Cond.fieldLink RX1 70 "SelfOpener$Program" "bytes" "[I", Cond.fieldLink RX1 25 "SelfOpener$Packing" "makes" "[I", Cond.fieldLink RX1 28 "SelfOpener$Packing" "distance" "[I", Cond.methodLink RX1 73 Lib.Math.min.name, Cond.static Lib.Math.min.name, Cond.initialized "java/lang/Math"]
def wsX3_packed_r2 : List Cond := [Cond.code Lib.Math.min.name Lib.Math.min.code 2 (some .int), Cond.methodLink RX1 61 yX1_chooseToken, Cond.instanceMethod yX1_chooseToken, Cond.selects RX1 yX1_chooseToken yX1_chooseToken, Cond.code yX1_chooseToken cX1_chooseToken 6 none, Cond.methodLink RX1 67 yX1_writeStream, Cond.instanceMethod yX1_writeStream, Cond.selects RX1 yX1_writeStream yX1_writeStream, Cond.code yX1_writeStream cX1_writeStream 6 none, Cond.methodLink RX1 79 Lib.Math.max.name, Cond.static Lib.Math.max.name, Cond.code Lib.Math.max.name Lib.Math.max.code 2 (some .int), Cond.fieldLink RX1 44 "SelfOpener$Packing" "gap" "I", Cond.fieldLink RX1 18 "SelfOpener$Packing" "stream" "[I", Cond.methodLink RX1 82 arraycopyName, Cond.native arraycopyName, Cond.static arraycopyName, Cond.initialized "java/lang/System"]
def wsX3_packed : List Cond := .code yX3_packed cX3_packed 1 (some .int) :: ((wsX3_packed_r1 ++ wsX3_packed_r2) ++ wsX30 ++ wsX10 ++ wsX20)
def wsX3_stream_r1 : List Cond := [Cond.classLink RX3 48 "java/lang/IndexOutOfBoundsException", Cond.initialized "java/lang/IndexOutOfBoundsException", Cond.fieldLink RX3 10 "SelfOpener" "packing" "LSelfOpener$Packing;", Cond.fieldLink RX3 73 "SelfOpener$Packing" "length" "I", Cond.fieldLink RX3 76 "SelfOpener$Packing" "stream" "[I", Cond.methodLink RX3 70 yX1_refresh, Cond.instanceMethod yX1_refresh, Cond.selects RX1 yX1_refresh yX1_refresh, Cond.initialized RX1, Cond.code yX1_refresh cX1_refresh 3 none, Cond.fieldLink RX1 34 "SelfOpener$Packing" "edition" "I", Cond.fieldLink RX1 12 "SelfOpener$Packing" "program" "LSelfOpener$Program;", Cond.fieldLink RX1 56 "SelfOpener$Program" "edition" "I", Cond.fieldLink RX1 41 "SelfOpener$Program" "size" "I", Cond.fieldLink RX1 31 "SelfOpener$Packing" "alike" "[I", Cond.fieldLink RX1 22 "SelfOpener$Packing" "cost" "[I", Cond.fieldLink RX1 64 "SelfOpener$Packing" "length" "I", Cond.methodLink RX1 57 yX1_findCopy, Cond.instanceMethod yX1_findCopy, Cond.selects RX1 yX1_findCopy yX1_findCopy, Cond.code yX1_findCopy cX1_findCopy 5 none, Cond.fieldLink RX1 70 "SelfOpener$Program" "bytes" "[I", Cond.fieldLink RX1 25 "SelfOpener$Packing" "makes" "[I", Cond.fieldLink RX1 28 "SelfOpener$Packing" "distance" "[I"]
def wsX3_stream_r2 : List Cond := [Cond.methodLink RX1 73 Lib.Math.min.name, Cond.static Lib.Math.min.name, Cond.initialized "java/lang/Math", Cond.code Lib.Math.min.name Lib.Math.min.code 2 (some .int), Cond.methodLink RX1 61 yX1_chooseToken, Cond.instanceMethod yX1_chooseToken, Cond.selects RX1 yX1_chooseToken yX1_chooseToken, Cond.code yX1_chooseToken cX1_chooseToken 6 none, Cond.methodLink RX1 67 yX1_writeStream, Cond.instanceMethod yX1_writeStream, Cond.selects RX1 yX1_writeStream yX1_writeStream, Cond.code yX1_writeStream cX1_writeStream 6 none, Cond.methodLink RX1 79 Lib.Math.max.name, Cond.static Lib.Math.max.name, Cond.code Lib.Math.max.name Lib.Math.max.code 2 (some .int), Cond.fieldLink RX1 44 "SelfOpener$Packing" "gap" "I", Cond.fieldLink RX1 18 "SelfOpener$Packing" "stream" "[I", Cond.methodLink RX1 82 arraycopyName, Cond.native arraycopyName, Cond.static arraycopyName, Cond.initialized "java/lang/System"]
def wsX3_stream : List Cond := .code yX3_stream cX3_stream 2 (some .int) :: ((wsX3_stream_r1 ++ wsX3_stream_r2) ++ wsX30 ++ wsX10 ++ wsX20 ++ (vx_at0 RX3 50 "java/lang/IndexOutOfBoundsException" ["java/lang/RuntimeException", "java/lang/Exception"]).filter goodWord)
def wsX3_gap_r1 : List Cond := [Cond.fieldLink RX3 10 "SelfOpener" "packing" "LSelfOpener$Packing;", Cond.fieldLink RX3 79 "SelfOpener$Packing" "gap" "I", Cond.methodLink RX3 70 yX1_refresh, Cond.instanceMethod yX1_refresh, Cond.selects RX1 yX1_refresh yX1_refresh, Cond.initialized RX1, Cond.code yX1_refresh cX1_refresh 3 none, Cond.fieldLink RX1 34 "SelfOpener$Packing" "edition" "I", Cond.fieldLink RX1 12 "SelfOpener$Packing" "program" "LSelfOpener$Program;", Cond.fieldLink RX1 56 "SelfOpener$Program" "edition" "I", Cond.fieldLink RX1 41 "SelfOpener$Program" "size" "I", Cond.fieldLink RX1 31 "SelfOpener$Packing" "alike" "[I", Cond.fieldLink RX1 22 "SelfOpener$Packing" "cost" "[I", Cond.fieldLink RX1 64 "SelfOpener$Packing" "length" "I", Cond.methodLink RX1 57 yX1_findCopy, Cond.instanceMethod yX1_findCopy, Cond.selects RX1 yX1_findCopy yX1_findCopy, Cond.code yX1_findCopy cX1_findCopy 5 none, Cond.fieldLink RX1 70 "SelfOpener$Program" "bytes" "[I", Cond.fieldLink RX1 25 "SelfOpener$Packing" "makes" "[I", Cond.fieldLink RX1 28 "SelfOpener$Packing" "distance" "[I", Cond.methodLink RX1 73 Lib.Math.min.name, Cond.static Lib.Math.min.name, Cond.initialized "java/lang/Math"]
def wsX3_gap_r2 : List Cond := [Cond.code Lib.Math.min.name Lib.Math.min.code 2 (some .int), Cond.methodLink RX1 61 yX1_chooseToken, Cond.instanceMethod yX1_chooseToken, Cond.selects RX1 yX1_chooseToken yX1_chooseToken, Cond.code yX1_chooseToken cX1_chooseToken 6 none, Cond.methodLink RX1 67 yX1_writeStream, Cond.instanceMethod yX1_writeStream, Cond.selects RX1 yX1_writeStream yX1_writeStream, Cond.code yX1_writeStream cX1_writeStream 6 none, Cond.methodLink RX1 79 Lib.Math.max.name, Cond.static Lib.Math.max.name, Cond.code Lib.Math.max.name Lib.Math.max.code 2 (some .int), Cond.fieldLink RX1 44 "SelfOpener$Packing" "gap" "I", Cond.fieldLink RX1 18 "SelfOpener$Packing" "stream" "[I", Cond.methodLink RX1 82 arraycopyName, Cond.native arraycopyName, Cond.static arraycopyName, Cond.initialized "java/lang/System"]
def wsX3_gap : List Cond := .code yX3_gap cX3_gap 1 (some .int) :: ((wsX3_gap_r1 ++ wsX3_gap_r2) ++ wsX30 ++ wsX10 ++ wsX20)
def wsX3_unpack_r1 : List Cond := [Cond.fieldLink RX3 20 "SelfOpener" "program" "LSelfOpener$Program;", Cond.fieldLink RX3 40 "SelfOpener$Program" "size" "I", Cond.methodLink RX3 82 yX2_openAsStream, Cond.instanceMethod yX2_openAsStream, Cond.selects RX2 yX2_openAsStream yX2_openAsStream, Cond.initialized RX2, Cond.code yX2_openAsStream cX2_openAsStream 4 none, Cond.classLink RX2 37 "java/util/NoSuchElementException", Cond.initialized "java/util/NoSuchElementException", Cond.classLink RX2 40 "java/lang/IllegalStateException", Cond.initialized "java/lang/IllegalStateException", Cond.fieldLink RX2 18 "SelfOpener$Program" "size" "I", Cond.fieldLink RX2 9 "SelfOpener$Program" "bytes" "[I", Cond.fieldLink RX2 15 "SelfOpener$Program" "opened" "[I", Cond.methodLink RX2 43 arraycopyName, Cond.native arraycopyName, Cond.static arraycopyName, Cond.initialized "java/lang/System", Cond.methodLink RX2 30 yX2_openRun, Cond.instanceMethod yX2_openRun, Cond.selects RX2 yX2_openRun yX2_openRun, Cond.code yX2_openRun cX2_openRun 4 (some .int), Cond.classLink RX2 53 "java/lang/UnsupportedOperationException", Cond.initialized "java/lang/UnsupportedOperationException"]
def wsX3_unpack_r2 : List Cond := [Cond.methodLink RX2 34 yX2_openCopy, Cond.instanceMethod yX2_openCopy, Cond.selects RX2 yX2_openCopy yX2_openCopy, Cond.code yX2_openCopy cX2_openCopy 6 (some .int), Cond.classLink RX2 56 "java/lang/IllegalArgumentException", Cond.initialized "java/lang/IllegalArgumentException", Cond.methodLink RX2 49 yX2_shorten, Cond.instanceMethod yX2_shorten, Cond.selects RX2 yX2_shorten yX2_shorten, Cond.code yX2_shorten cX2_shorten 2 none, Cond.fieldLink RX2 25 "SelfOpener$Program" "edition" "I"]
def wsX3_unpack : List Cond := .code yX3_unpack cX3_unpack 1 (some .int) :: ((wsX3_unpack_r1 ++ wsX3_unpack_r2) ++ wsX30 ++ wsX20 ++ (vx_at0 RX2 39 "java/util/NoSuchElementException" ["java/lang/RuntimeException", "java/lang/Exception"]).filter goodWord ++ (vx_at0 RX2 42 "java/lang/IllegalStateException" ["java/lang/RuntimeException", "java/lang/Exception"]).filter goodWord ++ (vx_at0 RX2 55 "java/lang/UnsupportedOperationException" ["java/lang/RuntimeException", "java/lang/Exception"]).filter goodWord ++ (vx_at0 RX2 58 "java/lang/IllegalArgumentException" ["java/lang/RuntimeException", "java/lang/Exception"]).filter goodWord)
def wsX3_load_r1 : List Cond := [Cond.classLink RX3 89 "java/lang/IllegalStateException", Cond.initialized "java/lang/IllegalStateException", Cond.fieldLink RX3 20 "SelfOpener" "program" "LSelfOpener$Program;", Cond.fieldLink RX3 24 "SelfOpener" "machine" "LSelfOpener$Machine;", Cond.fieldLink RX3 67 "SelfOpener$Program" "entry" "I", Cond.fieldLink RX3 64 "SelfOpener$Program" "origin" "I", Cond.fieldLink RX3 44 "SelfOpener$Program" "bytes" "[I", Cond.fieldLink RX3 40 "SelfOpener$Program" "size" "I", Cond.methodLink RX3 85 yX2_fits, Cond.instanceMethod yX2_fits, Cond.selects RX2 yX2_fits yX2_fits, Cond.initialized RX2, Cond.code yX2_fits cX2_fits 1 (some .boolean), Cond.fieldLink RX2 22 "SelfOpener$Program" "origin" "I", Cond.fieldLink RX2 18 "SelfOpener$Program" "size" "I", Cond.methodLink RX3 92 yX0_clear, Cond.instanceMethod yX0_clear, Cond.selects RX0 yX0_clear yX0_clear, Cond.initialized RX0, Cond.code yX0_clear cX0_clear 3 none, Cond.fieldLink RX0 9 "SelfOpener$Machine" "memory" "[I", Cond.fieldLink RX0 15 "SelfOpener$Machine" "registers" "[I", Cond.fieldLink RX0 28 "SelfOpener$Machine" "place" "I", Cond.fieldLink RX0 21 "SelfOpener$Machine" "state" "I"]
def wsX3_load_r2 : List Cond := [Cond.fieldLink RX0 31 "SelfOpener$Machine" "steps" "I", Cond.fieldLink RX0 25 "SelfOpener$Machine" "putOut" "I", Cond.methodLink RX3 95 yX0_write, Cond.instanceMethod yX0_write, Cond.selects RX0 yX0_write yX0_write, Cond.code yX0_write cX0_write 4 none, Cond.methodLink RX0 34 arraycopyName, Cond.native arraycopyName, Cond.static arraycopyName, Cond.initialized "java/lang/System"]
def wsX3_load : List Cond := .code yX3_load cX3_load 1 none :: ((wsX3_load_r1 ++ wsX3_load_r2) ++ wsX30 ++ wsX20 ++ wsX00 ++ (vx_at0 RX3 91 "java/lang/IllegalStateException" ["java/lang/RuntimeException", "java/lang/Exception"]).filter goodWord)
def wsX3_loadPacked_r1 : List Cond := [Cond.classLink RX3 100 "java/lang/UnsupportedOperationException", Cond.initialized "java/lang/UnsupportedOperationException", Cond.fieldLink RX3 10 "SelfOpener" "packing" "LSelfOpener$Packing;", Cond.fieldLink RX3 73 "SelfOpener$Packing" "length" "I", Cond.fieldLink RX3 24 "SelfOpener" "machine" "LSelfOpener$Machine;", Cond.fieldLink RX3 76 "SelfOpener$Packing" "stream" "[I", Cond.fieldLink RX3 20 "SelfOpener" "program" "LSelfOpener$Program;", Cond.fieldLink RX3 64 "SelfOpener$Program" "origin" "I", Cond.fieldLink RX3 67 "SelfOpener$Program" "entry" "I", Cond.methodLink RX3 70 yX1_refresh, Cond.instanceMethod yX1_refresh, Cond.selects RX1 yX1_refresh yX1_refresh, Cond.initialized RX1, Cond.code yX1_refresh cX1_refresh 3 none, Cond.fieldLink RX1 34 "SelfOpener$Packing" "edition" "I", Cond.fieldLink RX1 12 "SelfOpener$Packing" "program" "LSelfOpener$Program;", Cond.fieldLink RX1 56 "SelfOpener$Program" "edition" "I", Cond.fieldLink RX1 41 "SelfOpener$Program" "size" "I", Cond.fieldLink RX1 31 "SelfOpener$Packing" "alike" "[I", Cond.fieldLink RX1 22 "SelfOpener$Packing" "cost" "[I", Cond.fieldLink RX1 64 "SelfOpener$Packing" "length" "I", Cond.methodLink RX1 57 yX1_findCopy, Cond.instanceMethod yX1_findCopy, Cond.selects RX1 yX1_findCopy yX1_findCopy]
def wsX3_loadPacked_r2 : List Cond := [Cond.code yX1_findCopy cX1_findCopy 5 none, Cond.fieldLink RX1 70 "SelfOpener$Program" "bytes" "[I", Cond.fieldLink RX1 25 "SelfOpener$Packing" "makes" "[I", Cond.fieldLink RX1 28 "SelfOpener$Packing" "distance" "[I", Cond.methodLink RX1 73 Lib.Math.min.name, Cond.static Lib.Math.min.name, Cond.initialized "java/lang/Math", Cond.code Lib.Math.min.name Lib.Math.min.code 2 (some .int), Cond.methodLink RX1 61 yX1_chooseToken, Cond.instanceMethod yX1_chooseToken, Cond.selects RX1 yX1_chooseToken yX1_chooseToken, Cond.code yX1_chooseToken cX1_chooseToken 6 none, Cond.methodLink RX1 67 yX1_writeStream, Cond.instanceMethod yX1_writeStream, Cond.selects RX1 yX1_writeStream yX1_writeStream, Cond.code yX1_writeStream cX1_writeStream 6 none, Cond.methodLink RX1 79 Lib.Math.max.name, Cond.static Lib.Math.max.name, Cond.code Lib.Math.max.name Lib.Math.max.code 2 (some .int), Cond.fieldLink RX1 44 "SelfOpener$Packing" "gap" "I", Cond.fieldLink RX1 18 "SelfOpener$Packing" "stream" "[I", Cond.methodLink RX1 82 arraycopyName, Cond.native arraycopyName, Cond.static arraycopyName]
def wsX3_loadPacked_r3 : List Cond := [Cond.initialized "java/lang/System", Cond.methodLink RX3 99 yX1_fits, Cond.instanceMethod yX1_fits, Cond.selects RX1 yX1_fits yX1_fits, Cond.code yX1_fits cX1_fits 1 (some .boolean), Cond.methodLink RX1 53 yX1_layoutEnd, Cond.instanceMethod yX1_layoutEnd, Cond.selects RX1 yX1_layoutEnd yX1_layoutEnd, Cond.code yX1_layoutEnd cX1_layoutEnd 1 (some .int), Cond.methodLink RX1 47 yX1_stubAddress, Cond.instanceMethod yX1_stubAddress, Cond.selects RX1 yX1_stubAddress yX1_stubAddress, Cond.code yX1_stubAddress cX1_stubAddress 1 (some .int), Cond.fieldLink RX1 38 "SelfOpener$Program" "origin" "I", Cond.methodLink RX3 103 yX1_stubAddress, Cond.methodLink RX3 92 yX0_clear, Cond.instanceMethod yX0_clear, Cond.selects RX0 yX0_clear yX0_clear, Cond.initialized RX0, Cond.code yX0_clear cX0_clear 3 none, Cond.fieldLink RX0 9 "SelfOpener$Machine" "memory" "[I", Cond.fieldLink RX0 15 "SelfOpener$Machine" "registers" "[I", Cond.fieldLink RX0 28 "SelfOpener$Machine" "place" "I", Cond.fieldLink RX0 21 "SelfOpener$Machine" "state" "I"]
def wsX3_loadPacked_r4 : List Cond := [Cond.fieldLink RX0 31 "SelfOpener$Machine" "steps" "I", Cond.fieldLink RX0 25 "SelfOpener$Machine" "putOut" "I", Cond.methodLink RX3 95 yX0_write, Cond.instanceMethod yX0_write, Cond.selects RX0 yX0_write yX0_write, Cond.code yX0_write cX0_write 4 none, Cond.methodLink RX0 34 arraycopyName, Cond.methodLink RX3 107 yX0_writeStub, Cond.instanceMethod yX0_writeStub, Cond.selects RX0 yX0_writeStub yX0_writeStub, Cond.code yX0_writeStub cX0_writeStub 7 none, Cond.fieldLink RX0 40 "SelfOpener$Machine" "STUB" "[I", Cond.methodLink RX3 111 yX1_layoutEnd]
def wsX3_loadPacked : List Cond := .code yX3_loadPacked cX3_loadPacked 3 (some .int) :: ((wsX3_loadPacked_r1 ++ (wsX3_loadPacked_r2 ++ (wsX3_loadPacked_r3 ++ wsX3_loadPacked_r4))) ++ wsX30 ++ wsX10 ++ wsX20 ++ wsX00 ++ (vx_at0 RX3 102 "java/lang/UnsupportedOperationException" ["java/lang/RuntimeException", "java/lang/Exception"]).filter goodWord)
def wsX3_run_r1 : List Cond := [Cond.classLink RX3 54 "java/lang/IllegalArgumentException", Cond.initialized "java/lang/IllegalArgumentException", Cond.fieldLink RX3 24 "SelfOpener" "machine" "LSelfOpener$Machine;", Cond.fieldLink RX3 117 "SelfOpener$Machine" "place" "I", Cond.methodLink RX3 114 yX0_runs, Cond.instanceMethod yX0_runs, Cond.selects RX0 yX0_runs yX0_runs, Cond.initialized RX0, Cond.code yX0_runs cX0_runs 1 (some .boolean), Cond.fieldLink RX0 21 "SelfOpener$Machine" "state" "I", Cond.methodLink RX3 120 yX0_step, Cond.instanceMethod yX0_step, Cond.selects RX0 yX0_step yX0_step, Cond.code yX0_step cX0_step 3 none, Cond.fieldLink RX0 9 "SelfOpener$Machine" "memory" "[I", Cond.fieldLink RX0 28 "SelfOpener$Machine" "place" "I", Cond.fieldLink RX0 31 "SelfOpener$Machine" "steps" "I", Cond.methodLink RX0 43 yX0_act, Cond.instanceMethod yX0_act, Cond.selects RX0 yX0_act yX0_act, Cond.code yX0_act cX0_act 5 none, Cond.fieldLink RX0 15 "SelfOpener$Machine" "registers" "[I", Cond.fieldLink RX0 18 "SelfOpener$Machine" "kept" "[I", Cond.fieldLink RX0 25 "SelfOpener$Machine" "putOut" "I"]
def wsX3_run_r2 : List Cond := [Cond.methodLink RX0 47 yX0_jump, Cond.instanceMethod yX0_jump, Cond.selects RX0 yX0_jump yX0_jump, Cond.code yX0_jump cX0_jump 4 none, Cond.methodLink RX0 50 yX0_reckon, Cond.instanceMethod yX0_reckon, Cond.selects RX0 yX0_reckon yX0_reckon, Cond.code yX0_reckon cX0_reckon 5 (some .int)]
def wsX3_run : List Cond := .code yX3_run cX3_run 4 (some .int) :: ((wsX3_run_r1 ++ wsX3_run_r2) ++ wsX30 ++ wsX00 ++ (vx_at0 RX3 56 "java/lang/IllegalArgumentException" ["java/lang/RuntimeException", "java/lang/Exception"]).filter goodWord)
def wsX3_look : List Cond := .code yX3_look cX3_look 2 (some .int) :: ([.classLink RX3 48 "java/lang/IndexOutOfBoundsException", .initialized "java/lang/IndexOutOfBoundsException", .fieldLink RX3 24 "SelfOpener" "machine" "LSelfOpener$Machine;", .fieldLink RX3 123 "SelfOpener$Machine" "registers" "[I", .fieldLink RX3 117 "SelfOpener$Machine" "place" "I", .fieldLink RX3 126 "SelfOpener$Machine" "state" "I", .fieldLink RX3 129 "SelfOpener$Machine" "steps" "I", .fieldLink RX3 132 "SelfOpener$Machine" "putOut" "I"] ++ wsX30 ++ wsX00 ++ (vx_at0 RX3 50 "java/lang/IndexOutOfBoundsException" ["java/lang/RuntimeException", "java/lang/Exception"]).filter goodWord)
def wsX3_memory : List Cond := .code yX3_memory cX3_memory 2 (some .int) :: ([.classLink RX3 48 "java/lang/IndexOutOfBoundsException", .initialized "java/lang/IndexOutOfBoundsException", .fieldLink RX3 24 "SelfOpener" "machine" "LSelfOpener$Machine;", .fieldLink RX3 135 "SelfOpener$Machine" "memory" "[I", .methodLink RX3 51 yX3_isByte, .static yX3_isByte, .initialized RX3, .code yX3_isByte cX3_isByte 1 (some .boolean)] ++ wsX30 ++ wsX00 ++ (vx_at0 RX3 50 "java/lang/IndexOutOfBoundsException" ["java/lang/RuntimeException", "java/lang/Exception"]).filter goodWord)
def wsX3_out : List Cond := .code yX3_out cX3_out 2 (some .int) :: ([.classLink RX3 48 "java/lang/IndexOutOfBoundsException", .initialized "java/lang/IndexOutOfBoundsException", .fieldLink RX3 24 "SelfOpener" "machine" "LSelfOpener$Machine;", .fieldLink RX3 141 "SelfOpener$Machine" "kept" "[I", .methodLink RX3 138 yX0_keeps, .instanceMethod yX0_keeps, .selects RX0 yX0_keeps yX0_keeps, .initialized RX0, .code yX0_keeps cX0_keeps 2 (some .boolean), .fieldLink RX0 25 "SelfOpener$Machine" "putOut" "I"] ++ wsX30 ++ wsX00 ++ (vx_at0 RX3 50 "java/lang/IndexOutOfBoundsException" ["java/lang/RuntimeException", "java/lang/Exception"]).filter goodWord)
def wsX3_apart_r1 : List Cond := [Cond.classLink RX3 89 "java/lang/IllegalStateException", Cond.initialized "java/lang/IllegalStateException", Cond.classLink RX3 100 "java/lang/UnsupportedOperationException", Cond.initialized "java/lang/UnsupportedOperationException", Cond.fieldLink RX3 20 "SelfOpener" "program" "LSelfOpener$Program;", Cond.fieldLink RX3 10 "SelfOpener" "packing" "LSelfOpener$Packing;", Cond.fieldLink RX3 64 "SelfOpener$Program" "origin" "I", Cond.fieldLink RX3 40 "SelfOpener$Program" "size" "I", Cond.fieldLink RX3 24 "SelfOpener" "machine" "LSelfOpener$Machine;", Cond.fieldLink RX3 135 "SelfOpener$Machine" "memory" "[I", Cond.methodLink RX3 85 yX2_fits, Cond.instanceMethod yX2_fits, Cond.selects RX2 yX2_fits yX2_fits, Cond.initialized RX2, Cond.code yX2_fits cX2_fits 1 (some .boolean), Cond.fieldLink RX2 22 "SelfOpener$Program" "origin" "I", Cond.fieldLink RX2 18 "SelfOpener$Program" "size" "I", Cond.methodLink RX3 70 yX1_refresh, Cond.instanceMethod yX1_refresh, Cond.selects RX1 yX1_refresh yX1_refresh, Cond.initialized RX1, Cond.code yX1_refresh cX1_refresh 3 none, Cond.fieldLink RX1 34 "SelfOpener$Packing" "edition" "I", Cond.fieldLink RX1 12 "SelfOpener$Packing" "program" "LSelfOpener$Program;"]
def wsX3_apart_r2 : List Cond := [Cond.fieldLink RX1 56 "SelfOpener$Program" "edition" "I", Cond.fieldLink RX1 41 "SelfOpener$Program" "size" "I", Cond.fieldLink RX1 31 "SelfOpener$Packing" "alike" "[I", Cond.fieldLink RX1 22 "SelfOpener$Packing" "cost" "[I", Cond.fieldLink RX1 64 "SelfOpener$Packing" "length" "I", Cond.methodLink RX1 57 yX1_findCopy, Cond.instanceMethod yX1_findCopy, Cond.selects RX1 yX1_findCopy yX1_findCopy, Cond.code yX1_findCopy cX1_findCopy 5 none, Cond.fieldLink RX1 70 "SelfOpener$Program" "bytes" "[I", Cond.fieldLink RX1 25 "SelfOpener$Packing" "makes" "[I", Cond.fieldLink RX1 28 "SelfOpener$Packing" "distance" "[I", Cond.methodLink RX1 73 Lib.Math.min.name, Cond.static Lib.Math.min.name, Cond.initialized "java/lang/Math", Cond.code Lib.Math.min.name Lib.Math.min.code 2 (some .int), Cond.methodLink RX1 61 yX1_chooseToken, Cond.instanceMethod yX1_chooseToken, Cond.selects RX1 yX1_chooseToken yX1_chooseToken, Cond.code yX1_chooseToken cX1_chooseToken 6 none, Cond.methodLink RX1 67 yX1_writeStream, Cond.instanceMethod yX1_writeStream, Cond.selects RX1 yX1_writeStream yX1_writeStream, Cond.code yX1_writeStream cX1_writeStream 6 none]
def wsX3_apart_r3 : List Cond := [Cond.methodLink RX1 79 Lib.Math.max.name, Cond.static Lib.Math.max.name, Cond.code Lib.Math.max.name Lib.Math.max.code 2 (some .int), Cond.fieldLink RX1 44 "SelfOpener$Packing" "gap" "I", Cond.fieldLink RX1 18 "SelfOpener$Packing" "stream" "[I", Cond.methodLink RX1 82 arraycopyName, Cond.native arraycopyName, Cond.static arraycopyName, Cond.initialized "java/lang/System", Cond.methodLink RX3 99 yX1_fits, Cond.instanceMethod yX1_fits, Cond.selects RX1 yX1_fits yX1_fits, Cond.code yX1_fits cX1_fits 1 (some .boolean), Cond.methodLink RX1 53 yX1_layoutEnd, Cond.instanceMethod yX1_layoutEnd, Cond.selects RX1 yX1_layoutEnd yX1_layoutEnd, Cond.code yX1_layoutEnd cX1_layoutEnd 1 (some .int), Cond.methodLink RX1 47 yX1_stubAddress, Cond.instanceMethod yX1_stubAddress, Cond.selects RX1 yX1_stubAddress yX1_stubAddress, Cond.code yX1_stubAddress cX1_stubAddress 1 (some .int), Cond.fieldLink RX1 38 "SelfOpener$Program" "origin" "I", Cond.methodLink RX3 111 yX1_layoutEnd, Cond.methodLink RX3 144 yX2_loadedAt]
def wsX3_apart_r4 : List Cond := [Cond.instanceMethod yX2_loadedAt, Cond.selects RX2 yX2_loadedAt yX2_loadedAt, Cond.code yX2_loadedAt cX2_loadedAt 3 (some .int), Cond.fieldLink RX2 9 "SelfOpener$Program" "bytes" "[I"]
def wsX3_apart : List Cond := .code yX3_apart cX3_apart 6 (some .int) :: ((wsX3_apart_r1 ++ (wsX3_apart_r2 ++ (wsX3_apart_r3 ++ wsX3_apart_r4))) ++ wsX30 ++ wsX20 ++ wsX00 ++ wsX10 ++ (vx_at0 RX3 91 "java/lang/IllegalStateException" ["java/lang/RuntimeException", "java/lang/Exception"]).filter goodWord ++ (vx_at0 RX3 102 "java/lang/UnsupportedOperationException" ["java/lang/RuntimeException", "java/lang/Exception"]).filter goodWord)
def wsX4_init : List Cond := .code yX4_init cX4_init 1 none :: ([.methodLink RX4 1 objectInit, .instanceMethod objectInit, .code objectInit ⟨#[0xb1]⟩ 1 none, .arrayClass .int, .fieldLink RX4 7 "SelfOpenerModel" "program" "[I", .fieldLink RX4 13 "SelfOpenerModel" "stream" "[I", .fieldLink RX4 16 "SelfOpenerModel" "least" "[I", .fieldLink RX4 19 "SelfOpenerModel" "token" "[I", .fieldLink RX4 22 "SelfOpenerModel" "distance" "[I", .fieldLink RX4 25 "SelfOpenerModel" "right" "[I", .fieldLink RX4 28 "SelfOpenerModel" "open" "[I", .fieldLink RX4 31 "SelfOpenerModel" "memory" "[I", .fieldLink RX4 34 "SelfOpenerModel" "registers" "[I", .fieldLink RX4 37 "SelfOpenerModel" "state" "I", .fieldLink RX4 41 "SelfOpenerModel" "out" "[I"] ++ wsX40)
def wsX4_thrown : List Cond := .code yX4_thrown cX4_thrown 1 (some .int) :: ([.fieldLink RX4 44 "SelfOpenerModel" "thrown" "I"] ++ wsX40)
def wsX4_fail : List Cond := .code yX4_fail cX4_fail 2 (some .int) :: ([.fieldLink RX4 44 "SelfOpenerModel" "thrown" "I"] ++ wsX40)
def wsX4_put : List Cond := .code yX4_put cX4_put 5 (some .boolean) :: ([.fieldLink RX4 44 "SelfOpenerModel" "thrown" "I", .fieldLink RX4 47 "SelfOpenerModel" "size" "I", .fieldLink RX4 7 "SelfOpenerModel" "program" "[I", .constantLong RX4 50 (255), .fieldLink RX4 52 "SelfOpenerModel" "known" "Z"] ++ wsX40)
def wsX4_again : List Cond := .code yX4_again cX4_again 4 (some .boolean) :: ([.fieldLink RX4 44 "SelfOpenerModel" "thrown" "I", .fieldLink RX4 47 "SelfOpenerModel" "size" "I", .fieldLink RX4 7 "SelfOpenerModel" "program" "[I", .fieldLink RX4 52 "SelfOpenerModel" "known" "Z"] ++ wsX40)
def wsX4_isByte : List Cond := .code yX4_isByte cX4_isByte 1 (some .boolean) :: ([])
def wsX4_change : List Cond := .code yX4_change cX4_change 3 none :: ([.fieldLink RX4 47 "SelfOpenerModel" "size" "I", .fieldLink RX4 44 "SelfOpenerModel" "thrown" "I", .fieldLink RX4 7 "SelfOpenerModel" "program" "[I", .fieldLink RX4 52 "SelfOpenerModel" "known" "Z", .methodLink RX4 56 yX4_isByte, .static yX4_isByte, .initialized RX4, .code yX4_isByte cX4_isByte 1 (some .boolean)] ++ wsX40)
def wsX4_cut : List Cond := .code yX4_cut cX4_cut 2 none :: ([.fieldLink RX4 47 "SelfOpenerModel" "size" "I", .fieldLink RX4 44 "SelfOpenerModel" "thrown" "I", .fieldLink RX4 52 "SelfOpenerModel" "known" "Z"] ++ wsX40)
def wsX4_place : List Cond := .code yX4_place cX4_place 3 none :: ([.fieldLink RX4 44 "SelfOpenerModel" "thrown" "I", .fieldLink RX4 60 "SelfOpenerModel" "origin" "I", .fieldLink RX4 63 "SelfOpenerModel" "entry" "I", .methodLink RX4 56 yX4_isByte, .static yX4_isByte, .initialized RX4, .code yX4_isByte cX4_isByte 1 (some .boolean)] ++ wsX40)
def wsX4_size : List Cond := .code yX4_size cX4_size 1 (some .int) :: ([.fieldLink RX4 44 "SelfOpenerModel" "thrown" "I", .fieldLink RX4 47 "SelfOpenerModel" "size" "I"] ++ wsX40)
def wsX4_choose : List Cond := .code yX4_choose cX4_choose 6 none :: ([.fieldLink RX4 47 "SelfOpenerModel" "size" "I", .fieldLink RX4 25 "SelfOpenerModel" "right" "[I", .fieldLink RX4 7 "SelfOpenerModel" "program" "[I", .constant RX4 66 (100000), .fieldLink RX4 16 "SelfOpenerModel" "least" "[I", .fieldLink RX4 19 "SelfOpenerModel" "token" "[I", .fieldLink RX4 22 "SelfOpenerModel" "distance" "[I"] ++ wsX40)
def wsX4_pack : List Cond := .code yX4_pack cX4_pack 5 none :: ([.fieldLink RX4 52 "SelfOpenerModel" "known" "Z", .fieldLink RX4 16 "SelfOpenerModel" "least" "[I", .fieldLink RX4 47 "SelfOpenerModel" "size" "I", .fieldLink RX4 25 "SelfOpenerModel" "right" "[I", .fieldLink RX4 71 "SelfOpenerModel" "gap" "I", .fieldLink RX4 74 "SelfOpenerModel" "length" "I", .fieldLink RX4 19 "SelfOpenerModel" "token" "[I", .fieldLink RX4 13 "SelfOpenerModel" "stream" "[I", .fieldLink RX4 22 "SelfOpenerModel" "distance" "[I", .fieldLink RX4 7 "SelfOpenerModel" "program" "[I", .methodLink RX4 67 yX4_choose, .instanceMethod yX4_choose, .selects RX4 yX4_choose yX4_choose, .initialized RX4, .code yX4_choose cX4_choose 6 none, .constant RX4 66 (100000)] ++ wsX40)
def wsX4_packed : List Cond := .code yX4_packed cX4_packed 1 (some .int) :: ([.fieldLink RX4 44 "SelfOpenerModel" "thrown" "I", .fieldLink RX4 74 "SelfOpenerModel" "length" "I", .methodLink RX4 77 yX4_pack, .instanceMethod yX4_pack, .selects RX4 yX4_pack yX4_pack, .initialized RX4, .code yX4_pack cX4_pack 5 none, .fieldLink RX4 52 "SelfOpenerModel" "known" "Z", .fieldLink RX4 16 "SelfOpenerModel" "least" "[I", .fieldLink RX4 47 "SelfOpenerModel" "size" "I", .fieldLink RX4 25 "SelfOpenerModel" "right" "[I", .fieldLink RX4 71 "SelfOpenerModel" "gap" "I", .fieldLink RX4 19 "SelfOpenerModel" "token" "[I", .fieldLink RX4 13 "SelfOpenerModel" "stream" "[I", .fieldLink RX4 22 "SelfOpenerModel" "distance" "[I", .fieldLink RX4 7 "SelfOpenerModel" "program" "[I", .methodLink RX4 67 yX4_choose, .instanceMethod yX4_choose, .selects RX4 yX4_choose yX4_choose, .code yX4_choose cX4_choose 6 none, .constant RX4 66 (100000)] ++ wsX40)
def wsX4_stream : List Cond := .code yX4_stream cX4_stream 2 (some .int) :: ([.fieldLink RX4 74 "SelfOpenerModel" "length" "I", .fieldLink RX4 44 "SelfOpenerModel" "thrown" "I", .fieldLink RX4 13 "SelfOpenerModel" "stream" "[I", .methodLink RX4 77 yX4_pack, .instanceMethod yX4_pack, .selects RX4 yX4_pack yX4_pack, .initialized RX4, .code yX4_pack cX4_pack 5 none, .fieldLink RX4 52 "SelfOpenerModel" "known" "Z", .fieldLink RX4 16 "SelfOpenerModel" "least" "[I", .fieldLink RX4 47 "SelfOpenerModel" "size" "I", .fieldLink RX4 25 "SelfOpenerModel" "right" "[I", .fieldLink RX4 71 "SelfOpenerModel" "gap" "I", .fieldLink RX4 19 "SelfOpenerModel" "token" "[I", .fieldLink RX4 22 "SelfOpenerModel" "distance" "[I", .fieldLink RX4 7 "SelfOpenerModel" "program" "[I", .methodLink RX4 67 yX4_choose, .instanceMethod yX4_choose, .selects RX4 yX4_choose yX4_choose, .code yX4_choose cX4_choose 6 none, .constant RX4 66 (100000)] ++ wsX40)
def wsX4_gap : List Cond := .code yX4_gap cX4_gap 1 (some .int) :: ([.fieldLink RX4 44 "SelfOpenerModel" "thrown" "I", .fieldLink RX4 71 "SelfOpenerModel" "gap" "I", .methodLink RX4 77 yX4_pack, .instanceMethod yX4_pack, .selects RX4 yX4_pack yX4_pack, .initialized RX4, .code yX4_pack cX4_pack 5 none, .fieldLink RX4 52 "SelfOpenerModel" "known" "Z", .fieldLink RX4 16 "SelfOpenerModel" "least" "[I", .fieldLink RX4 47 "SelfOpenerModel" "size" "I", .fieldLink RX4 25 "SelfOpenerModel" "right" "[I", .fieldLink RX4 74 "SelfOpenerModel" "length" "I", .fieldLink RX4 19 "SelfOpenerModel" "token" "[I", .fieldLink RX4 13 "SelfOpenerModel" "stream" "[I", .fieldLink RX4 22 "SelfOpenerModel" "distance" "[I", .fieldLink RX4 7 "SelfOpenerModel" "program" "[I", .methodLink RX4 67 yX4_choose, .instanceMethod yX4_choose, .selects RX4 yX4_choose yX4_choose, .code yX4_choose cX4_choose 6 none, .constant RX4 66 (100000)] ++ wsX40)
def wsX4_wrong : List Cond := .code yX4_wrong cX4_wrong 5 (some .int) :: ([.fieldLink RX4 7 "SelfOpenerModel" "program" "[I", .fieldLink RX4 47 "SelfOpenerModel" "size" "I"] ++ wsX40)
def wsX4_unpack : List Cond := .code yX4_unpack cX4_unpack 7 (some .int) :: ([.fieldLink RX4 44 "SelfOpenerModel" "thrown" "I", .fieldLink RX4 47 "SelfOpenerModel" "size" "I", .fieldLink RX4 7 "SelfOpenerModel" "program" "[I", .fieldLink RX4 28 "SelfOpenerModel" "open" "[I", .fieldLink RX4 52 "SelfOpenerModel" "known" "Z", .methodLink RX4 80 yX4_wrong, .instanceMethod yX4_wrong, .selects RX4 yX4_wrong yX4_wrong, .initialized RX4, .code yX4_wrong cX4_wrong 5 (some .int), .methodLink RX4 84 yX4_fail, .instanceMethod yX4_fail, .selects RX4 yX4_fail yX4_fail, .code yX4_fail cX4_fail 2 (some .int)] ++ wsX40)
def wsX4_clear : List Cond := .code yX4_clear cX4_clear 3 none :: ([.fieldLink RX4 31 "SelfOpenerModel" "memory" "[I", .fieldLink RX4 34 "SelfOpenerModel" "registers" "[I", .fieldLink RX4 88 "SelfOpenerModel" "place" "I", .fieldLink RX4 37 "SelfOpenerModel" "state" "I", .fieldLink RX4 91 "SelfOpenerModel" "steps" "I", .fieldLink RX4 94 "SelfOpenerModel" "outs" "I"] ++ wsX40)
def wsX4_load : List Cond := .code yX4_load cX4_load 2 none :: ([.fieldLink RX4 60 "SelfOpenerModel" "origin" "I", .fieldLink RX4 47 "SelfOpenerModel" "size" "I", .fieldLink RX4 44 "SelfOpenerModel" "thrown" "I", .fieldLink RX4 63 "SelfOpenerModel" "entry" "I", .fieldLink RX4 31 "SelfOpenerModel" "memory" "[I", .fieldLink RX4 7 "SelfOpenerModel" "program" "[I", .methodLink RX4 97 yX4_clear, .instanceMethod yX4_clear, .selects RX4 yX4_clear yX4_clear, .initialized RX4, .code yX4_clear cX4_clear 3 none, .fieldLink RX4 34 "SelfOpenerModel" "registers" "[I", .fieldLink RX4 88 "SelfOpenerModel" "place" "I", .fieldLink RX4 37 "SelfOpenerModel" "state" "I", .fieldLink RX4 91 "SelfOpenerModel" "steps" "I", .fieldLink RX4 94 "SelfOpenerModel" "outs" "I"] ++ wsX40)
def wsX4_eighth : List Cond := .code yX4_eighth cX4_eighth 3 (some .int) :: ([.constantLong RX4 50 (255)])
def wsX4_first : List Cond := .code yX4_first cX4_first 3 (some .int) :: ([.constantLong RX4 100 (7229583154687971857), .constantLong RX4 102 (4707461730014544449), .constantLong RX4 104 (-7835346056596130266), .constantLong RX4 106 (140832314364288), .methodLink RX4 108 yX4_eighth, .static yX4_eighth, .initialized RX4, .code yX4_eighth cX4_eighth 3 (some .int), .constantLong RX4 50 (255)])
def wsX4_second : List Cond := .code yX4_second cX4_second 7 (some .int) :: ([.constantLong RX4 112 (144425465120096256), .constantLong RX4 114 (72482057149677825), .constantLong RX4 116 (360007599053472770), .constantLong RX4 118 (36), .constant RX4 120 (25172016), .fieldLink RX4 74 "SelfOpenerModel" "length" "I", .fieldLink RX4 60 "SelfOpenerModel" "origin" "I", .fieldLink RX4 63 "SelfOpenerModel" "entry" "I", .methodLink RX4 108 yX4_eighth, .static yX4_eighth, .initialized RX4, .code yX4_eighth cX4_eighth 3 (some .int), .constantLong RX4 50 (255)] ++ wsX40)
def wsX4_isPackable : List Cond := .code yX4_isPackable cX4_isPackable 1 (some .boolean) :: ([.fieldLink RX4 60 "SelfOpenerModel" "origin" "I", .fieldLink RX4 47 "SelfOpenerModel" "size" "I", .fieldLink RX4 71 "SelfOpenerModel" "gap" "I", .methodLink RX4 77 yX4_pack, .instanceMethod yX4_pack, .selects RX4 yX4_pack yX4_pack, .initialized RX4, .code yX4_pack cX4_pack 5 none, .fieldLink RX4 52 "SelfOpenerModel" "known" "Z", .fieldLink RX4 16 "SelfOpenerModel" "least" "[I", .fieldLink RX4 25 "SelfOpenerModel" "right" "[I", .fieldLink RX4 74 "SelfOpenerModel" "length" "I", .fieldLink RX4 19 "SelfOpenerModel" "token" "[I", .fieldLink RX4 13 "SelfOpenerModel" "stream" "[I", .fieldLink RX4 22 "SelfOpenerModel" "distance" "[I", .fieldLink RX4 7 "SelfOpenerModel" "program" "[I", .methodLink RX4 67 yX4_choose, .instanceMethod yX4_choose, .selects RX4 yX4_choose yX4_choose, .code yX4_choose cX4_choose 6 none, .constant RX4 66 (100000)] ++ wsX40)
def wsX4_loadPacked_r1 : List Cond := [Cond.fieldLink RX4 44 "SelfOpenerModel" "thrown" "I", Cond.fieldLink RX4 60 "SelfOpenerModel" "origin" "I", Cond.fieldLink RX4 47 "SelfOpenerModel" "size" "I", Cond.fieldLink RX4 71 "SelfOpenerModel" "gap" "I", Cond.fieldLink RX4 74 "SelfOpenerModel" "length" "I", Cond.fieldLink RX4 31 "SelfOpenerModel" "memory" "[I", Cond.fieldLink RX4 13 "SelfOpenerModel" "stream" "[I", Cond.methodLink RX4 121 yX4_isPackable, Cond.instanceMethod yX4_isPackable, Cond.selects RX4 yX4_isPackable yX4_isPackable, Cond.initialized RX4, Cond.code yX4_isPackable cX4_isPackable 1 (some .boolean), Cond.methodLink RX4 77 yX4_pack, Cond.instanceMethod yX4_pack, Cond.selects RX4 yX4_pack yX4_pack, Cond.code yX4_pack cX4_pack 5 none, Cond.fieldLink RX4 52 "SelfOpenerModel" "known" "Z", Cond.fieldLink RX4 16 "SelfOpenerModel" "least" "[I", Cond.fieldLink RX4 25 "SelfOpenerModel" "right" "[I", Cond.fieldLink RX4 19 "SelfOpenerModel" "token" "[I", Cond.fieldLink RX4 22 "SelfOpenerModel" "distance" "[I", Cond.fieldLink RX4 7 "SelfOpenerModel" "program" "[I", Cond.methodLink RX4 67 yX4_choose, Cond.instanceMethod yX4_choose]
def wsX4_loadPacked_r2 : List Cond := [Cond.selects RX4 yX4_choose yX4_choose, Cond.code yX4_choose cX4_choose 6 none, Cond.constant RX4 66 (100000), Cond.methodLink RX4 97 yX4_clear, Cond.instanceMethod yX4_clear, Cond.selects RX4 yX4_clear yX4_clear, Cond.code yX4_clear cX4_clear 3 none, Cond.fieldLink RX4 34 "SelfOpenerModel" "registers" "[I", Cond.fieldLink RX4 88 "SelfOpenerModel" "place" "I", Cond.fieldLink RX4 37 "SelfOpenerModel" "state" "I", Cond.fieldLink RX4 91 "SelfOpenerModel" "steps" "I", Cond.fieldLink RX4 94 "SelfOpenerModel" "outs" "I", Cond.methodLink RX4 125 yX4_first, Cond.static yX4_first, Cond.code yX4_first cX4_first 3 (some .int), Cond.constantLong RX4 100 (7229583154687971857), Cond.constantLong RX4 102 (4707461730014544449), Cond.constantLong RX4 104 (-7835346056596130266), Cond.constantLong RX4 106 (140832314364288), Cond.methodLink RX4 108 yX4_eighth, Cond.static yX4_eighth, Cond.code yX4_eighth cX4_eighth 3 (some .int), Cond.constantLong RX4 50 (255), Cond.methodLink RX4 128 yX4_second]
def wsX4_loadPacked_r3 : List Cond := [Cond.instanceMethod yX4_second, Cond.selects RX4 yX4_second yX4_second, Cond.code yX4_second cX4_second 7 (some .int), Cond.constantLong RX4 112 (144425465120096256), Cond.constantLong RX4 114 (72482057149677825), Cond.constantLong RX4 116 (360007599053472770), Cond.constantLong RX4 118 (36), Cond.constant RX4 120 (25172016), Cond.fieldLink RX4 63 "SelfOpenerModel" "entry" "I"]
def wsX4_loadPacked : List Cond := .code yX4_loadPacked cX4_loadPacked 3 (some .int) :: ((wsX4_loadPacked_r1 ++ (wsX4_loadPacked_r2 ++ wsX4_loadPacked_r3)) ++ wsX40)
def wsX4_putOut : List Cond := .code yX4_putOut cX4_putOut 2 none :: ([.fieldLink RX4 41 "SelfOpenerModel" "out" "[I", .fieldLink RX4 94 "SelfOpenerModel" "outs" "I"] ++ wsX40)
def wsX4_step : List Cond := .code yX4_step cX4_step 6 none :: ([.fieldLink RX4 31 "SelfOpenerModel" "memory" "[I", .fieldLink RX4 88 "SelfOpenerModel" "place" "I", .fieldLink RX4 34 "SelfOpenerModel" "registers" "[I", .fieldLink RX4 91 "SelfOpenerModel" "steps" "I", .fieldLink RX4 37 "SelfOpenerModel" "state" "I", .methodLink RX4 131 yX4_putOut, .instanceMethod yX4_putOut, .selects RX4 yX4_putOut yX4_putOut, .initialized RX4, .code yX4_putOut cX4_putOut 2 none, .fieldLink RX4 41 "SelfOpenerModel" "out" "[I", .fieldLink RX4 94 "SelfOpenerModel" "outs" "I"] ++ wsX40)
def wsX4_run : List Cond := .code yX4_run cX4_run 4 (some .int) :: ([.fieldLink RX4 44 "SelfOpenerModel" "thrown" "I", .fieldLink RX4 37 "SelfOpenerModel" "state" "I", .fieldLink RX4 88 "SelfOpenerModel" "place" "I", .methodLink RX4 134 yX4_step, .instanceMethod yX4_step, .selects RX4 yX4_step yX4_step, .initialized RX4, .code yX4_step cX4_step 6 none, .fieldLink RX4 31 "SelfOpenerModel" "memory" "[I", .fieldLink RX4 34 "SelfOpenerModel" "registers" "[I", .fieldLink RX4 91 "SelfOpenerModel" "steps" "I", .methodLink RX4 131 yX4_putOut, .instanceMethod yX4_putOut, .selects RX4 yX4_putOut yX4_putOut, .code yX4_putOut cX4_putOut 2 none, .fieldLink RX4 41 "SelfOpenerModel" "out" "[I", .fieldLink RX4 94 "SelfOpenerModel" "outs" "I"] ++ wsX40)
def wsX4_look : List Cond := .code yX4_look cX4_look 2 (some .int) :: ([.fieldLink RX4 44 "SelfOpenerModel" "thrown" "I", .fieldLink RX4 34 "SelfOpenerModel" "registers" "[I", .fieldLink RX4 88 "SelfOpenerModel" "place" "I", .fieldLink RX4 37 "SelfOpenerModel" "state" "I", .fieldLink RX4 91 "SelfOpenerModel" "steps" "I", .fieldLink RX4 94 "SelfOpenerModel" "outs" "I"] ++ wsX40)
def wsX4_memory : List Cond := .code yX4_memory cX4_memory 2 (some .int) :: ([.fieldLink RX4 44 "SelfOpenerModel" "thrown" "I", .fieldLink RX4 31 "SelfOpenerModel" "memory" "[I", .methodLink RX4 56 yX4_isByte, .static yX4_isByte, .initialized RX4, .code yX4_isByte cX4_isByte 1 (some .boolean)] ++ wsX40)
def wsX4_out : List Cond := .code yX4_out cX4_out 2 (some .int) :: ([.fieldLink RX4 94 "SelfOpenerModel" "outs" "I", .fieldLink RX4 44 "SelfOpenerModel" "thrown" "I", .fieldLink RX4 41 "SelfOpenerModel" "out" "[I"] ++ wsX40)
def wsX4_apart_r1 : List Cond := [Cond.fieldLink RX4 60 "SelfOpenerModel" "origin" "I", Cond.fieldLink RX4 47 "SelfOpenerModel" "size" "I", Cond.fieldLink RX4 44 "SelfOpenerModel" "thrown" "I", Cond.fieldLink RX4 7 "SelfOpenerModel" "program" "[I", Cond.fieldLink RX4 71 "SelfOpenerModel" "gap" "I", Cond.fieldLink RX4 31 "SelfOpenerModel" "memory" "[I", Cond.methodLink RX4 121 yX4_isPackable, Cond.instanceMethod yX4_isPackable, Cond.selects RX4 yX4_isPackable yX4_isPackable, Cond.initialized RX4, Cond.code yX4_isPackable cX4_isPackable 1 (some .boolean), Cond.methodLink RX4 77 yX4_pack, Cond.instanceMethod yX4_pack, Cond.selects RX4 yX4_pack yX4_pack, Cond.code yX4_pack cX4_pack 5 none, Cond.fieldLink RX4 52 "SelfOpenerModel" "known" "Z", Cond.fieldLink RX4 16 "SelfOpenerModel" "least" "[I", Cond.fieldLink RX4 25 "SelfOpenerModel" "right" "[I", Cond.fieldLink RX4 74 "SelfOpenerModel" "length" "I", Cond.fieldLink RX4 19 "SelfOpenerModel" "token" "[I", Cond.fieldLink RX4 13 "SelfOpenerModel" "stream" "[I", Cond.fieldLink RX4 22 "SelfOpenerModel" "distance" "[I", Cond.methodLink RX4 67 yX4_choose, Cond.instanceMethod yX4_choose]
def wsX4_apart_r2 : List Cond := [Cond.selects RX4 yX4_choose yX4_choose, Cond.code yX4_choose cX4_choose 6 none, Cond.constant RX4 66 (100000)]
def wsX4_apart : List Cond := .code yX4_apart cX4_apart 6 (some .int) :: ((wsX4_apart_r1 ++ wsX4_apart_r2) ++ wsX40)
def wsJ9_max_7cf53 : List Cond := .code yJ9_max_7cf53 cJ9_max_7cf53 2 (some .int) :: ([])
def wsJ9_min_7cf53 : List Cond := .code yJ9_min_7cf53 cJ9_min_7cf53 2 (some .int) :: ([])
def wsL_change : List Cond := .codeWith yL_change cL_change 4 (some .int) [(0, 6, 9, 13), (0, 6, 12, 15)] :: ([.classLink RL 13 "java/lang/IndexOutOfBoundsException", .classLink RL 15 "java/lang/IllegalArgumentException", .methodLink RL 7 yX3_change, .instanceMethod yX3_change, .selects RX3 yX3_change yX3_change, .initialized RX3, .code yX3_change cX3_change 3 none, .classLink RX3 48 "java/lang/IndexOutOfBoundsException", .initialized "java/lang/IndexOutOfBoundsException", .classLink RX3 54 "java/lang/IllegalArgumentException", .initialized "java/lang/IllegalArgumentException", .fieldLink RX3 20 "SelfOpener" "program" "LSelfOpener$Program;", .fieldLink RX3 40 "SelfOpener$Program" "size" "I", .methodLink RX3 51 yX3_isByte, .static yX3_isByte, .code yX3_isByte cX3_isByte 1 (some .boolean), .methodLink RX3 57 yX2_set, .instanceMethod yX2_set, .selects RX2 yX2_set yX2_set, .initialized RX2, .code yX2_set cX2_set 3 none, .fieldLink RX2 9 "SelfOpener$Program" "bytes" "[I", .fieldLink RX2 25 "SelfOpener$Program" "edition" "I"] ++ wsX30 ++ wsX20 ++ (vx_at0 RX3 50 "java/lang/IndexOutOfBoundsException" ["java/lang/RuntimeException", "java/lang/Exception"]).filter goodWord ++ (vx_at0 RX3 56 "java/lang/IllegalArgumentException" ["java/lang/RuntimeException", "java/lang/Exception"]).filter goodWord)
def wsL_cut : List Cond := .codeWith yL_cut cL_cut 3 (some .int) [(0, 5, 8, 15)] :: ([.classLink RL 15 "java/lang/IllegalArgumentException", .methodLink RL 17 yX3_cut, .instanceMethod yX3_cut, .selects RX3 yX3_cut yX3_cut, .initialized RX3, .code yX3_cut cX3_cut 2 none, .classLink RX3 54 "java/lang/IllegalArgumentException", .initialized "java/lang/IllegalArgumentException", .fieldLink RX3 20 "SelfOpener" "program" "LSelfOpener$Program;", .fieldLink RX3 40 "SelfOpener$Program" "size" "I", .methodLink RX3 61 yX2_shorten, .instanceMethod yX2_shorten, .selects RX2 yX2_shorten yX2_shorten, .initialized RX2, .code yX2_shorten cX2_shorten 2 none, .fieldLink RX2 18 "SelfOpener$Program" "size" "I", .fieldLink RX2 25 "SelfOpener$Program" "edition" "I"] ++ wsX30 ++ wsX20 ++ (vx_at0 RX3 56 "java/lang/IllegalArgumentException" ["java/lang/RuntimeException", "java/lang/Exception"]).filter goodWord)
def wsL_place : List Cond := .codeWith yL_place cL_place 4 (some .int) [(0, 6, 9, 15)] :: ([.classLink RL 15 "java/lang/IllegalArgumentException", .methodLink RL 21 yX3_place, .instanceMethod yX3_place, .selects RX3 yX3_place yX3_place, .initialized RX3, .code yX3_place cX3_place 3 none, .classLink RX3 54 "java/lang/IllegalArgumentException", .initialized "java/lang/IllegalArgumentException", .fieldLink RX3 20 "SelfOpener" "program" "LSelfOpener$Program;", .fieldLink RX3 64 "SelfOpener$Program" "origin" "I", .fieldLink RX3 67 "SelfOpener$Program" "entry" "I", .methodLink RX3 51 yX3_isByte, .static yX3_isByte, .code yX3_isByte cX3_isByte 1 (some .boolean)] ++ wsX30 ++ wsX20 ++ (vx_at0 RX3 56 "java/lang/IllegalArgumentException" ["java/lang/RuntimeException", "java/lang/Exception"]).filter goodWord)
def wsL_stream_r1 : List Cond := [Cond.classLink RL 13 "java/lang/IndexOutOfBoundsException", Cond.methodLink RL 24 yX3_stream, Cond.instanceMethod yX3_stream, Cond.selects RX3 yX3_stream yX3_stream, Cond.initialized RX3, Cond.code yX3_stream cX3_stream 2 (some .int), Cond.classLink RX3 48 "java/lang/IndexOutOfBoundsException", Cond.initialized "java/lang/IndexOutOfBoundsException", Cond.fieldLink RX3 10 "SelfOpener" "packing" "LSelfOpener$Packing;", Cond.fieldLink RX3 73 "SelfOpener$Packing" "length" "I", Cond.fieldLink RX3 76 "SelfOpener$Packing" "stream" "[I", Cond.methodLink RX3 70 yX1_refresh, Cond.instanceMethod yX1_refresh, Cond.selects RX1 yX1_refresh yX1_refresh, Cond.initialized RX1, Cond.code yX1_refresh cX1_refresh 3 none, Cond.fieldLink RX1 34 "SelfOpener$Packing" "edition" "I", Cond.fieldLink RX1 12 "SelfOpener$Packing" "program" "LSelfOpener$Program;", Cond.fieldLink RX1 56 "SelfOpener$Program" "edition" "I", Cond.fieldLink RX1 41 "SelfOpener$Program" "size" "I", Cond.fieldLink RX1 31 "SelfOpener$Packing" "alike" "[I", Cond.fieldLink RX1 22 "SelfOpener$Packing" "cost" "[I", Cond.fieldLink RX1 64 "SelfOpener$Packing" "length" "I", Cond.methodLink RX1 57 yX1_findCopy]
def wsL_stream_r2 : List Cond := [Cond.instanceMethod yX1_findCopy, Cond.selects RX1 yX1_findCopy yX1_findCopy, Cond.code yX1_findCopy cX1_findCopy 5 none, Cond.fieldLink RX1 70 "SelfOpener$Program" "bytes" "[I", Cond.fieldLink RX1 25 "SelfOpener$Packing" "makes" "[I", Cond.fieldLink RX1 28 "SelfOpener$Packing" "distance" "[I", Cond.methodLink RX1 73 Lib.Math.min.name, Cond.static Lib.Math.min.name, Cond.initialized "java/lang/Math", Cond.code Lib.Math.min.name Lib.Math.min.code 2 (some .int), Cond.methodLink RX1 61 yX1_chooseToken, Cond.instanceMethod yX1_chooseToken, Cond.selects RX1 yX1_chooseToken yX1_chooseToken, Cond.code yX1_chooseToken cX1_chooseToken 6 none, Cond.methodLink RX1 67 yX1_writeStream, Cond.instanceMethod yX1_writeStream, Cond.selects RX1 yX1_writeStream yX1_writeStream, Cond.code yX1_writeStream cX1_writeStream 6 none, Cond.methodLink RX1 79 Lib.Math.max.name, Cond.static Lib.Math.max.name, Cond.code Lib.Math.max.name Lib.Math.max.code 2 (some .int), Cond.fieldLink RX1 44 "SelfOpener$Packing" "gap" "I", Cond.fieldLink RX1 18 "SelfOpener$Packing" "stream" "[I", Cond.methodLink RX1 82 arraycopyName]
def wsL_stream_r3 : List Cond := [Cond.native arraycopyName, Cond.static arraycopyName, Cond.initialized "java/lang/System"]
def wsL_stream : List Cond := .codeWith yL_stream cL_stream 4 (some .int) [(0, 9, 12, 13)] :: ((wsL_stream_r1 ++ (wsL_stream_r2 ++ wsL_stream_r3)) ++ wsX30 ++ wsX10 ++ wsX20 ++ (vx_at0 RX3 50 "java/lang/IndexOutOfBoundsException" ["java/lang/RuntimeException", "java/lang/Exception"]).filter goodWord)
def wsL_unpack_r1 : List Cond := [Cond.classLink RL 32 "java/util/NoSuchElementException", Cond.classLink RL 34 "java/lang/IllegalStateException", Cond.classLink RL 15 "java/lang/IllegalArgumentException", Cond.classLink RL 36 "java/lang/UnsupportedOperationException", Cond.methodLink RL 28 yX3_unpack, Cond.instanceMethod yX3_unpack, Cond.selects RX3 yX3_unpack yX3_unpack, Cond.initialized RX3, Cond.code yX3_unpack cX3_unpack 1 (some .int), Cond.fieldLink RX3 20 "SelfOpener" "program" "LSelfOpener$Program;", Cond.fieldLink RX3 40 "SelfOpener$Program" "size" "I", Cond.methodLink RX3 82 yX2_openAsStream, Cond.instanceMethod yX2_openAsStream, Cond.selects RX2 yX2_openAsStream yX2_openAsStream, Cond.initialized RX2, Cond.code yX2_openAsStream cX2_openAsStream 4 none, Cond.classLink RX2 37 "java/util/NoSuchElementException", Cond.initialized "java/util/NoSuchElementException", Cond.classLink RX2 40 "java/lang/IllegalStateException", Cond.initialized "java/lang/IllegalStateException", Cond.fieldLink RX2 18 "SelfOpener$Program" "size" "I", Cond.fieldLink RX2 9 "SelfOpener$Program" "bytes" "[I", Cond.fieldLink RX2 15 "SelfOpener$Program" "opened" "[I", Cond.methodLink RX2 43 arraycopyName]
def wsL_unpack_r2 : List Cond := [Cond.native arraycopyName, Cond.static arraycopyName, Cond.initialized "java/lang/System", Cond.methodLink RX2 30 yX2_openRun, Cond.instanceMethod yX2_openRun, Cond.selects RX2 yX2_openRun yX2_openRun, Cond.code yX2_openRun cX2_openRun 4 (some .int), Cond.classLink RX2 53 "java/lang/UnsupportedOperationException", Cond.initialized "java/lang/UnsupportedOperationException", Cond.methodLink RX2 34 yX2_openCopy, Cond.instanceMethod yX2_openCopy, Cond.selects RX2 yX2_openCopy yX2_openCopy, Cond.code yX2_openCopy cX2_openCopy 6 (some .int), Cond.classLink RX2 56 "java/lang/IllegalArgumentException", Cond.initialized "java/lang/IllegalArgumentException", Cond.methodLink RX2 49 yX2_shorten, Cond.instanceMethod yX2_shorten, Cond.selects RX2 yX2_shorten yX2_shorten, Cond.code yX2_shorten cX2_shorten 2 none, Cond.fieldLink RX2 25 "SelfOpener$Program" "edition" "I"]
def wsL_unpack : List Cond := .codeWith yL_unpack cL_unpack 3 (some .int) [(0, 8, 11, 32), (0, 8, 14, 34), (0, 8, 17, 15), (0, 8, 20, 36)] :: ((wsL_unpack_r1 ++ wsL_unpack_r2) ++ wsX30 ++ wsX20 ++ (vx_at0 RX2 39 "java/util/NoSuchElementException" ["java/lang/RuntimeException", "java/lang/Exception"]).filter goodWord ++ (vx_at0 RX2 42 "java/lang/IllegalStateException" ["java/lang/RuntimeException", "java/lang/Exception"]).filter goodWord ++ (vx_at0 RX2 55 "java/lang/UnsupportedOperationException" ["java/lang/RuntimeException", "java/lang/Exception"]).filter goodWord ++ (vx_at0 RX2 58 "java/lang/IllegalArgumentException" ["java/lang/RuntimeException", "java/lang/Exception"]).filter goodWord)
def wsL_load_r1 : List Cond := [Cond.classLink RL 34 "java/lang/IllegalStateException", Cond.methodLink RL 38 yX3_load, Cond.instanceMethod yX3_load, Cond.selects RX3 yX3_load yX3_load, Cond.initialized RX3, Cond.code yX3_load cX3_load 1 none, Cond.classLink RX3 89 "java/lang/IllegalStateException", Cond.initialized "java/lang/IllegalStateException", Cond.fieldLink RX3 20 "SelfOpener" "program" "LSelfOpener$Program;", Cond.fieldLink RX3 24 "SelfOpener" "machine" "LSelfOpener$Machine;", Cond.fieldLink RX3 67 "SelfOpener$Program" "entry" "I", Cond.fieldLink RX3 64 "SelfOpener$Program" "origin" "I", Cond.fieldLink RX3 44 "SelfOpener$Program" "bytes" "[I", Cond.fieldLink RX3 40 "SelfOpener$Program" "size" "I", Cond.methodLink RX3 85 yX2_fits, Cond.instanceMethod yX2_fits, Cond.selects RX2 yX2_fits yX2_fits, Cond.initialized RX2, Cond.code yX2_fits cX2_fits 1 (some .boolean), Cond.fieldLink RX2 22 "SelfOpener$Program" "origin" "I", Cond.fieldLink RX2 18 "SelfOpener$Program" "size" "I", Cond.methodLink RX3 92 yX0_clear, Cond.instanceMethod yX0_clear, Cond.selects RX0 yX0_clear yX0_clear]
def wsL_load_r2 : List Cond := [Cond.initialized RX0, Cond.code yX0_clear cX0_clear 3 none, Cond.fieldLink RX0 9 "SelfOpener$Machine" "memory" "[I", Cond.fieldLink RX0 15 "SelfOpener$Machine" "registers" "[I", Cond.fieldLink RX0 28 "SelfOpener$Machine" "place" "I", Cond.fieldLink RX0 21 "SelfOpener$Machine" "state" "I", Cond.fieldLink RX0 31 "SelfOpener$Machine" "steps" "I", Cond.fieldLink RX0 25 "SelfOpener$Machine" "putOut" "I", Cond.methodLink RX3 95 yX0_write, Cond.instanceMethod yX0_write, Cond.selects RX0 yX0_write yX0_write, Cond.code yX0_write cX0_write 4 none, Cond.methodLink RX0 34 arraycopyName, Cond.native arraycopyName, Cond.static arraycopyName, Cond.initialized "java/lang/System"]
def wsL_load : List Cond := .codeWith yL_load cL_load 2 (some .int) [(0, 4, 7, 34)] :: ((wsL_load_r1 ++ wsL_load_r2) ++ wsX30 ++ wsX20 ++ wsX00 ++ (vx_at0 RX3 91 "java/lang/IllegalStateException" ["java/lang/RuntimeException", "java/lang/Exception"]).filter goodWord)
def wsL_loadPacked_r1 : List Cond := [Cond.classLink RL 36 "java/lang/UnsupportedOperationException", Cond.methodLink RL 41 yX3_loadPacked, Cond.instanceMethod yX3_loadPacked, Cond.selects RX3 yX3_loadPacked yX3_loadPacked, Cond.initialized RX3, Cond.code yX3_loadPacked cX3_loadPacked 3 (some .int), Cond.classLink RX3 100 "java/lang/UnsupportedOperationException", Cond.initialized "java/lang/UnsupportedOperationException", Cond.fieldLink RX3 10 "SelfOpener" "packing" "LSelfOpener$Packing;", Cond.fieldLink RX3 73 "SelfOpener$Packing" "length" "I", Cond.fieldLink RX3 24 "SelfOpener" "machine" "LSelfOpener$Machine;", Cond.fieldLink RX3 76 "SelfOpener$Packing" "stream" "[I", Cond.fieldLink RX3 20 "SelfOpener" "program" "LSelfOpener$Program;", Cond.fieldLink RX3 64 "SelfOpener$Program" "origin" "I", Cond.fieldLink RX3 67 "SelfOpener$Program" "entry" "I", Cond.methodLink RX3 70 yX1_refresh, Cond.instanceMethod yX1_refresh, Cond.selects RX1 yX1_refresh yX1_refresh, Cond.initialized RX1, Cond.code yX1_refresh cX1_refresh 3 none, Cond.fieldLink RX1 34 "SelfOpener$Packing" "edition" "I", Cond.fieldLink RX1 12 "SelfOpener$Packing" "program" "LSelfOpener$Program;", Cond.fieldLink RX1 56 "SelfOpener$Program" "edition" "I", Cond.fieldLink RX1 41 "SelfOpener$Program" "size" "I"]
def wsL_loadPacked_r2 : List Cond := [Cond.fieldLink RX1 31 "SelfOpener$Packing" "alike" "[I", Cond.fieldLink RX1 22 "SelfOpener$Packing" "cost" "[I", Cond.fieldLink RX1 64 "SelfOpener$Packing" "length" "I", Cond.methodLink RX1 57 yX1_findCopy, Cond.instanceMethod yX1_findCopy, Cond.selects RX1 yX1_findCopy yX1_findCopy, Cond.code yX1_findCopy cX1_findCopy 5 none, Cond.fieldLink RX1 70 "SelfOpener$Program" "bytes" "[I", Cond.fieldLink RX1 25 "SelfOpener$Packing" "makes" "[I", Cond.fieldLink RX1 28 "SelfOpener$Packing" "distance" "[I", Cond.methodLink RX1 73 Lib.Math.min.name, Cond.static Lib.Math.min.name, Cond.initialized "java/lang/Math", Cond.code Lib.Math.min.name Lib.Math.min.code 2 (some .int), Cond.methodLink RX1 61 yX1_chooseToken, Cond.instanceMethod yX1_chooseToken, Cond.selects RX1 yX1_chooseToken yX1_chooseToken, Cond.code yX1_chooseToken cX1_chooseToken 6 none, Cond.methodLink RX1 67 yX1_writeStream, Cond.instanceMethod yX1_writeStream, Cond.selects RX1 yX1_writeStream yX1_writeStream, Cond.code yX1_writeStream cX1_writeStream 6 none, Cond.methodLink RX1 79 Lib.Math.max.name, Cond.static Lib.Math.max.name]
def wsL_loadPacked_r3 : List Cond := [Cond.code Lib.Math.max.name Lib.Math.max.code 2 (some .int), Cond.fieldLink RX1 44 "SelfOpener$Packing" "gap" "I", Cond.fieldLink RX1 18 "SelfOpener$Packing" "stream" "[I", Cond.methodLink RX1 82 arraycopyName, Cond.native arraycopyName, Cond.static arraycopyName, Cond.initialized "java/lang/System", Cond.methodLink RX3 99 yX1_fits, Cond.instanceMethod yX1_fits, Cond.selects RX1 yX1_fits yX1_fits, Cond.code yX1_fits cX1_fits 1 (some .boolean), Cond.methodLink RX1 53 yX1_layoutEnd, Cond.instanceMethod yX1_layoutEnd, Cond.selects RX1 yX1_layoutEnd yX1_layoutEnd, Cond.code yX1_layoutEnd cX1_layoutEnd 1 (some .int), Cond.methodLink RX1 47 yX1_stubAddress, Cond.instanceMethod yX1_stubAddress, Cond.selects RX1 yX1_stubAddress yX1_stubAddress, Cond.code yX1_stubAddress cX1_stubAddress 1 (some .int), Cond.fieldLink RX1 38 "SelfOpener$Program" "origin" "I", Cond.methodLink RX3 103 yX1_stubAddress, Cond.methodLink RX3 92 yX0_clear, Cond.instanceMethod yX0_clear, Cond.selects RX0 yX0_clear yX0_clear]
def wsL_loadPacked_r4 : List Cond := [Cond.initialized RX0, Cond.code yX0_clear cX0_clear 3 none, Cond.fieldLink RX0 9 "SelfOpener$Machine" "memory" "[I", Cond.fieldLink RX0 15 "SelfOpener$Machine" "registers" "[I", Cond.fieldLink RX0 28 "SelfOpener$Machine" "place" "I", Cond.fieldLink RX0 21 "SelfOpener$Machine" "state" "I", Cond.fieldLink RX0 31 "SelfOpener$Machine" "steps" "I", Cond.fieldLink RX0 25 "SelfOpener$Machine" "putOut" "I", Cond.methodLink RX3 95 yX0_write, Cond.instanceMethod yX0_write, Cond.selects RX0 yX0_write yX0_write, Cond.code yX0_write cX0_write 4 none, Cond.methodLink RX0 34 arraycopyName, Cond.methodLink RX3 107 yX0_writeStub, Cond.instanceMethod yX0_writeStub, Cond.selects RX0 yX0_writeStub yX0_writeStub, Cond.code yX0_writeStub cX0_writeStub 7 none, Cond.fieldLink RX0 40 "SelfOpener$Machine" "STUB" "[I", Cond.methodLink RX3 111 yX1_layoutEnd]
def wsL_loadPacked : List Cond := .codeWith yL_loadPacked cL_loadPacked 3 (some .int) [(0, 8, 11, 36)] :: ((wsL_loadPacked_r1 ++ (wsL_loadPacked_r2 ++ (wsL_loadPacked_r3 ++ wsL_loadPacked_r4))) ++ wsX30 ++ wsX10 ++ wsX20 ++ wsX00 ++ (vx_at0 RX3 102 "java/lang/UnsupportedOperationException" ["java/lang/RuntimeException", "java/lang/Exception"]).filter goodWord)
def wsL_run_r1 : List Cond := [Cond.classLink RL 15 "java/lang/IllegalArgumentException", Cond.methodLink RL 44 yX3_run, Cond.instanceMethod yX3_run, Cond.selects RX3 yX3_run yX3_run, Cond.initialized RX3, Cond.code yX3_run cX3_run 4 (some .int), Cond.classLink RX3 54 "java/lang/IllegalArgumentException", Cond.initialized "java/lang/IllegalArgumentException", Cond.fieldLink RX3 24 "SelfOpener" "machine" "LSelfOpener$Machine;", Cond.fieldLink RX3 117 "SelfOpener$Machine" "place" "I", Cond.methodLink RX3 114 yX0_runs, Cond.instanceMethod yX0_runs, Cond.selects RX0 yX0_runs yX0_runs, Cond.initialized RX0, Cond.code yX0_runs cX0_runs 1 (some .boolean), Cond.fieldLink RX0 21 "SelfOpener$Machine" "state" "I", Cond.methodLink RX3 120 yX0_step, Cond.instanceMethod yX0_step, Cond.selects RX0 yX0_step yX0_step, Cond.code yX0_step cX0_step 3 none, Cond.fieldLink RX0 9 "SelfOpener$Machine" "memory" "[I", Cond.fieldLink RX0 28 "SelfOpener$Machine" "place" "I", Cond.fieldLink RX0 31 "SelfOpener$Machine" "steps" "I", Cond.methodLink RX0 43 yX0_act]
def wsL_run_r2 : List Cond := [Cond.instanceMethod yX0_act, Cond.selects RX0 yX0_act yX0_act, Cond.code yX0_act cX0_act 5 none, Cond.fieldLink RX0 15 "SelfOpener$Machine" "registers" "[I", Cond.fieldLink RX0 18 "SelfOpener$Machine" "kept" "[I", Cond.fieldLink RX0 25 "SelfOpener$Machine" "putOut" "I", Cond.methodLink RX0 47 yX0_jump, Cond.instanceMethod yX0_jump, Cond.selects RX0 yX0_jump yX0_jump, Cond.code yX0_jump cX0_jump 4 none, Cond.methodLink RX0 50 yX0_reckon, Cond.instanceMethod yX0_reckon, Cond.selects RX0 yX0_reckon yX0_reckon, Cond.code yX0_reckon cX0_reckon 5 (some .int)]
def wsL_run : List Cond := .codeWith yL_run cL_run 5 (some .int) [(0, 10, 13, 15)] :: ((wsL_run_r1 ++ wsL_run_r2) ++ wsX30 ++ wsX00 ++ (vx_at0 RX3 56 "java/lang/IllegalArgumentException" ["java/lang/RuntimeException", "java/lang/Exception"]).filter goodWord)
def wsL_look : List Cond := .codeWith yL_look cL_look 4 (some .int) [(0, 9, 12, 13)] :: ([.classLink RL 13 "java/lang/IndexOutOfBoundsException", .methodLink RL 48 yX3_look, .instanceMethod yX3_look, .selects RX3 yX3_look yX3_look, .initialized RX3, .code yX3_look cX3_look 2 (some .int), .classLink RX3 48 "java/lang/IndexOutOfBoundsException", .initialized "java/lang/IndexOutOfBoundsException", .fieldLink RX3 24 "SelfOpener" "machine" "LSelfOpener$Machine;", .fieldLink RX3 123 "SelfOpener$Machine" "registers" "[I", .fieldLink RX3 117 "SelfOpener$Machine" "place" "I", .fieldLink RX3 126 "SelfOpener$Machine" "state" "I", .fieldLink RX3 129 "SelfOpener$Machine" "steps" "I", .fieldLink RX3 132 "SelfOpener$Machine" "putOut" "I"] ++ wsX30 ++ wsX00 ++ (vx_at0 RX3 50 "java/lang/IndexOutOfBoundsException" ["java/lang/RuntimeException", "java/lang/Exception"]).filter goodWord)
def wsL_memory : List Cond := .codeWith yL_memory cL_memory 4 (some .int) [(0, 9, 12, 13)] :: ([.classLink RL 13 "java/lang/IndexOutOfBoundsException", .methodLink RL 51 yX3_memory, .instanceMethod yX3_memory, .selects RX3 yX3_memory yX3_memory, .initialized RX3, .code yX3_memory cX3_memory 2 (some .int), .classLink RX3 48 "java/lang/IndexOutOfBoundsException", .initialized "java/lang/IndexOutOfBoundsException", .fieldLink RX3 24 "SelfOpener" "machine" "LSelfOpener$Machine;", .fieldLink RX3 135 "SelfOpener$Machine" "memory" "[I", .methodLink RX3 51 yX3_isByte, .static yX3_isByte, .code yX3_isByte cX3_isByte 1 (some .boolean)] ++ wsX30 ++ wsX00 ++ (vx_at0 RX3 50 "java/lang/IndexOutOfBoundsException" ["java/lang/RuntimeException", "java/lang/Exception"]).filter goodWord)
def wsL_out : List Cond := .codeWith yL_out cL_out 4 (some .int) [(0, 9, 12, 13)] :: ([.classLink RL 13 "java/lang/IndexOutOfBoundsException", .methodLink RL 54 yX3_out, .instanceMethod yX3_out, .selects RX3 yX3_out yX3_out, .initialized RX3, .code yX3_out cX3_out 2 (some .int), .classLink RX3 48 "java/lang/IndexOutOfBoundsException", .initialized "java/lang/IndexOutOfBoundsException", .fieldLink RX3 24 "SelfOpener" "machine" "LSelfOpener$Machine;", .fieldLink RX3 141 "SelfOpener$Machine" "kept" "[I", .methodLink RX3 138 yX0_keeps, .instanceMethod yX0_keeps, .selects RX0 yX0_keeps yX0_keeps, .initialized RX0, .code yX0_keeps cX0_keeps 2 (some .boolean), .fieldLink RX0 25 "SelfOpener$Machine" "putOut" "I"] ++ wsX30 ++ wsX00 ++ (vx_at0 RX3 50 "java/lang/IndexOutOfBoundsException" ["java/lang/RuntimeException", "java/lang/Exception"]).filter goodWord)
def wsL_apart_r1 : List Cond := [Cond.classLink RL 34 "java/lang/IllegalStateException", Cond.classLink RL 36 "java/lang/UnsupportedOperationException", Cond.methodLink RL 57 yX3_apart, Cond.instanceMethod yX3_apart, Cond.selects RX3 yX3_apart yX3_apart, Cond.initialized RX3, Cond.code yX3_apart cX3_apart 6 (some .int), Cond.classLink RX3 89 "java/lang/IllegalStateException", Cond.initialized "java/lang/IllegalStateException", Cond.classLink RX3 100 "java/lang/UnsupportedOperationException", Cond.initialized "java/lang/UnsupportedOperationException", Cond.fieldLink RX3 20 "SelfOpener" "program" "LSelfOpener$Program;", Cond.fieldLink RX3 10 "SelfOpener" "packing" "LSelfOpener$Packing;", Cond.fieldLink RX3 64 "SelfOpener$Program" "origin" "I", Cond.fieldLink RX3 40 "SelfOpener$Program" "size" "I", Cond.fieldLink RX3 24 "SelfOpener" "machine" "LSelfOpener$Machine;", Cond.fieldLink RX3 135 "SelfOpener$Machine" "memory" "[I", Cond.methodLink RX3 85 yX2_fits, Cond.instanceMethod yX2_fits, Cond.selects RX2 yX2_fits yX2_fits, Cond.initialized RX2, Cond.code yX2_fits cX2_fits 1 (some .boolean), Cond.fieldLink RX2 22 "SelfOpener$Program" "origin" "I", Cond.fieldLink RX2 18 "SelfOpener$Program" "size" "I"]
def wsL_apart_r2 : List Cond := [Cond.methodLink RX3 70 yX1_refresh, Cond.instanceMethod yX1_refresh, Cond.selects RX1 yX1_refresh yX1_refresh, Cond.initialized RX1, Cond.code yX1_refresh cX1_refresh 3 none, Cond.fieldLink RX1 34 "SelfOpener$Packing" "edition" "I", Cond.fieldLink RX1 12 "SelfOpener$Packing" "program" "LSelfOpener$Program;", Cond.fieldLink RX1 56 "SelfOpener$Program" "edition" "I", Cond.fieldLink RX1 41 "SelfOpener$Program" "size" "I", Cond.fieldLink RX1 31 "SelfOpener$Packing" "alike" "[I", Cond.fieldLink RX1 22 "SelfOpener$Packing" "cost" "[I", Cond.fieldLink RX1 64 "SelfOpener$Packing" "length" "I", Cond.methodLink RX1 57 yX1_findCopy, Cond.instanceMethod yX1_findCopy, Cond.selects RX1 yX1_findCopy yX1_findCopy, Cond.code yX1_findCopy cX1_findCopy 5 none, Cond.fieldLink RX1 70 "SelfOpener$Program" "bytes" "[I", Cond.fieldLink RX1 25 "SelfOpener$Packing" "makes" "[I", Cond.fieldLink RX1 28 "SelfOpener$Packing" "distance" "[I", Cond.methodLink RX1 73 Lib.Math.min.name, Cond.static Lib.Math.min.name, Cond.initialized "java/lang/Math", Cond.code Lib.Math.min.name Lib.Math.min.code 2 (some .int), Cond.methodLink RX1 61 yX1_chooseToken]
def wsL_apart_r3 : List Cond := [Cond.instanceMethod yX1_chooseToken, Cond.selects RX1 yX1_chooseToken yX1_chooseToken, Cond.code yX1_chooseToken cX1_chooseToken 6 none, Cond.methodLink RX1 67 yX1_writeStream, Cond.instanceMethod yX1_writeStream, Cond.selects RX1 yX1_writeStream yX1_writeStream, Cond.code yX1_writeStream cX1_writeStream 6 none, Cond.methodLink RX1 79 Lib.Math.max.name, Cond.static Lib.Math.max.name, Cond.code Lib.Math.max.name Lib.Math.max.code 2 (some .int), Cond.fieldLink RX1 44 "SelfOpener$Packing" "gap" "I", Cond.fieldLink RX1 18 "SelfOpener$Packing" "stream" "[I", Cond.methodLink RX1 82 arraycopyName, Cond.native arraycopyName, Cond.static arraycopyName, Cond.initialized "java/lang/System", Cond.methodLink RX3 99 yX1_fits, Cond.instanceMethod yX1_fits, Cond.selects RX1 yX1_fits yX1_fits, Cond.code yX1_fits cX1_fits 1 (some .boolean), Cond.methodLink RX1 53 yX1_layoutEnd, Cond.instanceMethod yX1_layoutEnd, Cond.selects RX1 yX1_layoutEnd yX1_layoutEnd, Cond.code yX1_layoutEnd cX1_layoutEnd 1 (some .int)]
def wsL_apart_r4 : List Cond := [Cond.methodLink RX1 47 yX1_stubAddress, Cond.instanceMethod yX1_stubAddress, Cond.selects RX1 yX1_stubAddress yX1_stubAddress, Cond.code yX1_stubAddress cX1_stubAddress 1 (some .int), Cond.fieldLink RX1 38 "SelfOpener$Program" "origin" "I", Cond.methodLink RX3 111 yX1_layoutEnd, Cond.methodLink RX3 144 yX2_loadedAt, Cond.instanceMethod yX2_loadedAt, Cond.selects RX2 yX2_loadedAt yX2_loadedAt, Cond.code yX2_loadedAt cX2_loadedAt 3 (some .int), Cond.fieldLink RX2 9 "SelfOpener$Program" "bytes" "[I"]
def wsL_apart : List Cond := .codeWith yL_apart cL_apart 3 (some .int) [(0, 8, 11, 34), (0, 8, 14, 36)] :: ((wsL_apart_r1 ++ (wsL_apart_r2 ++ (wsL_apart_r3 ++ wsL_apart_r4))) ++ wsX30 ++ wsX20 ++ wsX00 ++ wsX10 ++ (vx_at0 RX3 91 "java/lang/IllegalStateException" ["java/lang/RuntimeException", "java/lang/Exception"]).filter goodWord ++ (vx_at0 RX3 102 "java/lang/UnsupportedOperationException" ["java/lang/RuntimeException", "java/lang/Exception"]).filter goodWord)
def wsL_law0_r1 : List Cond := [Cond.classLink RL 8 RX3, Cond.instantiable RX3 3, Cond.initialized RX3, Cond.classLink RL 61 RX4, Cond.instantiable RX4 21, Cond.initialized RX4, Cond.arrayClass .long, Cond.constantLong RL 64 (4294967295), Cond.methodLink RL 60 yX3_init, Cond.instanceMethod yX3_init, Cond.code yX3_init cX3_init 1 none, Cond.methodLink RX3 1 objectInit, Cond.instanceMethod objectInit, Cond.code objectInit ⟨#[0xb1]⟩ 1 none, Cond.classLink RX3 7 RX1, Cond.instantiable RX1 9, Cond.initialized RX1, Cond.fieldLink RX3 10 "SelfOpener" "packing" "LSelfOpener$Packing;", Cond.fieldLink RX3 16 "SelfOpener$Packing" "program" "LSelfOpener$Program;", Cond.fieldLink RX3 20 "SelfOpener" "program" "LSelfOpener$Program;", Cond.classLink RX3 21 RX0, Cond.instantiable RX0 7, Cond.initialized RX0, Cond.fieldLink RX3 24 "SelfOpener" "machine" "LSelfOpener$Machine;"]
def wsL_law0_r2 : List Cond := [Cond.methodLink RX3 9 yX1_init, Cond.instanceMethod yX1_init, Cond.code yX1_init cX1_init 1 none, Cond.methodLink RX1 3 objectInit, Cond.classLink RX1 9 RX2, Cond.instantiable RX2 6, Cond.initialized RX2, Cond.fieldLink RX1 12 "SelfOpener$Packing" "program" "LSelfOpener$Program;", Cond.arrayClass .int, Cond.fieldLink RX1 18 "SelfOpener$Packing" "stream" "[I", Cond.fieldLink RX1 22 "SelfOpener$Packing" "cost" "[I", Cond.fieldLink RX1 25 "SelfOpener$Packing" "makes" "[I", Cond.fieldLink RX1 28 "SelfOpener$Packing" "distance" "[I", Cond.fieldLink RX1 31 "SelfOpener$Packing" "alike" "[I", Cond.fieldLink RX1 34 "SelfOpener$Packing" "edition" "I", Cond.methodLink RX1 11 yX2_init, Cond.instanceMethod yX2_init, Cond.code yX2_init cX2_init 1 none, Cond.methodLink RX2 3 objectInit, Cond.fieldLink RX2 9 "SelfOpener$Program" "bytes" "[I", Cond.fieldLink RX2 15 "SelfOpener$Program" "opened" "[I", Cond.methodLink RX3 23 yX0_init, Cond.instanceMethod yX0_init, Cond.code yX0_init cX0_init 1 none]
def wsL_law0_r3 : List Cond := [Cond.methodLink RX0 3 objectInit, Cond.fieldLink RX0 9 "SelfOpener$Machine" "memory" "[I", Cond.fieldLink RX0 15 "SelfOpener$Machine" "registers" "[I", Cond.fieldLink RX0 18 "SelfOpener$Machine" "kept" "[I", Cond.fieldLink RX0 21 "SelfOpener$Machine" "state" "I", Cond.methodLink RL 63 yX4_init, Cond.instanceMethod yX4_init, Cond.code yX4_init cX4_init 1 none, Cond.methodLink RX4 1 objectInit, Cond.fieldLink RX4 7 "SelfOpenerModel" "program" "[I", Cond.fieldLink RX4 13 "SelfOpenerModel" "stream" "[I", Cond.fieldLink RX4 16 "SelfOpenerModel" "least" "[I", Cond.fieldLink RX4 19 "SelfOpenerModel" "token" "[I", Cond.fieldLink RX4 22 "SelfOpenerModel" "distance" "[I", Cond.fieldLink RX4 25 "SelfOpenerModel" "right" "[I", Cond.fieldLink RX4 28 "SelfOpenerModel" "open" "[I", Cond.fieldLink RX4 31 "SelfOpenerModel" "memory" "[I", Cond.fieldLink RX4 34 "SelfOpenerModel" "registers" "[I", Cond.fieldLink RX4 37 "SelfOpenerModel" "state" "I", Cond.fieldLink RX4 41 "SelfOpenerModel" "out" "[I", Cond.methodLink RL 66 yX3_put, Cond.instanceMethod yX3_put, Cond.selects RX3 yX3_put yX3_put, Cond.code yX3_put cX3_put 7 (some .boolean)]
def wsL_law0_r4 : List Cond := [Cond.constantLong RX3 34 (255), Cond.methodLink RX3 28 yX2_hasRoom, Cond.instanceMethod yX2_hasRoom, Cond.selects RX2 yX2_hasRoom yX2_hasRoom, Cond.code yX2_hasRoom cX2_hasRoom 2 (some .boolean), Cond.fieldLink RX2 18 "SelfOpener$Program" "size" "I", Cond.methodLink RX3 36 yX2_append, Cond.instanceMethod yX2_append, Cond.selects RX2 yX2_append yX2_append, Cond.code yX2_append cX2_append 2 none, Cond.fieldLink RX2 25 "SelfOpener$Program" "edition" "I", Cond.methodLink RL 70 yX4_put, Cond.instanceMethod yX4_put, Cond.selects RX4 yX4_put yX4_put, Cond.code yX4_put cX4_put 5 (some .boolean), Cond.fieldLink RX4 44 "SelfOpenerModel" "thrown" "I", Cond.fieldLink RX4 47 "SelfOpenerModel" "size" "I", Cond.constantLong RX4 50 (255), Cond.fieldLink RX4 52 "SelfOpenerModel" "known" "Z", Cond.methodLink RL 71 yX3_again, Cond.instanceMethod yX3_again, Cond.selects RX3 yX3_again yX3_again, Cond.code yX3_again cX3_again 4 (some .boolean), Cond.fieldLink RX3 40 "SelfOpener$Program" "size" "I"]
def wsL_law0_r5 : List Cond := [Cond.fieldLink RX3 44 "SelfOpener$Program" "bytes" "[I", Cond.methodLink RL 75 yX4_again, Cond.instanceMethod yX4_again, Cond.selects RX4 yX4_again yX4_again, Cond.code yX4_again cX4_again 4 (some .boolean), Cond.methodLink RL 76 yL_change, Cond.static yL_change, Cond.initialized RL, Cond.codeWith yL_change cL_change 4 (some .int) [(0, 6, 9, 13), (0, 6, 12, 15)], Cond.classLink RL 13 "java/lang/IndexOutOfBoundsException", Cond.classLink RL 15 "java/lang/IllegalArgumentException", Cond.methodLink RL 7 yX3_change, Cond.instanceMethod yX3_change, Cond.selects RX3 yX3_change yX3_change, Cond.code yX3_change cX3_change 3 none, Cond.classLink RX3 48 "java/lang/IndexOutOfBoundsException", Cond.initialized "java/lang/IndexOutOfBoundsException", Cond.classLink RX3 54 "java/lang/IllegalArgumentException", Cond.initialized "java/lang/IllegalArgumentException", Cond.methodLink RX3 51 yX3_isByte, Cond.static yX3_isByte, Cond.code yX3_isByte cX3_isByte 1 (some .boolean), Cond.methodLink RX3 57 yX2_set, Cond.instanceMethod yX2_set]
def wsL_law0_r6 : List Cond := [Cond.selects RX2 yX2_set yX2_set, Cond.code yX2_set cX2_set 3 none, Cond.methodLink RL 81 yX4_change, Cond.instanceMethod yX4_change, Cond.selects RX4 yX4_change yX4_change, Cond.code yX4_change cX4_change 3 none, Cond.methodLink RX4 56 yX4_isByte, Cond.static yX4_isByte, Cond.code yX4_isByte cX4_isByte 1 (some .boolean), Cond.methodLink RL 82 yX4_thrown, Cond.instanceMethod yX4_thrown, Cond.selects RX4 yX4_thrown yX4_thrown, Cond.code yX4_thrown cX4_thrown 1 (some .int), Cond.methodLink RL 85 yL_cut, Cond.static yL_cut, Cond.codeWith yL_cut cL_cut 3 (some .int) [(0, 5, 8, 15)], Cond.methodLink RL 17 yX3_cut, Cond.instanceMethod yX3_cut, Cond.selects RX3 yX3_cut yX3_cut, Cond.code yX3_cut cX3_cut 2 none, Cond.methodLink RX3 61 yX2_shorten, Cond.instanceMethod yX2_shorten, Cond.selects RX2 yX2_shorten yX2_shorten, Cond.code yX2_shorten cX2_shorten 2 none]
def wsL_law0_r7 : List Cond := [Cond.methodLink RL 88 yX4_cut, Cond.instanceMethod yX4_cut, Cond.selects RX4 yX4_cut yX4_cut, Cond.code yX4_cut cX4_cut 2 none, Cond.methodLink RL 89 yL_place, Cond.static yL_place, Cond.codeWith yL_place cL_place 4 (some .int) [(0, 6, 9, 15)], Cond.methodLink RL 21 yX3_place, Cond.instanceMethod yX3_place, Cond.selects RX3 yX3_place yX3_place, Cond.code yX3_place cX3_place 3 none, Cond.fieldLink RX3 64 "SelfOpener$Program" "origin" "I", Cond.fieldLink RX3 67 "SelfOpener$Program" "entry" "I", Cond.methodLink RL 91 yX4_place, Cond.instanceMethod yX4_place, Cond.selects RX4 yX4_place yX4_place, Cond.code yX4_place cX4_place 3 none, Cond.fieldLink RX4 60 "SelfOpenerModel" "origin" "I", Cond.fieldLink RX4 63 "SelfOpenerModel" "entry" "I", Cond.methodLink RL 92 yX3_size, Cond.instanceMethod yX3_size, Cond.selects RX3 yX3_size yX3_size, Cond.code yX3_size cX3_size 1 (some .int), Cond.methodLink RL 95 yX4_size]
def wsL_law0_r8 : List Cond := [Cond.instanceMethod yX4_size, Cond.selects RX4 yX4_size yX4_size, Cond.code yX4_size cX4_size 1 (some .int), Cond.methodLink RL 96 yX3_packed, Cond.instanceMethod yX3_packed, Cond.selects RX3 yX3_packed yX3_packed, Cond.code yX3_packed cX3_packed 1 (some .int), Cond.fieldLink RX3 73 "SelfOpener$Packing" "length" "I", Cond.methodLink RX3 70 yX1_refresh, Cond.instanceMethod yX1_refresh, Cond.selects RX1 yX1_refresh yX1_refresh, Cond.code yX1_refresh cX1_refresh 3 none, Cond.fieldLink RX1 56 "SelfOpener$Program" "edition" "I", Cond.fieldLink RX1 41 "SelfOpener$Program" "size" "I", Cond.fieldLink RX1 64 "SelfOpener$Packing" "length" "I", Cond.methodLink RX1 57 yX1_findCopy, Cond.instanceMethod yX1_findCopy, Cond.selects RX1 yX1_findCopy yX1_findCopy, Cond.code yX1_findCopy cX1_findCopy 5 none, Cond.fieldLink RX1 70 "SelfOpener$Program" "bytes" "[I", Cond.methodLink RX1 73 Lib.Math.min.name, Cond.static Lib.Math.min.name, Cond.initialized "java/lang/Math", Cond.code Lib.Math.min.name Lib.Math.min.code 2 (some .int)]
def wsL_law0_r9 : List Cond := [Cond.methodLink RX1 61 yX1_chooseToken, Cond.instanceMethod yX1_chooseToken, Cond.selects RX1 yX1_chooseToken yX1_chooseToken, Cond.code yX1_chooseToken cX1_chooseToken 6 none, Cond.methodLink RX1 67 yX1_writeStream, Cond.instanceMethod yX1_writeStream, Cond.selects RX1 yX1_writeStream yX1_writeStream, Cond.code yX1_writeStream cX1_writeStream 6 none, Cond.methodLink RX1 79 Lib.Math.max.name, Cond.static Lib.Math.max.name, Cond.code Lib.Math.max.name Lib.Math.max.code 2 (some .int), Cond.fieldLink RX1 44 "SelfOpener$Packing" "gap" "I", Cond.methodLink RX1 82 arraycopyName, Cond.native arraycopyName, Cond.static arraycopyName, Cond.initialized "java/lang/System", Cond.methodLink RL 99 yX4_packed, Cond.instanceMethod yX4_packed, Cond.selects RX4 yX4_packed yX4_packed, Cond.code yX4_packed cX4_packed 1 (some .int), Cond.fieldLink RX4 74 "SelfOpenerModel" "length" "I", Cond.methodLink RX4 77 yX4_pack, Cond.instanceMethod yX4_pack, Cond.selects RX4 yX4_pack yX4_pack]
def wsL_law0_r10 : List Cond := [Cond.code yX4_pack cX4_pack 5 none, Cond.fieldLink RX4 71 "SelfOpenerModel" "gap" "I", Cond.methodLink RX4 67 yX4_choose, Cond.instanceMethod yX4_choose, Cond.selects RX4 yX4_choose yX4_choose, Cond.code yX4_choose cX4_choose 6 none, Cond.constant RX4 66 (100000), Cond.methodLink RL 100 yL_stream, Cond.static yL_stream, Cond.codeWith yL_stream cL_stream 4 (some .int) [(0, 9, 12, 13)], Cond.methodLink RL 24 yX3_stream, Cond.instanceMethod yX3_stream, Cond.selects RX3 yX3_stream yX3_stream, Cond.code yX3_stream cX3_stream 2 (some .int), Cond.fieldLink RX3 76 "SelfOpener$Packing" "stream" "[I", Cond.methodLink RL 103 yX4_stream, Cond.instanceMethod yX4_stream, Cond.selects RX4 yX4_stream yX4_stream, Cond.code yX4_stream cX4_stream 2 (some .int), Cond.methodLink RL 104 yX3_gap, Cond.instanceMethod yX3_gap, Cond.selects RX3 yX3_gap yX3_gap, Cond.code yX3_gap cX3_gap 1 (some .int), Cond.fieldLink RX3 79 "SelfOpener$Packing" "gap" "I"]
def wsL_law0_r11 : List Cond := [Cond.methodLink RL 107 yX4_gap, Cond.instanceMethod yX4_gap, Cond.selects RX4 yX4_gap yX4_gap, Cond.code yX4_gap cX4_gap 1 (some .int), Cond.methodLink RL 108 yL_unpack, Cond.static yL_unpack, Cond.codeWith yL_unpack cL_unpack 3 (some .int) [(0, 8, 11, 32), (0, 8, 14, 34), (0, 8, 17, 15), (0, 8, 20, 36)], Cond.classLink RL 32 "java/util/NoSuchElementException", Cond.classLink RL 34 "java/lang/IllegalStateException", Cond.classLink RL 36 "java/lang/UnsupportedOperationException", Cond.methodLink RL 28 yX3_unpack, Cond.instanceMethod yX3_unpack, Cond.selects RX3 yX3_unpack yX3_unpack, Cond.code yX3_unpack cX3_unpack 1 (some .int), Cond.methodLink RX3 82 yX2_openAsStream, Cond.instanceMethod yX2_openAsStream, Cond.selects RX2 yX2_openAsStream yX2_openAsStream, Cond.code yX2_openAsStream cX2_openAsStream 4 none, Cond.classLink RX2 37 "java/util/NoSuchElementException", Cond.initialized "java/util/NoSuchElementException", Cond.classLink RX2 40 "java/lang/IllegalStateException", Cond.initialized "java/lang/IllegalStateException", Cond.methodLink RX2 43 arraycopyName, Cond.methodLink RX2 30 yX2_openRun]
def wsL_law0_r12 : List Cond := [Cond.instanceMethod yX2_openRun, Cond.selects RX2 yX2_openRun yX2_openRun, Cond.code yX2_openRun cX2_openRun 4 (some .int), Cond.classLink RX2 53 "java/lang/UnsupportedOperationException", Cond.initialized "java/lang/UnsupportedOperationException", Cond.methodLink RX2 34 yX2_openCopy, Cond.instanceMethod yX2_openCopy, Cond.selects RX2 yX2_openCopy yX2_openCopy, Cond.code yX2_openCopy cX2_openCopy 6 (some .int), Cond.classLink RX2 56 "java/lang/IllegalArgumentException", Cond.methodLink RX2 49 yX2_shorten, Cond.methodLink RL 111 yX4_unpack, Cond.instanceMethod yX4_unpack, Cond.selects RX4 yX4_unpack yX4_unpack, Cond.code yX4_unpack cX4_unpack 7 (some .int), Cond.methodLink RX4 80 yX4_wrong, Cond.instanceMethod yX4_wrong, Cond.selects RX4 yX4_wrong yX4_wrong, Cond.code yX4_wrong cX4_wrong 5 (some .int), Cond.methodLink RX4 84 yX4_fail, Cond.instanceMethod yX4_fail, Cond.selects RX4 yX4_fail yX4_fail, Cond.code yX4_fail cX4_fail 2 (some .int), Cond.methodLink RL 112 yL_load]
def wsL_law0_r13 : List Cond := [Cond.static yL_load, Cond.codeWith yL_load cL_load 2 (some .int) [(0, 4, 7, 34)], Cond.methodLink RL 38 yX3_load, Cond.instanceMethod yX3_load, Cond.selects RX3 yX3_load yX3_load, Cond.code yX3_load cX3_load 1 none, Cond.classLink RX3 89 "java/lang/IllegalStateException", Cond.methodLink RX3 85 yX2_fits, Cond.instanceMethod yX2_fits, Cond.selects RX2 yX2_fits yX2_fits, Cond.code yX2_fits cX2_fits 1 (some .boolean), Cond.fieldLink RX2 22 "SelfOpener$Program" "origin" "I", Cond.methodLink RX3 92 yX0_clear, Cond.instanceMethod yX0_clear, Cond.selects RX0 yX0_clear yX0_clear, Cond.code yX0_clear cX0_clear 3 none, Cond.fieldLink RX0 28 "SelfOpener$Machine" "place" "I", Cond.fieldLink RX0 31 "SelfOpener$Machine" "steps" "I", Cond.fieldLink RX0 25 "SelfOpener$Machine" "putOut" "I", Cond.methodLink RX3 95 yX0_write, Cond.instanceMethod yX0_write, Cond.selects RX0 yX0_write yX0_write, Cond.code yX0_write cX0_write 4 none, Cond.methodLink RX0 34 arraycopyName]
def wsL_law0_r14 : List Cond := [Cond.methodLink RL 115 yX4_load, Cond.instanceMethod yX4_load, Cond.selects RX4 yX4_load yX4_load, Cond.code yX4_load cX4_load 2 none, Cond.methodLink RX4 97 yX4_clear, Cond.instanceMethod yX4_clear, Cond.selects RX4 yX4_clear yX4_clear, Cond.code yX4_clear cX4_clear 3 none, Cond.fieldLink RX4 88 "SelfOpenerModel" "place" "I", Cond.fieldLink RX4 91 "SelfOpenerModel" "steps" "I", Cond.fieldLink RX4 94 "SelfOpenerModel" "outs" "I", Cond.methodLink RL 116 yL_loadPacked, Cond.static yL_loadPacked, Cond.codeWith yL_loadPacked cL_loadPacked 3 (some .int) [(0, 8, 11, 36)], Cond.methodLink RL 41 yX3_loadPacked, Cond.instanceMethod yX3_loadPacked, Cond.selects RX3 yX3_loadPacked yX3_loadPacked, Cond.code yX3_loadPacked cX3_loadPacked 3 (some .int), Cond.classLink RX3 100 "java/lang/UnsupportedOperationException", Cond.methodLink RX3 99 yX1_fits, Cond.instanceMethod yX1_fits, Cond.selects RX1 yX1_fits yX1_fits, Cond.code yX1_fits cX1_fits 1 (some .boolean), Cond.methodLink RX1 53 yX1_layoutEnd]
def wsL_law0_r15 : List Cond := [Cond.instanceMethod yX1_layoutEnd, Cond.selects RX1 yX1_layoutEnd yX1_layoutEnd, Cond.code yX1_layoutEnd cX1_layoutEnd 1 (some .int), Cond.methodLink RX1 47 yX1_stubAddress, Cond.instanceMethod yX1_stubAddress, Cond.selects RX1 yX1_stubAddress yX1_stubAddress, Cond.code yX1_stubAddress cX1_stubAddress 1 (some .int), Cond.fieldLink RX1 38 "SelfOpener$Program" "origin" "I", Cond.methodLink RX3 103 yX1_stubAddress, Cond.methodLink RX3 107 yX0_writeStub, Cond.instanceMethod yX0_writeStub, Cond.selects RX0 yX0_writeStub yX0_writeStub, Cond.code yX0_writeStub cX0_writeStub 7 none, Cond.fieldLink RX0 40 "SelfOpener$Machine" "STUB" "[I", Cond.methodLink RX3 111 yX1_layoutEnd, Cond.methodLink RL 118 yX4_loadPacked, Cond.instanceMethod yX4_loadPacked, Cond.selects RX4 yX4_loadPacked yX4_loadPacked, Cond.code yX4_loadPacked cX4_loadPacked 3 (some .int), Cond.methodLink RX4 121 yX4_isPackable, Cond.instanceMethod yX4_isPackable, Cond.selects RX4 yX4_isPackable yX4_isPackable, Cond.code yX4_isPackable cX4_isPackable 1 (some .boolean), Cond.methodLink RX4 125 yX4_first]
def wsL_law0_r16 : List Cond := [Cond.static yX4_first, Cond.code yX4_first cX4_first 3 (some .int), Cond.constantLong RX4 100 (7229583154687971857), Cond.constantLong RX4 102 (4707461730014544449), Cond.constantLong RX4 104 (-7835346056596130266), Cond.constantLong RX4 106 (140832314364288), Cond.methodLink RX4 108 yX4_eighth, Cond.static yX4_eighth, Cond.code yX4_eighth cX4_eighth 3 (some .int), Cond.methodLink RX4 128 yX4_second, Cond.instanceMethod yX4_second, Cond.selects RX4 yX4_second yX4_second, Cond.code yX4_second cX4_second 7 (some .int), Cond.constantLong RX4 112 (144425465120096256), Cond.constantLong RX4 114 (72482057149677825), Cond.constantLong RX4 116 (360007599053472770), Cond.constantLong RX4 118 (36), Cond.constant RX4 120 (25172016), Cond.methodLink RL 119 yL_run, Cond.static yL_run, Cond.codeWith yL_run cL_run 5 (some .int) [(0, 10, 13, 15)], Cond.methodLink RL 44 yX3_run, Cond.instanceMethod yX3_run, Cond.selects RX3 yX3_run yX3_run]
def wsL_law0_r17 : List Cond := [Cond.code yX3_run cX3_run 4 (some .int), Cond.fieldLink RX3 117 "SelfOpener$Machine" "place" "I", Cond.methodLink RX3 114 yX0_runs, Cond.instanceMethod yX0_runs, Cond.selects RX0 yX0_runs yX0_runs, Cond.code yX0_runs cX0_runs 1 (some .boolean), Cond.methodLink RX3 120 yX0_step, Cond.instanceMethod yX0_step, Cond.selects RX0 yX0_step yX0_step, Cond.code yX0_step cX0_step 3 none, Cond.methodLink RX0 43 yX0_act, Cond.instanceMethod yX0_act, Cond.selects RX0 yX0_act yX0_act, Cond.code yX0_act cX0_act 5 none, Cond.methodLink RX0 47 yX0_jump, Cond.instanceMethod yX0_jump, Cond.selects RX0 yX0_jump yX0_jump, Cond.code yX0_jump cX0_jump 4 none, Cond.methodLink RX0 50 yX0_reckon, Cond.instanceMethod yX0_reckon, Cond.selects RX0 yX0_reckon yX0_reckon, Cond.code yX0_reckon cX0_reckon 5 (some .int), Cond.methodLink RL 122 yX4_run, Cond.instanceMethod yX4_run]
def wsL_law0_r18 : List Cond := [Cond.selects RX4 yX4_run yX4_run, Cond.code yX4_run cX4_run 4 (some .int), Cond.methodLink RX4 134 yX4_step, Cond.instanceMethod yX4_step, Cond.selects RX4 yX4_step yX4_step, Cond.code yX4_step cX4_step 6 none, Cond.methodLink RX4 131 yX4_putOut, Cond.instanceMethod yX4_putOut, Cond.selects RX4 yX4_putOut yX4_putOut, Cond.code yX4_putOut cX4_putOut 2 none, Cond.methodLink RL 123 yL_look, Cond.static yL_look, Cond.codeWith yL_look cL_look 4 (some .int) [(0, 9, 12, 13)], Cond.methodLink RL 48 yX3_look, Cond.instanceMethod yX3_look, Cond.selects RX3 yX3_look yX3_look, Cond.code yX3_look cX3_look 2 (some .int), Cond.fieldLink RX3 123 "SelfOpener$Machine" "registers" "[I", Cond.fieldLink RX3 126 "SelfOpener$Machine" "state" "I", Cond.fieldLink RX3 129 "SelfOpener$Machine" "steps" "I", Cond.fieldLink RX3 132 "SelfOpener$Machine" "putOut" "I", Cond.methodLink RL 125 yX4_look, Cond.instanceMethod yX4_look, Cond.selects RX4 yX4_look yX4_look]
def wsL_law0_r19 : List Cond := [Cond.code yX4_look cX4_look 2 (some .int), Cond.methodLink RL 126 yL_memory, Cond.static yL_memory, Cond.codeWith yL_memory cL_memory 4 (some .int) [(0, 9, 12, 13)], Cond.methodLink RL 51 yX3_memory, Cond.instanceMethod yX3_memory, Cond.selects RX3 yX3_memory yX3_memory, Cond.code yX3_memory cX3_memory 2 (some .int), Cond.fieldLink RX3 135 "SelfOpener$Machine" "memory" "[I", Cond.methodLink RL 128 yX4_memory, Cond.instanceMethod yX4_memory, Cond.selects RX4 yX4_memory yX4_memory, Cond.code yX4_memory cX4_memory 2 (some .int), Cond.methodLink RL 129 yL_out, Cond.static yL_out, Cond.codeWith yL_out cL_out 4 (some .int) [(0, 9, 12, 13)], Cond.methodLink RL 54 yX3_out, Cond.instanceMethod yX3_out, Cond.selects RX3 yX3_out yX3_out, Cond.code yX3_out cX3_out 2 (some .int), Cond.fieldLink RX3 141 "SelfOpener$Machine" "kept" "[I", Cond.methodLink RX3 138 yX0_keeps, Cond.instanceMethod yX0_keeps, Cond.selects RX0 yX0_keeps yX0_keeps]
def wsL_law0_r20 : List Cond := [Cond.code yX0_keeps cX0_keeps 2 (some .boolean), Cond.methodLink RL 131 yX4_out, Cond.instanceMethod yX4_out, Cond.selects RX4 yX4_out yX4_out, Cond.code yX4_out cX4_out 2 (some .int), Cond.methodLink RL 132 yL_apart, Cond.static yL_apart, Cond.codeWith yL_apart cL_apart 3 (some .int) [(0, 8, 11, 34), (0, 8, 14, 36)], Cond.methodLink RL 57 yX3_apart, Cond.instanceMethod yX3_apart, Cond.selects RX3 yX3_apart yX3_apart, Cond.code yX3_apart cX3_apart 6 (some .int), Cond.methodLink RX3 144 yX2_loadedAt, Cond.instanceMethod yX2_loadedAt, Cond.selects RX2 yX2_loadedAt yX2_loadedAt, Cond.code yX2_loadedAt cX2_loadedAt 3 (some .int), Cond.methodLink RL 134 yX4_apart, Cond.instanceMethod yX4_apart, Cond.selects RX4 yX4_apart yX4_apart, Cond.code yX4_apart cX4_apart 6 (some .int)]
def wsL_law0 : List Cond := (wsL_law0_r1 ++ (wsL_law0_r2 ++ (wsL_law0_r3 ++ (wsL_law0_r4 ++ (wsL_law0_r5 ++ (wsL_law0_r6 ++ (wsL_law0_r7 ++ (wsL_law0_r8 ++ (wsL_law0_r9 ++ (wsL_law0_r10 ++ (wsL_law0_r11 ++ (wsL_law0_r12 ++ (wsL_law0_r13 ++ (wsL_law0_r14 ++ (wsL_law0_r15 ++ (wsL_law0_r16 ++ (wsL_law0_r17 ++ (wsL_law0_r18 ++ (wsL_law0_r19 ++ wsL_law0_r20))))))))))))))))))) ++ wsX30 ++ wsX40 ++ wsX10 ++ wsX00 ++ wsX20 ++ ([] : List Cond)
def wsL_law : List Cond := wsL_law0 ++ (vx_at0 RX3 50 "java/lang/IndexOutOfBoundsException" ["java/lang/RuntimeException", "java/lang/Exception"]).filter goodWord ++ (vx_at0 RX3 56 "java/lang/IllegalArgumentException" ["java/lang/RuntimeException", "java/lang/Exception"]).filter goodWord ++ (vx_at0 RX2 39 "java/util/NoSuchElementException" ["java/lang/RuntimeException", "java/lang/Exception"]).filter goodWord ++ (vx_at0 RX2 42 "java/lang/IllegalStateException" ["java/lang/RuntimeException", "java/lang/Exception"]).filter goodWord ++ (vx_at0 RX2 55 "java/lang/UnsupportedOperationException" ["java/lang/RuntimeException", "java/lang/Exception"]).filter goodWord ++ (vx_at0 RX2 58 "java/lang/IllegalArgumentException" ["java/lang/RuntimeException", "java/lang/Exception"]).filter goodWord ++ (vx_at0 RX3 91 "java/lang/IllegalStateException" ["java/lang/RuntimeException", "java/lang/Exception"]).filter goodWord ++ (vx_at0 RX3 102 "java/lang/UnsupportedOperationException" ["java/lang/RuntimeException", "java/lang/Exception"]).filter goodWord
set_option maxRecDepth 20000 in
set_option maxRecDepth 100000 in
theorem wsL_law0_r1_tb : ∀ w ∈ wsL_law0_r1, w ∈ lw_tbl := fun w h => (goodIn_r wsL_law0_r1 [34, 35, 19, 518, 519, 23, 717, 716, 36, 37, 38, 39, 40, 41, 42, 43, 20, 148, 82, 149, 113, 114, 22, 150] (by rfl) (by decide +kernel) w h).1
set_option maxRecDepth 100000 in
theorem wsL_law0_r2_tb : ∀ w ∈ wsL_law0_r2, w ∈ lw_tbl := fun w h => (goodIn_r wsL_law0_r2 [44, 45, 46, 47, 48, 49, 21, 81, 80, 83, 90, 91, 92, 93, 89, 50, 51, 52, 53, 54, 57, 115, 116, 117] (by rfl) (by decide +kernel) w h).1
set_option maxRecDepth 100000 in
theorem wsL_law0_r3_tb : ∀ w ∈ wsL_law0_r3, w ∈ lw_tbl := fun w h => (goodIn_r wsL_law0_r3 [118, 119, 121, 123, 127, 520, 521, 522, 523, 526, 532, 533, 534, 535, 536, 537, 538, 539, 541, 544, 158, 159, 160, 161] (by rfl) (by decide +kernel) w h).1
set_option maxRecDepth 100000 in
theorem wsL_law0_r4_tb : ∀ w ∈ wsL_law0_r4, w ∈ lw_tbl := fun w h => (goodIn_r wsL_law0_r4 [166, 162, 163, 164, 165, 58, 167, 168, 169, 170, 65, 592, 593, 594, 595, 524, 525, 596, 529, 171, 172, 173, 174, 60] (by rfl) (by decide +kernel) w h).1
set_option maxRecDepth 100000 in
theorem wsL_law0_r5_tb : ∀ w ∈ wsL_law0_r5, w ∈ lw_tbl := fun w h => (goodIn_r wsL_law0_r5 [55, 597, 598, 599, 600, 212, 213, 18, 214, 215, 216, 217, 218, 219, 220, 221, 27, 289, 28, 286, 287, 288, 304, 305] (by rfl) (by decide +kernel) w h).1
set_option maxRecDepth 100000 in
theorem wsL_law0_r6_tb : ∀ w ∈ wsL_law0_r6, w ∈ lw_tbl := fun w h => (goodIn_r wsL_law0_r6 [306, 307, 601, 602, 603, 604, 605, 606, 607, 588, 589, 590, 591, 308, 309, 310, 311, 312, 313, 314, 315, 316, 317, 318] (by rfl) (by decide +kernel) w h).1
set_option maxRecDepth 100000 in
theorem wsL_law0_r7_tb : ∀ w ∈ wsL_law0_r7, w ∈ lw_tbl := fun w h => (goodIn_r wsL_law0_r7 [608, 609, 610, 611, 319, 320, 321, 322, 323, 324, 325, 63, 64, 612, 613, 614, 615, 527, 528, 175, 176, 177, 178, 616] (by rfl) (by decide +kernel) w h).1
set_option maxRecDepth 100000 in
theorem wsL_law0_r8_tb : ∀ w ∈ wsL_law0_r8, w ∈ lw_tbl := fun w h => (goodIn_r wsL_law0_r8 [617, 618, 619, 179, 180, 181, 182, 86, 183, 184, 185, 186, 66, 59, 85, 187, 189, 0, 190, 56, 191, 192, 29, 193] (by rfl) (by decide +kernel) w h).1
set_option maxRecDepth 100000 in
theorem wsL_law0_r9_tb : ∀ w ∈ wsL_law0_r9, w ∈ lw_tbl := fun w h => (goodIn_r wsL_law0_r9 [194, 196, 1, 197, 198, 200, 2, 201, 202, 203, 204, 87, 205, 207, 206, 30, 620, 621, 622, 623, 531, 624, 626, 9] (by rfl) (by decide +kernel) w h).1
set_option maxRecDepth 100000 in
theorem wsL_law0_r10_tb : ∀ w ∈ wsL_law0_r10, w ∈ lw_tbl := fun w h => (goodIn_r wsL_law0_r10 [627, 530, 628, 630, 10, 631, 632, 326, 327, 328, 329, 330, 331, 332, 84, 633, 634, 635, 636, 208, 209, 210, 211, 88] (by rfl) (by decide +kernel) w h).1
set_option maxRecDepth 100000 in
theorem wsL_law0_r11_tb : ∀ w ∈ wsL_law0_r11, w ∈ lw_tbl := fun w h => (goodIn_r wsL_law0_r11 [637, 638, 639, 640, 333, 334, 335, 336, 337, 338, 339, 340, 341, 342, 343, 344, 345, 346, 351, 31, 388, 33, 381, 347] (by rfl) (by decide +kernel) w h).1
set_option maxRecDepth 100000 in
theorem wsL_law0_r12_tb : ∀ w ∈ wsL_law0_r12, w ∈ lw_tbl := fun w h => (goodIn_r wsL_law0_r12 [349, 4, 350, 366, 32, 382, 384, 5, 385, 386, 403, 641, 642, 643, 644, 645, 647, 11, 648, 649, 651, 12, 652, 404] (by rfl) (by decide +kernel) w h).1
set_option maxRecDepth 100000 in
theorem wsL_law0_r13_tb : ∀ w ∈ wsL_law0_r13, w ∈ lw_tbl := fun w h => (goodIn_r wsL_law0_r13 [405, 406, 407, 408, 409, 410, 415, 411, 412, 413, 414, 62, 417, 418, 419, 420, 125, 129, 131, 421, 422, 423, 424, 425] (by rfl) (by decide +kernel) w h).1
set_option maxRecDepth 100000 in
theorem wsL_law0_r14_tb : ∀ w ∈ wsL_law0_r14, w ∈ lw_tbl := fun w h => (goodIn_r wsL_law0_r14 [653, 654, 655, 656, 657, 659, 13, 660, 540, 542, 543, 426, 427, 428, 429, 430, 431, 432, 445, 433, 434, 435, 436, 437] (by rfl) (by decide +kernel) w h).1
set_option maxRecDepth 100000 in
theorem wsL_law0_r15_tb : ∀ w ∈ wsL_law0_r15, w ∈ lw_tbl := fun w h => (goodIn_r wsL_law0_r15 [438, 439, 440, 441, 442, 443, 444, 61, 447, 448, 449, 450, 451, 452, 454, 661, 662, 663, 664, 665, 667, 14, 668, 669] (by rfl) (by decide +kernel) w h).1
set_option maxRecDepth 100000 in
theorem wsL_law0_r16_tb : ∀ w ∈ wsL_law0_r16, w ∈ lw_tbl := fun w h => (goodIn_r wsL_law0_r16 [670, 671, 672, 673, 674, 675, 676, 677, 678, 679, 681, 15, 682, 683, 684, 685, 686, 687, 455, 456, 457, 458, 459, 460] (by rfl) (by decide +kernel) w h).1
set_option maxRecDepth 100000 in
theorem wsL_law0_r17_tb : ∀ w ∈ wsL_law0_r17, w ∈ lw_tbl := fun w h => (goodIn_r wsL_law0_r17 [461, 126, 462, 463, 464, 465, 466, 467, 468, 469, 470, 472, 6, 473, 474, 476, 7, 477, 478, 480, 8, 481, 688, 689] (by rfl) (by decide +kernel) w h).1
set_option maxRecDepth 100000 in
theorem wsL_law0_r18_tb : ∀ w ∈ wsL_law0_r18, w ∈ lw_tbl := fun w h => (goodIn_r wsL_law0_r18 [690, 691, 692, 694, 16, 695, 696, 698, 17, 699, 482, 483, 484, 485, 486, 487, 488, 122, 128, 130, 132, 700, 701, 702] (by rfl) (by decide +kernel) w h).1
set_option maxRecDepth 100000 in
theorem wsL_law0_r19_tb : ∀ w ∈ wsL_law0_r19, w ∈ lw_tbl := fun w h => (goodIn_r wsL_law0_r19 [703, 489, 490, 491, 492, 493, 494, 495, 120, 704, 705, 706, 707, 496, 497, 498, 499, 500, 501, 502, 124, 503, 504, 505] (by rfl) (by decide +kernel) w h).1
set_option maxRecDepth 100000 in
theorem wsL_law0_r20_tb : ∀ w ∈ wsL_law0_r20, w ∈ lw_tbl := fun w h => (goodIn_r wsL_law0_r20 [506, 708, 709, 710, 711, 507, 508, 509, 510, 511, 512, 513, 514, 515, 516, 517, 712, 713, 714, 715] (by rfl) (by decide +kernel) w h).1
set_option maxRecDepth 100000 in
theorem wsX30_tb : ∀ w ∈ wsX30, w ∈ lw_tbl := fun w h => (goodIn_r wsX30 [151, 153, 155] (by rfl) (by decide +kernel) w h).1
set_option maxRecDepth 100000 in
theorem wsX40_tb : ∀ w ∈ wsX40, w ∈ lw_tbl := fun w h => (goodIn_r wsX40 [545, 547, 549, 551, 553, 555, 557, 559, 561, 563, 565, 567, 569, 571, 573, 575, 577, 579, 581, 583, 585] (by rfl) (by decide +kernel) w h).1
set_option maxRecDepth 100000 in
theorem wsX10_tb : ∀ w ∈ wsX10, w ∈ lw_tbl := fun w h => (goodIn_r wsX10 [94, 96, 98, 100, 102, 104, 106, 108, 110] (by rfl) (by decide +kernel) w h).1
set_option maxRecDepth 100000 in
theorem wsX00_tb : ∀ w ∈ wsX00, w ∈ lw_tbl := fun w h => (goodIn_r wsX00 [133, 135, 137, 139, 141, 143, 145] (by rfl) (by decide +kernel) w h).1
set_option maxRecDepth 100000 in
theorem wsX20_tb : ∀ w ∈ wsX20, w ∈ lw_tbl := fun w h => (goodIn_r wsX20 [67, 69, 71, 73, 75, 77] (by rfl) (by decide +kernel) w h).1
theorem wsL_law_in0 : ∀ w ∈ wsL_law0, w ∈ lw_tbl := fun w => fun h => (List.mem_append.mp h).elim (fun h => (List.mem_append.mp h).elim (fun h => (List.mem_append.mp h).elim (fun h => (List.mem_append.mp h).elim (fun h => (List.mem_append.mp h).elim (fun h => (List.mem_append.mp h).elim (fun h => ((List.mem_append.mp h).elim (fun h => wsL_law0_r1_tb w h) (fun h => (List.mem_append.mp h).elim (fun h => wsL_law0_r2_tb w h) (fun h => (List.mem_append.mp h).elim (fun h => wsL_law0_r3_tb w h) (fun h => (List.mem_append.mp h).elim (fun h => wsL_law0_r4_tb w h) (fun h => (List.mem_append.mp h).elim (fun h => wsL_law0_r5_tb w h) (fun h => (List.mem_append.mp h).elim (fun h => wsL_law0_r6_tb w h) (fun h => (List.mem_append.mp h).elim (fun h => wsL_law0_r7_tb w h) (fun h => (List.mem_append.mp h).elim (fun h => wsL_law0_r8_tb w h) (fun h => (List.mem_append.mp h).elim (fun h => wsL_law0_r9_tb w h) (fun h => (List.mem_append.mp h).elim (fun h => wsL_law0_r10_tb w h) (fun h => (List.mem_append.mp h).elim (fun h => wsL_law0_r11_tb w h) (fun h => (List.mem_append.mp h).elim (fun h => wsL_law0_r12_tb w h) (fun h => (List.mem_append.mp h).elim (fun h => wsL_law0_r13_tb w h) (fun h => (List.mem_append.mp h).elim (fun h => wsL_law0_r14_tb w h) (fun h => (List.mem_append.mp h).elim (fun h => wsL_law0_r15_tb w h) (fun h => (List.mem_append.mp h).elim (fun h => wsL_law0_r16_tb w h) (fun h => (List.mem_append.mp h).elim (fun h => wsL_law0_r17_tb w h) (fun h => (List.mem_append.mp h).elim (fun h => wsL_law0_r18_tb w h) (fun h => (List.mem_append.mp h).elim (fun h => wsL_law0_r19_tb w h) (fun h => wsL_law0_r20_tb w h))))))))))))))))))))) (fun h => wsX30_tb w h)) (fun h => wsX40_tb w h)) (fun h => wsX10_tb w h)) (fun h => wsX00_tb w h)) (fun h => wsX20_tb w h)) (fun h => nomatch h)
theorem wsL_law_x0 : ∀ w ∈ (vx_at0 RX3 50 "java/lang/IndexOutOfBoundsException" ["java/lang/RuntimeException", "java/lang/Exception"]).filter goodWord, w ∈ lw_tbl := by decide +kernel
theorem wsL_law_x1 : ∀ w ∈ (vx_at0 RX3 56 "java/lang/IllegalArgumentException" ["java/lang/RuntimeException", "java/lang/Exception"]).filter goodWord, w ∈ lw_tbl := by decide +kernel
theorem wsL_law_x2 : ∀ w ∈ (vx_at0 RX2 39 "java/util/NoSuchElementException" ["java/lang/RuntimeException", "java/lang/Exception"]).filter goodWord, w ∈ lw_tbl := by decide +kernel
theorem wsL_law_x3 : ∀ w ∈ (vx_at0 RX2 42 "java/lang/IllegalStateException" ["java/lang/RuntimeException", "java/lang/Exception"]).filter goodWord, w ∈ lw_tbl := by decide +kernel
theorem wsL_law_x4 : ∀ w ∈ (vx_at0 RX2 55 "java/lang/UnsupportedOperationException" ["java/lang/RuntimeException", "java/lang/Exception"]).filter goodWord, w ∈ lw_tbl := by decide +kernel
theorem wsL_law_x5 : ∀ w ∈ (vx_at0 RX2 58 "java/lang/IllegalArgumentException" ["java/lang/RuntimeException", "java/lang/Exception"]).filter goodWord, w ∈ lw_tbl := by decide +kernel
theorem wsL_law_x6 : ∀ w ∈ (vx_at0 RX3 91 "java/lang/IllegalStateException" ["java/lang/RuntimeException", "java/lang/Exception"]).filter goodWord, w ∈ lw_tbl := by decide +kernel
theorem wsL_law_x7 : ∀ w ∈ (vx_at0 RX3 102 "java/lang/UnsupportedOperationException" ["java/lang/RuntimeException", "java/lang/Exception"]).filter goodWord, w ∈ lw_tbl := by decide +kernel
theorem wsL_law_in : ∀ w ∈ wsL_law, w ∈ lw_tbl := fun w h => (List.mem_append.mp h).elim (fun h => (List.mem_append.mp h).elim (fun h => (List.mem_append.mp h).elim (fun h => (List.mem_append.mp h).elim (fun h => (List.mem_append.mp h).elim (fun h => (List.mem_append.mp h).elim (fun h => (List.mem_append.mp h).elim (fun h => (List.mem_append.mp h).elim (fun h => wsL_law_in0 w h) (fun h => wsL_law_x0 w h)) (fun h => wsL_law_x1 w h)) (fun h => wsL_law_x2 w h)) (fun h => wsL_law_x3 w h)) (fun h => wsL_law_x4 w h)) (fun h => wsL_law_x5 w h)) (fun h => wsL_law_x6 w h)) (fun h => wsL_law_x7 w h)
theorem inlX0 : ∀ w ∈ wsX00, w ∈ wsL_law := fun _ h => List.mem_append_left _ (List.mem_append_left _ (List.mem_append_left _ (List.mem_append_left _ (List.mem_append_left _ (List.mem_append_left _ (List.mem_append_left _ (List.mem_append_left _ (List.mem_append_left _ (List.mem_append_left _ (List.mem_append_right _ h))))))))))
theorem inX0 : ∀ w ∈ wsX00, w ∈ lw_tbl := fun w h => wsL_law_in w (inlX0 w h)
theorem inlX1 : ∀ w ∈ wsX10, w ∈ wsL_law := fun _ h => List.mem_append_left _ (List.mem_append_left _ (List.mem_append_left _ (List.mem_append_left _ (List.mem_append_left _ (List.mem_append_left _ (List.mem_append_left _ (List.mem_append_left _ (List.mem_append_left _ (List.mem_append_left _ (List.mem_append_left _ (List.mem_append_right _ h)))))))))))
theorem inX1 : ∀ w ∈ wsX10, w ∈ lw_tbl := fun w h => wsL_law_in w (inlX1 w h)
theorem inlX2 : ∀ w ∈ wsX20, w ∈ wsL_law := fun _ h => List.mem_append_left _ (List.mem_append_left _ (List.mem_append_left _ (List.mem_append_left _ (List.mem_append_left _ (List.mem_append_left _ (List.mem_append_left _ (List.mem_append_left _ (List.mem_append_left _ (List.mem_append_right _ h)))))))))
theorem inX2 : ∀ w ∈ wsX20, w ∈ lw_tbl := fun w h => wsL_law_in w (inlX2 w h)
theorem inlX3 : ∀ w ∈ wsX30, w ∈ wsL_law := fun _ h => List.mem_append_left _ (List.mem_append_left _ (List.mem_append_left _ (List.mem_append_left _ (List.mem_append_left _ (List.mem_append_left _ (List.mem_append_left _ (List.mem_append_left _ (List.mem_append_left _ (List.mem_append_left _ (List.mem_append_left _ (List.mem_append_left _ (List.mem_append_left _ (List.mem_append_right _ h)))))))))))))
theorem inX3 : ∀ w ∈ wsX30, w ∈ lw_tbl := fun w h => wsL_law_in w (inlX3 w h)
theorem inlX4 : ∀ w ∈ wsX40, w ∈ wsL_law := fun _ h => List.mem_append_left _ (List.mem_append_left _ (List.mem_append_left _ (List.mem_append_left _ (List.mem_append_left _ (List.mem_append_left _ (List.mem_append_left _ (List.mem_append_left _ (List.mem_append_left _ (List.mem_append_left _ (List.mem_append_left _ (List.mem_append_left _ (List.mem_append_right _ h))))))))))))
theorem inX4 : ∀ w ∈ wsX40, w ∈ lw_tbl := fun w h => wsL_law_in w (inlX4 w h)
theorem inJx145de : ∀ w ∈ wsJx145de0, w ∈ lw_tbl := by decide +kernel
theorem inJ9 : ∀ w ∈ wsJ90, w ∈ lw_tbl := by decide +kernel
theorem inJ10 : ∀ w ∈ wsJ100, w ∈ lw_tbl := by decide +kernel
abbrev vwCl : List vw_C := [(RX0, TX0, 7), (RX1, TX1, 9), (RX2, TX2, 6), (RX3, TX3, 3), (RX4, TX4, 21)]
end
