section
-- ===== PART A: goes FIRST, ahead of the names: the tables' words, and 'selects' of the private methods out of them =====
/-- a private method of a class that the tables say can be made, by its rows of tables_1 -/
def lw_okq (q : MethodName × Nat) : Prop := (q.1.cls ≠ "java/lang/invoke/MethodHandle" ∧ q.1.cls ≠ "java/lang/invoke/VarHandle") ∧ Cond.instantiable q.1.cls q.2 ∈ tables_1 ∧ Cond.privateMethod q.1 ∈ tables_1 ∧ Cond.instanceMethod q.1 ∈ tables_1
theorem lw_p0 : lw_okq (⟨"CapacityRound", "penaltyOf", "(II)I"⟩, 10) := ⟨⟨by decide +kernel, by decide +kernel⟩, List.mem_of_getElem? (i := 12) (by decide +kernel), List.mem_of_getElem? (i := 125) (by decide +kernel), List.mem_of_getElem? (i := 126) (by decide +kernel)⟩
theorem lw_p1 : lw_okq (⟨"CapacityRound", "lackOf", "(II)I"⟩, 10) := ⟨⟨by decide +kernel, by decide +kernel⟩, List.mem_of_getElem? (i := 12) (by decide +kernel), List.mem_of_getElem? (i := 129) (by decide +kernel), List.mem_of_getElem? (i := 130) (by decide +kernel)⟩
theorem lw_p2 : lw_okq (⟨"java/lang/Throwable", "fillInStackTrace", "(I)Ljava/lang/Throwable;"⟩, 6) := ⟨⟨by decide +kernel, by decide +kernel⟩, List.mem_of_getElem? (i := 200) (by decide +kernel), List.mem_of_getElem? (i := 198) (by decide +kernel), List.mem_of_getElem? (i := 199) (by decide +kernel)⟩
theorem lw_p3 : lw_okq (⟨"CapacityRound", "take", "(III)V"⟩, 10) := ⟨⟨by decide +kernel, by decide +kernel⟩, List.mem_of_getElem? (i := 12) (by decide +kernel), List.mem_of_getElem? (i := 349) (by decide +kernel), List.mem_of_getElem? (i := 350) (by decide +kernel)⟩
theorem lw_p4 : lw_okq (⟨"CapacityRound", "leastObligation", "(IIII)I"⟩, 10) := ⟨⟨by decide +kernel, by decide +kernel⟩, List.mem_of_getElem? (i := 12) (by decide +kernel), List.mem_of_getElem? (i := 392) (by decide +kernel), List.mem_of_getElem? (i := 393) (by decide +kernel)⟩
theorem lw_p5 : lw_okq (⟨"CapacityRound$Queue", "dearestIn", "()I"⟩, 7) := ⟨⟨by decide +kernel, by decide +kernel⟩, List.mem_of_getElem? (i := 48) (by decide +kernel), List.mem_of_getElem? (i := 471) (by decide +kernel), List.mem_of_getElem? (i := 472) (by decide +kernel)⟩
theorem lw_p6 : lw_okq (⟨"CapacityRound$Queue", "exitOf", "(I)I"⟩, 7) := ⟨⟨by decide +kernel, by decide +kernel⟩, List.mem_of_getElem? (i := 48) (by decide +kernel), List.mem_of_getElem? (i := 475) (by decide +kernel), List.mem_of_getElem? (i := 476) (by decide +kernel)⟩
def lw_privs_1 : List (MethodName × Nat) := [(⟨"CapacityRound", "penaltyOf", "(II)I"⟩, 10), (⟨"CapacityRound", "lackOf", "(II)I"⟩, 10), (⟨"java/lang/Throwable", "fillInStackTrace", "(I)Ljava/lang/Throwable;"⟩, 6), (⟨"CapacityRound", "take", "(III)V"⟩, 10), (⟨"CapacityRound", "leastObligation", "(IIII)I"⟩, 10), (⟨"CapacityRound$Queue", "dearestIn", "()I"⟩, 7), (⟨"CapacityRound$Queue", "exitOf", "(I)I"⟩, 7)]
theorem lw_r1 : ∀ q ∈ lw_privs_1, lw_okq q := List.forall_mem_cons.mpr ⟨lw_p0, List.forall_mem_cons.mpr ⟨lw_p1, List.forall_mem_cons.mpr ⟨lw_p2, List.forall_mem_cons.mpr ⟨lw_p3, List.forall_mem_cons.mpr ⟨lw_p4, List.forall_mem_cons.mpr ⟨lw_p5, List.forall_mem_cons.mpr ⟨lw_p6, fun _ h => absurd h List.not_mem_nil⟩⟩⟩⟩⟩⟩⟩
def lw_privs : List (MethodName × Nat) := lw_privs_1
def lw_tbl : List Cond := k2_sels lw_privs ++ tables_1
theorem lw_privs_ok : ∀ q ∈ lw_privs, lw_okq q := lw_r1
/-! ===== BEGIN words of one list among another's, by their places ===== -/
theorem goodIn_r {big : List Cond} (ws : List Cond) (ps : List Nat) (hp : ws = ps.filterMap (fun i => big[i]?)) (h : ws.all goodWord = true) : GoodIn big ws := by
  intro w hw
  have h1 := List.all_eq_true.mp h w hw
  rw [hp] at hw
  obtain ⟨i, -, hi⟩ := List.mem_filterMap.mp hw
  have hm : w ∈ big := by first | exact List.mem_of_getElem? hi | exact List.getElem?_mem hi
  exact ⟨hm, good_of_word h1⟩
theorem goodIn_app {big a b : List Cond} (ha : GoodIn big a) (hb : GoodIn big b) : GoodIn big (a ++ b) := fun w h => (List.mem_append.mp h).elim (ha w) (hb w)
theorem goodIn_ca {big a b : List Cond} {c : Cond} (ha : GoodIn big (c :: a)) (hb : GoodIn big b) : GoodIn big (c :: (a ++ b)) := fun w h => (List.mem_cons.mp h).elim (fun e => ha w (List.mem_cons.mpr (Or.inl e))) (fun h => (List.mem_append.mp h).elim (fun h => ha w (List.mem_cons.mpr (Or.inr h))) (hb w))
theorem goodIn_sub {big ws : List Cond} (hm : ∀ w ∈ ws, w ∈ big) (h : ws.all goodWord = true) : GoodIn big ws := fun w hw => ⟨hm w hw, good_of_word (List.all_eq_true.mp h w hw)⟩
/-! ===== END ===== -/

/-! ===== BEGIN exceptions that leave a method, and their catching by the caller (launches without stack traces) ===== -/
section VXA
/-! The laws vx_back, vx_callV, vx_callS, vx_callSW, vx_throw0, vx_throwS follow proofs of the library, with one case more: JvmDerived/Free/Laws.lean (Back.of_free), Shelf42/LK1.lean (callV, callS), Shelf/KitTraced.lean (throwNew0V, throwNewS). -/
/-- where a method has thrown q: the class by its name, the cell, what was written, the world -/
def vx_T (XC : String → State → State → Prop) (st : State) (q : Addr) (t : State) (mc ms : Nat) (free : Addr → Prop) : Prop :=
  ∃ (E : String) (ce : Cell) (L : List Loc), XC E st t ∧ t.heap[q]? = some ce ∧ ce.vm = .none ∧ st.vm.findClass E = some ce.cls ∧ st.WarmedH t.vm ∧ st.sameButNew ({ t with vm := st.vm } : State) L mc ms ∧ ∀ z ∈ L, free z.base
def vx_Q (Qc : Array Value → State → Outcome → State → Prop) (XC : String → State → State → Prop) (mc ms : Nat) (free : Addr → Prop) : Array Value → State → Outcome → State → Prop := fun a st o t =>
  (Qc a st o t ∧ ∃ L, FrameEnd st o t L mc ms ∧ ∀ q ∈ L, free q.base) ∨ ∃ q, o = .threw q ∧ vx_T XC st q t mc ms free
/-- a callee that returns or throws -/
def vx_Met (l : Launch) (y : MethodName) (ws : List Cond) (rm : Room) (Pc : Array Value → State → Prop) (Qc : Array Value → State → Outcome → State → Prop) (XC : String → State → State → Prop) (mc ms : Nat) (free : Addr → Prop) : Prop :=
  MetFree l y (headSpec ws rm) Pc (fun _ _ _ _ _ => True) (vx_Q Qc XC mc ms free)
def vx_Post (XC : String → State → State → Prop) (mc ms : Nat) (free : Addr → Prop) : Pt → Array Value → Addr → Pt → Prop := fun A a q B =>
  ∃ (g : JFrame) (mk : MethodId) (t : State) (L : List Loc) (E : String) (ce : Cell), B.U.heap = t.heap ∧ B.U.vm = t.vm ∧ XC E (A.U.calling g mk a) t ∧ t.heap[q]? = some ce ∧ ce.vm = .none ∧ A.U.vm.findClass E = some ce.cls ∧ B.locs = A.locs ++ L ∧ (∀ z ∈ L, free z.base) ∧ B.cells = A.cells + mc ∧ B.slots = A.slots + ms
def vx_Back (l : Launch) (R : Room) (p : Program) (e : Env) (below : List Frame) (s : State) (sargs : Array Value) (y : MethodName) (len W9 : Nat)
    (Pre : Pt → Array Value → Prop) (Post : Pt → Array Value → Option Value → Pt → Prop) (PostX : Pt → Array Value → Addr → Pt → Prop) : Prop :=
  ∀ (m : MethodId) (meth : Method) (c : Code) (A : Pt) (g : JFrame) (ig : Instr) (mk : MethodId) (a : Array Value),
    Stand p l e R s m sargs below meth c A.U A.locs A.cells A.slots → g.method = m → g.locals.size = c.maxLocals → decode c.code g.pc = .ok (ig, len) →
    2 * g.monitorRoom + (g.stack.map fun v => v.category).sum ≤ W9 → A.U.methodNamed? y = some mk → Pre A a →
    (∃ (v : Option Value) (B : Pt), Stand p l e R s m sargs below meth c B.U B.locs B.cells B.slots ∧ Post A a v B ∧
      Steps p.tables e below (doInvoke e (A.U.setTop g) [] mk a).1 (B.U.setTop { g with pc := g.pc + len, stack := v.toList ++ g.stack })) ∨
    (∃ (q : Addr) (B : Pt), Stand p l e R s m sargs below meth c B.U B.locs B.cells B.slots ∧ PostX A a q B ∧
      Steps p.tables e below (doInvoke e (A.U.setTop g) [] mk a).1 ((B.U.setTop g).pushFrame (.throwing q)))
section Payer
variable {l : Launch} {R : Room} {p : Program} {e : Env} {below : List Frame} {s : State} {sargs : Array Value} {y : MethodName} {len W9 : Nat}
theorem vx_back {ws : List Cond} {rm : Room} {Pc : Array Value → State → Prop} {Qc : Array Value → State → Outcome → State → Prop} {XC : String → State → State → Prop} {mc ms : Nat} {free : Addr → Prop} {bytes : ByteArray} {maxL : Nat} {ret : Option FieldType}
    (hM : vx_Met l y ws rm Pc Qc XC mc ms free) (hblind : FrameBlind Pc) (hrc : rm.cells = mc) (hrs : rm.slots = ms)
    (hframes : rm.frames + 1 ≤ R.frames) (hlocals : W9 + (maxL + 11) + rm.locals ≤ R.locals)
    (hws : ∀ w ∈ ws, ∀ a' U, s.WarmedH U.vm → w.before a' U = true) (hcode : Cond.code y bytes maxL ret ∈ ws) (hinit : ∀ a' U, s.WarmedH U.vm → (Cond.initialized y.cls).before a' U = true) :
    vx_Back l R p e below s sargs y len W9 (PreOf R mc ms Pc) (PostOf Qc mc ms free) (vx_Post XC mc ms free) := by
  intro m meth c A g ig mk a X hg hsize hdg hW hn hp
  have h1 : (headSpec ws rm).pre.before a A.U = true := atoms_intro fun w hw => hws w hw _ _ X.warmed
  have h2 : (Cond.code y bytes maxL ret).before a A.U = true := hws _ hcode _ _ X.warmed
  have h3 : (Cond.initialized y.cls).before a A.U = true := hinit _ _ X.warmed
  have h4 : A.cells + (headSpec ws rm).room.cells ≤ R.cells := by rw [show (headSpec ws rm).room.cells = mc from hrc]; exact hp.1
  have h5 : A.slots + (headSpec ws rm).room.slots ≤ R.slots := by rw [show (headSpec ws rm).room.slots = ms from hrs]; exact hp.2.1
  have hPc : Pc a (A.U.calling g mk a) := hblind _ _ _ _ hp.2.2
  obtain ⟨U, Ls, c0, s0⟩ := A
  dsimp only [Pt.U, Pt.locs, Pt.cells, Pt.slots] at h1 h2 h3 h4 h5 X hn hPc ⊢
  obtain ⟨methY, cY, hmY, hcY, -, hlY, -, -, -, -⟩ := Cond.code_spec hn h2
  obtain ⟨kY, hkY, -⟩ := className_of_methodNamed hn
  have hinitY : kY.init = .initialized := Cond.initialized_spec (findClass_of_methodNamed hn) hkY h3
  have h : At U g.method c below := by rw [hg]; exact X.here
  have hlocals9 : W9 + (maxL + 11) + (headSpec ws rm).room.locals ≤ R.locals := hlocals
  have happ : (headSpec ws rm).appliesLoose y e.platform (U.calling g mk a) = true :=
    Spec.appliesLoose_calling (g := g) h hdg hn hkY hinitY
      (X.room_calling (g := g) (R' := (headSpec ws rm).room) hsize hmY hcY hframes (by rw [hlY]; omega) h4 h5) h1
  obtain ⟨mid, hmid⟩ := h.above
  have hfr : (U.setTop g).frames = (.java g :: mid) ++ below := by rw [State.frames_setTop' g h.top, hmid]; rfl
  obtain ⟨o, s₂, hsteps, -, hend, hq⟩ := Steps.callFree hM p X.admits X.cas X.clock (acts := []) hfr happ hPc trivial
  have hq' : vx_Q Qc XC mc ms free a (U.calling g mk a) o s₂ := hq
  rw [State.frames_setTop' g h.top] at hend
  obtain ⟨g₀, hg0⟩ := Option.isSome_iff_exists.mp h.top
  obtain ⟨r, hr⟩ := State.topJava?_eq_some.mp hg0
  have hr' : (({ U with heap := s₂.heap, slotsUsed := s₂.slotsUsed } : State).setVm s₂.vm).frames = .java g₀ :: r := hr
  rcases hq' with ⟨hqc, L, hfe, hL⟩ | ⟨q, rfl, E, ce, L, hx, hce, hcv, hcl, hW₂, hsm, hL⟩
  · obtain ⟨⟨v, rfl⟩, hW₂, e2, q2, q3, q4, q5, q6⟩ := id hfe
    have e3 : s₂ = ({ (U.calling g mk a).setFrames s₂.frames with heap := s₂.heap, slotsUsed := s₂.slotsUsed } : State).setVm s₂.vm := by
      have : s₂ = ({ s₂ with vm := (U.calling g mk a).vm } : State).setVm s₂.vm := rfl
      rw [e2] at this
      exact this
    obtain ⟨c₂, i₂, len₂, hc₂, hd₂, hf₂⟩ := hend
    have hW' : U.WarmedH s₂.vm := hW₂
    have hcc : c₂ = c := by
      have h1 : s₂.code? g.method = U.code? g.method := by
        rw [State.code?_eq, State.code?_eq, hW'.alike.method?]
      exact Option.some.inj (hc₂.symm.trans (h1.trans h.code))
    subst hcc
    have hlen : len₂ = len := by rw [hdg] at hd₂; cases hd₂; rfl
    subst hlen
    have hs₂ : s₂ = (({ U with heap := s₂.heap, slotsUsed := s₂.slotsUsed } : State).setVm s₂.vm).setTop { g with pc := g.pc + len₂, stack := v.toList ++ g.stack } := by
      refine e3.trans ?_
      rw [hf₂, State.calling_eq h.top, State.setFrames_setFrames, State.setTop_of_frames _ hr', hr]
      rfl
    have hsame : U.sameButNew ({ U with heap := s₂.heap, slotsUsed := s₂.slotsUsed } : State) L mc ms := by
      refine ⟨?_, q2, q3, q4, q5, q6⟩
      obtain ⟨t, ht, -⟩ := State.frames_cons hr
      show ({ U with heap := s₂.heap, slotsUsed := s₂.slotsUsed } : State) = { U.setFrames U.frames with heap := s₂.heap, slotsUsed := s₂.slotsUsed }
      rw [State.setFrames_self ht]
    subst hg
    refine Or.inl ⟨v, ⟨(({ U with heap := s₂.heap, slotsUsed := s₂.slotsUsed } : State).setVm s₂.vm), Ls ++ L, c0 + mc, s0 + ms⟩,
      ⟨X.admits, X.cas, X.clock, X.frames, X.room, X.hears, X.method, X.code, (X.here.setHeapUsed s₂.heap s₂.slotsUsed).setVm hW'.alike, X.tail, State.WarmedH.trans X.warmed hW', X.limits, X.bytes, X.same.trans (hsame.setVm s.vm)⟩,
      ⟨g, mk, s₂, L, rfl, rfl, hqc, rfl, hL, rfl, rfl⟩, ?_⟩
    show Steps p.tables e below _ ((({ U with heap := s₂.heap, slotsUsed := s₂.slotsUsed } : State).setVm s₂.vm).setTop { g with pc := g.pc + len₂, stack := v.toList ++ g.stack })
    rw [← hs₂]
    exact hsteps
  · obtain ⟨e2, q2, q3, q4, q5, q6⟩ := id hsm
    have e3 : s₂ = ({ (U.calling g mk a).setFrames s₂.frames with heap := s₂.heap, slotsUsed := s₂.slotsUsed } : State).setVm s₂.vm := by
      have : s₂ = ({ s₂ with vm := (U.calling g mk a).vm } : State).setVm s₂.vm := rfl
      rw [e2] at this
      exact this
    have hf₂ : s₂.frames = .throwing q :: .java g :: U.frames.tail := hend
    have hW' : U.WarmedH s₂.vm := hW₂
    have hs₂ : s₂ = ((({ U with heap := s₂.heap, slotsUsed := s₂.slotsUsed } : State).setVm s₂.vm).setTop g).pushFrame (.throwing q) := by
      refine e3.trans ?_
      rw [hf₂, State.calling_eq h.top, State.setFrames_setFrames, State.pushFrame, State.frames_setTop _ hr', State.setTop_of_frames _ hr', State.setFrames_setFrames, hr]
      rfl
    have hsame : U.sameButNew ({ U with heap := s₂.heap, slotsUsed := s₂.slotsUsed } : State) L mc ms := by
      refine ⟨?_, q2, q3, q4, q5, q6⟩
      obtain ⟨t, ht, -⟩ := State.frames_cons hr
      show ({ U with heap := s₂.heap, slotsUsed := s₂.slotsUsed } : State) = { U.setFrames U.frames with heap := s₂.heap, slotsUsed := s₂.slotsUsed }
      rw [State.setFrames_self ht]
    subst hg
    refine Or.inr ⟨q, ⟨(({ U with heap := s₂.heap, slotsUsed := s₂.slotsUsed } : State).setVm s₂.vm), Ls ++ L, c0 + mc, s0 + ms⟩,
      ⟨X.admits, X.cas, X.clock, X.frames, X.room, X.hears, X.method, X.code, (X.here.setHeapUsed s₂.heap s₂.slotsUsed).setVm hW'.alike, X.tail, State.WarmedH.trans X.warmed hW', X.limits, X.bytes, X.same.trans (hsame.setVm s.vm)⟩,
      ⟨g, mk, s₂, L, E, ce, rfl, rfl, hx, hce, hcv, hcl, rfl, hL, rfl, rfl⟩, ?_⟩
    show Steps p.tables e below _ (((({ U with heap := s₂.heap, slotsUsed := s₂.slotsUsed } : State).setVm s₂.vm).setTop g).pushFrame (.throwing q))
    rw [← hs₂]
    exact hsteps
end Payer
section Calls
variable {p : Program} {l : Launch} {e : Env} {R : Room} {s : State} {m : MethodId} {args : Array Value} {below : List Frame} {meth : Method} {c : Code} {T : State} {locs : List Loc} {cells slots : Nat}
theorem vx_callV (X : Stand p l e R s m args below meth c T locs cells slots) (hexec : p.tables.exec = Jvm.exec) {own C : String} {index : Nat} {y : MethodName} {bytes : ByteArray} {maxL : Nat} {ret : Option FieldType}
    (hown : s.vm.findClass own = some m.cls) (hlink : (Cond.methodLink own index y).before args s = true) (hinst : (Cond.instanceMethod y).before args s = true) (hsel : (Cond.selects C y y).before args s = true)
    (hcode : (Cond.code y bytes maxL ret).before args s = true) (hy : y.cls ≠ "java/lang/invoke/MethodHandle" ∧ y.cls ≠ "java/lang/invoke/VarHandle")
    {W9 : Nat} {Pre : Pt → Array Value → Prop} {Post : Pt → Array Value → Option Value → Pt → Prop} {PostX : Pt → Array Value → Addr → Pt → Prop} (hK : vx_Back l R p e below s args y 3 W9 Pre Post PostX)
    {b : Addr} {cellB : Cell} (hcell : T.heap[b]? = some cellB) (hobj : cellB.vm.isStatics = false) (hcls : s.vm.findClass C = some cellB.cls)
    {g : JFrame} (hg : g.method = m) (hsize : g.locals.size = c.maxLocals) {argsL rest : List Value} (hlen : ∀ sig, parseMethodDescriptor y.desc = some sig → argsL.length = sig.parameters.length)
    (hstack : g.stack = argsL.reverse ++ .ref b :: rest) (hW : 2 * g.monitorRoom + (rest.map fun v => v.category).sum ≤ W9) (hdg : decode c.code g.pc = .ok (.invokevirtual index, 3))
    (hpre : ∀ vm₁, s.WarmedH vm₁ → Pre ⟨T.setVm vm₁, locs, cells, slots⟩ (Value.ref b :: argsL).toArray) :
    (∃ (v : Option Value) (vm₁ : Vm) (B : Pt), s.WarmedH vm₁ ∧ Stand p l e R s m args below meth c B.U B.locs B.cells B.slots ∧ Post ⟨T.setVm vm₁, locs, cells, slots⟩ (Value.ref b :: argsL).toArray v B ∧
      ∀ target, Steps p.tables e below (B.U.setTop { g with pc := g.pc + 3, stack := v.toList ++ rest }) target → Steps p.tables e below (T.setTop g) target) ∨
    (∃ (q : Addr) (vm₁ : Vm) (B : Pt), s.WarmedH vm₁ ∧ Stand p l e R s m args below meth c B.U B.locs B.cells B.slots ∧ PostX ⟨T.setVm vm₁, locs, cells, slots⟩ (Value.ref b :: argsL).toArray q B ∧
      Steps p.tables e below (T.setTop g) ((B.U.setTop { g with stack := rest }).pushFrame (.throwing q))) := by
  obtain ⟨mk, methM, hnamed, hmethM, hstM, habM⟩ := Cond.instanceMethod_spec hinst
  obtain ⟨methM', cM, hmethM', -, -, -, -, -, -, hsigM⟩ := Cond.code_spec hnamed hcode
  cases hmethM.symm.trans hmethM'
  obtain ⟨c2, r2, m2, q1, q2, q3, q4, kP, hkP, hkPi⟩ := Cond.selects_spec hsel
  cases hcls.symm.trans q1
  cases (State.methodFound?_of_named hnamed hy).symm.trans q2
  cases hnamed.symm.trans q3
  have hselP : selectMethod e.platform s.vm cellB.cls mk = .method mk := by rw [Launch.admits_selectMethod X.admits]; exact q4
  obtain ⟨vm₁, X₁, hstep₁⟩ := X.invokevirtual hexec hown hlink hnamed hmethM hstM hkP hkPi hy (a := b) (cell := cellB) hcell
    (fun z h => by rw [h] at hobj; cases hobj) hselP hmethM habM hkP hkPi (g := g) hg (argsL := argsL) (rest := rest) (hlen _ hsigM) hstack hdg
  rcases hK m meth c ⟨T.setVm vm₁, locs, cells, slots⟩ { g with stack := rest } (.invokevirtual index) mk (Value.ref b :: argsL).toArray X₁ hg hsize hdg hW (X₁.named hnamed) (hpre vm₁ X₁.warmed) with ⟨v, B, X', hpost, hsteps⟩ | ⟨q, B, X', hpost, hsteps⟩
  · exact Or.inl ⟨v, vm₁, B, X₁.warmed, X', hpost, fun target h => hstep₁ _ fun acts => by rw [doInvoke_state]; exact hsteps.trans h⟩
  · exact Or.inr ⟨q, vm₁, B, X₁.warmed, X', hpost, hstep₁ _ fun acts => by rw [doInvoke_state]; exact hsteps⟩
theorem vx_callS (X : Stand p l e R s m args below meth c T locs cells slots) (hexec : p.tables.exec = Jvm.exec) {own : String} {index : Nat} {y : MethodName} {bytes : ByteArray} {maxL : Nat} {ret : Option FieldType}
    (hown : s.vm.findClass own = some m.cls) (hlink : (Cond.methodLink own index y).before args s = true) (hstat : (Cond.static y).before args s = true) (hinit : (Cond.initialized y.cls).before args s = true)
    (hcode : (Cond.code y bytes maxL ret).before args s = true) (hy : y.cls ≠ "java/lang/invoke/MethodHandle" ∧ y.cls ≠ "java/lang/invoke/VarHandle")
    {W9 : Nat} {Pre : Pt → Array Value → Prop} {Post : Pt → Array Value → Option Value → Pt → Prop} {PostX : Pt → Array Value → Addr → Pt → Prop} (hK : vx_Back l R p e below s args y 3 W9 Pre Post PostX)
    {g : JFrame} (hg : g.method = m) (hsize : g.locals.size = c.maxLocals) {argsL rest : List Value} (hlen : ∀ sig, parseMethodDescriptor y.desc = some sig → argsL.length = sig.parameters.length)
    (hstack : g.stack = argsL.reverse ++ rest) (hW : 2 * g.monitorRoom + (rest.map fun v => v.category).sum ≤ W9) (hdg : decode c.code g.pc = .ok (.invokestatic index, 3))
    (hpre : ∀ vm₁, s.WarmedH vm₁ → Pre ⟨T.setVm vm₁, locs, cells, slots⟩ argsL.toArray) :
    (∃ (v : Option Value) (vm₁ : Vm) (B : Pt), s.WarmedH vm₁ ∧ Stand p l e R s m args below meth c B.U B.locs B.cells B.slots ∧ Post ⟨T.setVm vm₁, locs, cells, slots⟩ argsL.toArray v B ∧
      ∀ target, Steps p.tables e below (B.U.setTop { g with pc := g.pc + 3, stack := v.toList ++ rest }) target → Steps p.tables e below (T.setTop g) target) ∨
    (∃ (q : Addr) (vm₁ : Vm) (B : Pt), s.WarmedH vm₁ ∧ Stand p l e R s m args below meth c B.U B.locs B.cells B.slots ∧ PostX ⟨T.setVm vm₁, locs, cells, slots⟩ argsL.toArray q B ∧
      Steps p.tables e below (T.setTop g) ((B.U.setTop { g with stack := rest }).pushFrame (.throwing q))) := by
  obtain ⟨mk, hnamed⟩ := Cond.code_named hcode
  obtain ⟨methM, cM, hmethM, -, -, -, -, -, -, hsigM⟩ := Cond.code_spec hnamed hcode
  have hstatic : methM.isStatic = true := Cond.static_spec hnamed hmethM hstat
  obtain ⟨kP, hkP, -⟩ := className_of_methodNamed hnamed
  have hinitP : kP.init = .initialized := Cond.initialized_spec (findClass_of_methodNamed hnamed) hkP hinit
  obtain ⟨vm₁, X₁, hstep₁⟩ := X.invokestatic hexec hown hlink hnamed hmethM hstatic hkP hinitP hy (g := g) hg (argsL := argsL) (rest := rest) (hlen _ hsigM) hstack hdg
  rcases hK m meth c ⟨T.setVm vm₁, locs, cells, slots⟩ { g with stack := rest } (.invokestatic index) mk argsL.toArray X₁ hg hsize hdg hW (X₁.named hnamed) (hpre vm₁ X₁.warmed) with ⟨v, B, X', hpost, hsteps⟩ | ⟨q, B, X', hpost, hsteps⟩
  · exact Or.inl ⟨v, vm₁, B, X₁.warmed, X', hpost, fun target h => hstep₁ _ fun acts => by rw [doInvoke_state]; exact hsteps.trans h⟩
  · exact Or.inr ⟨q, vm₁, B, X₁.warmed, X', hpost, hstep₁ _ fun acts => by rw [doInvoke_state]; exact hsteps⟩
end Calls
theorem vx_cls {s : State} {T : State} {vm₁ : Vm} {E : String} {k : ClassId} (hW : s.WarmedH vm₁) (h : (T.setVm vm₁).vm.findClass E = some k) : s.vm.findClass E = some k := by
  have h1 : vm₁.findClass E = some k := h
  rw [hW.alike.findClass] at h1
  exact h1
/-- the method's frame g, with q thrown over it -/
def vx_W (p : Program) (l : Launch) (e : Env) (R : Room) (s : State) (m : MethodId) (args : Array Value) (below : List Frame) (meth : Method) (c : Code) (H : Heap) (locs : List Loc) (cells slots : Nat) (Q : State → Prop) (g : JFrame) (q : Addr) : Prop :=
  ∀ T : State, T.heap = H → Stand p l e R s m args below meth c T locs cells slots → ∃ t, Steps p.tables e below ((T.setTop g).pushFrame (.throwing q)) t ∧ Q t
def vx_Run (p : Program) (l : Launch) (e : Env) (R : Room) (s : State) (m : MethodId) (args : Array Value) (below : List Frame) (meth : Method) (c : Code) (H : Heap) (locs : List Loc) (cells slots mc ms : Nat) (g : JFrame) (rest : List Value) (Qa : State → Outcome → State → Prop) (XC : String → State → State → Prop) (free : Addr → Prop) : Prop :=
  ∀ T : State, T.heap = H → Stand p l e R s m args below meth c T locs cells slots →
    (∃ (v : Option Value) (st₀ t T' : State) (L : List Loc), st₀.heap = H ∧ Stand p l e R s m args below meth c T' (locs ++ L) (cells + mc) (slots + ms) ∧ (∀ q ∈ L, free q.base) ∧ T'.heap = t.heap ∧ T'.vm = t.vm ∧ Qa st₀ (.returned v) t ∧
      Goes p e below T g T' { g with pc := g.pc + 3, stack := v.toList ++ rest }) ∨
    (∃ (q : Addr) (st₀ t T' : State) (L : List Loc) (E : String) (ce : Cell), st₀.heap = H ∧ Stand p l e R s m args below meth c T' (locs ++ L) (cells + mc) (slots + ms) ∧ (∀ z ∈ L, free z.base) ∧ T'.heap = t.heap ∧ T'.vm = t.vm ∧ XC E st₀ t ∧ t.heap[q]? = some ce ∧ ce.vm = .none ∧ s.vm.findClass E = some ce.cls ∧
      Steps p.tables e below (T.setTop g) ((T'.setTop { g with stack := rest }).pushFrame (.throwing q)))
def vx_X {S : Type} (px : S → Prop) (B : String → S → State → Prop) (A : Nat → Prop) : String → State → State → Prop := fun E st t => ∃ u : S, px u ∧ B E u t ∧ va_F A st t
section Runs
variable {p : Program} {l : Launch} {e : Env} {R : Room} {s : State} {m : MethodId} {args : Array Value} {below : List Frame} {meth : Method} {c : Code} {H : Heap} {locs : List Loc} {cells slots : Nat}
variable {y : MethodName} {bytes cc : ByteArray} {maxL nL mc ms n index : Nat} {ret : Option FieldType} {ws : List Cond} {rm : Room} {Pc : Array Value → State → Prop} {Qc : Array Value → State → Outcome → State → Prop} {XC : String → State → State → Prop} {free : Addr → Prop} {Ts : List Cond} {own C : String} {b : Addr} {As rest : List Value} {g : JFrame}
theorem vx_callBack (cb : CallB R s args own index y bytes maxL ret ws rm mc ms n) (hM : vx_Met l y ws rm Pc Qc XC mc ms free) (hbl : FrameBlind Pc) : vx_Back l R p e below s args y 3 8 (PreOf R mc ms Pc) (PostOf Qc mc ms free) (vx_Post XC mc ms free) := by
  obtain ⟨hrc, hrs, hfr, hlo, hws, hcw, -, hini, -⟩ := cb
  exact vx_back (bytes := bytes) (maxL := maxL) (ret := ret) hM hbl hrc hrs hfr hlo hws hcw (fun a' U hW => word_at hW (Or.inl (by first | rfl | simp [Cond.onTables, Cond.keeps, Cond.steady])) hini)
theorem vx_runV (S : CallFix p m c cc nL s args Ts own) (hM : vx_Met l y ws rm Pc Qc XC mc ms free) (cw : CallW R s args own C index y bytes maxL ret ws rm mc ms n) (hp : PreV s H C b Pc As)
    (hg : g.method = m) (hn : As.length = n) (hsize : g.locals.size = nL) (hstack : g.stack = As.reverse ++ .ref b :: rest) (hW : 2 * g.monitorRoom + (rest.map fun v => v.category).sum ≤ 8) (hdg : decode cc g.pc = .ok (.invokevirtual index, 3)) (hf : cells + mc ≤ R.cells ∧ slots + ms ≤ R.slots) :
    vx_Run p l e R s m args below meth c H locs cells slots mc ms g rest (Qc (Value.ref b :: As).toArray) XC free := by
  have hK : vx_Back l R p e below s args y 3 8 (PreOf R mc ms Pc) (PostOf Qc mc ms free) (vx_Post XC mc ms free) := vx_callBack cw.1 hM hp.1
  obtain ⟨⟨-, -, -, -, -, -, hcode, -, hy, hlen, hl⟩, hin, hse⟩ := cw
  obtain ⟨hx, hb, hml, ho, -⟩ := S
  obtain ⟨-, ⟨cellB, hcB, hoB, hclB⟩, hPc⟩ := hp
  intro T hT X
  rcases vx_callV X hx (C := C) (bytes := bytes) (maxL := maxL) (ret := ret) ho hl hin hse hcode hy hK (by rw [hT]; exact hcB) hoB hclB hg (hsize.trans hml.symm) (argsL := As) (rest := rest) (fun sig h => hn.trans (hlen sig h)) hstack hW (by rw [hb]; exact hdg)
    (fun vm₁ hW₁ => ⟨hf.1, hf.2, hPc (T.setVm vm₁) hT hW₁⟩) with ⟨v, vm₁, ⟨U', l2, c2, s2⟩, hW₁, X', ⟨g', mk, t, L, e1, e2, hq, h1, hL, h2, h3⟩, st⟩ | ⟨q, vm₁, ⟨U', l2, c2, s2⟩, hW₁, X', ⟨g', mk, t, L, E, ce, e1, e2, hq, hce, hcv, hcl, h1, hL, h2, h3⟩, st⟩
  · dsimp only [Pt.U, Pt.locs, Pt.cells, Pt.slots] at X' e1 e2 h1 h2 h3 st
    subst h1; subst h2; subst h3
    exact Or.inl ⟨v, (T.setVm vm₁).calling g' mk (Value.ref b :: As).toArray, t, U', L, hT, X', hL, e1, e2, hq, st⟩
  · dsimp only [Pt.U, Pt.locs, Pt.cells, Pt.slots] at X' e1 e2 h1 h2 h3 st hcl
    subst h1; subst h2; subst h3
    exact Or.inr ⟨q, (T.setVm vm₁).calling g' mk (Value.ref b :: As).toArray, t, U', L, E, ce, hT, X', hL, e1, e2, hq, hce, hcv, vx_cls hW₁ hcl, st⟩
theorem vx_runS (S : CallFix p m c cc nL s args Ts own) (hM : vx_Met l y ws rm Pc Qc XC mc ms free) (cw : CallB R s args own index y bytes maxL ret ws rm mc ms n ∧ (Cond.static y).before args s = true) (hp : PreS s H Pc As)
    (hg : g.method = m) (hn : As.length = n) (hsize : g.locals.size = nL) (hstack : g.stack = As.reverse ++ rest) (hW : 2 * g.monitorRoom + (rest.map fun v => v.category).sum ≤ 8) (hdg : decode cc g.pc = .ok (.invokestatic index, 3)) (hf : cells + mc ≤ R.cells ∧ slots + ms ≤ R.slots) :
    vx_Run p l e R s m args below meth c H locs cells slots mc ms g rest (Qc As.toArray) XC free := by
  have hK : vx_Back l R p e below s args y 3 8 (PreOf R mc ms Pc) (PostOf Qc mc ms free) (vx_Post XC mc ms free) := vx_callBack cw.1 hM hp.1
  obtain ⟨⟨-, -, -, -, -, -, hcode, hini, hy, hlen, hl⟩, hstt⟩ := cw
  obtain ⟨hx, hb, hml, ho, -⟩ := S
  intro T hT X
  rcases vx_callS X hx (bytes := bytes) (maxL := maxL) (ret := ret) ho hl hstt hini hcode hy hK hg (hsize.trans hml.symm) (argsL := As) (rest := rest) (fun sig h => hn.trans (hlen sig h)) hstack hW (by rw [hb]; exact hdg)
    (fun vm₁ hW₁ => ⟨hf.1, hf.2, hp.2 (T.setVm vm₁) hT hW₁⟩) with ⟨v, vm₁, ⟨U', l2, c2, s2⟩, hW₁, X', ⟨g', mk, t, L, e1, e2, hq, h1, hL, h2, h3⟩, st⟩ | ⟨q, vm₁, ⟨U', l2, c2, s2⟩, hW₁, X', ⟨g', mk, t, L, E, ce, e1, e2, hq, hce, hcv, hcl, h1, hL, h2, h3⟩, st⟩
  · dsimp only [Pt.U, Pt.locs, Pt.cells, Pt.slots] at X' e1 e2 h1 h2 h3 st
    subst h1; subst h2; subst h3
    exact Or.inl ⟨v, (T.setVm vm₁).calling g' mk As.toArray, t, U', L, hT, X', hL, e1, e2, hq, st⟩
  · dsimp only [Pt.U, Pt.locs, Pt.cells, Pt.slots] at X' e1 e2 h1 h2 h3 st hcl
    subst h1; subst h2; subst h3
    exact Or.inr ⟨q, (T.setVm vm₁).calling g' mk As.toArray, t, U', L, E, ce, hT, X', hL, e1, e2, hq, hce, hcv, vx_cls hW₁ hcl, st⟩
end Runs
section Rows
variable {p : Program} {l : Launch} {e : Env} {R : Room} {s : State} {m : MethodId} {args : Array Value} {below : List Frame} {meth : Method} {c : Code} {H : Heap} {locs : List Loc} {cells slots : Nat} {Q : State → Prop}
variable {mc ms : Nat} {free : Addr → Prop} {A0 A1 : Nat → Prop} {H0 : Heap} {a : Array Value} {pc : Nat} {ls : Array Slot} {st0 rest : List Value}
theorem vx_keep {st₀ t T' : State} {L : List Loc} (h0 : st₀.heap = H) (e1 : T'.heap = t.heap) (hS : va_S A0 H0 H locs) (hA : ∀ q, q < H.size → A1 q → A0 q) (hf : ∀ q, free q → A0 q) (hL : ∀ q ∈ L, free q.base) (hF : va_F A1 st₀ t) :
    H.size ≤ T'.heap.size ∧ (∀ q : Nat, q < H.size → ¬ A1 q → T'.heap[q]? = H[q]?) ∧ va_S A0 H0 T'.heap (locs ++ L) := by
  obtain ⟨hz, hk⟩ := hF
  rw [h0] at hz hk
  exact ⟨by rw [e1]; exact hz, fun q h1 h2 => by rw [e1]; exact hk q h1 h2,
    ⟨Nat.le_trans hS.1 (by rw [e1]; exact hz), fun q h1 h2 => by rw [e1, hk q (Nat.lt_of_lt_of_le h1 hS.1) (fun z => h2 (hA q (Nat.lt_of_lt_of_le h1 hS.1) z))]; exact hS.2.1 q h1 h2, fun q hq => by
      rcases List.mem_append.mp hq with h | h
      · exact hS.2.2 q h
      · exact hf _ (hL q h)⟩⟩
theorem vx_calli {S SX : Type} {post : Int32 → S → Prop} {px : SX → Prop} {B : S → State → Prop} {BX : String → SX → State → Prop} {AX : Nat → Prop} (hr : vx_Run p l e R s m args below meth c H locs cells slots mc ms (F0 m pc ls st0) rest (va_Qi post B A1 a) (vx_X px BX AX) free) (hS : va_S A0 H0 H locs) (hA : ∀ q, q < H.size → A1 q → A0 q) (hf : ∀ q, free q → A0 q) (hAX : ∀ q, q < H.size → AX q → A0 q)
    (kx : ∀ (E : String) (ce : Cell) (q9 : Addr) (u : SX) (t : State) (H1 : Heap) (locs1 : List Loc), t.heap = H1 → s.vm.Alike t.vm → px u → BX E u t → H.size ≤ H1.size → (∀ q : Nat, q < H.size → ¬ AX q → H1[q]? = H[q]?) → va_S A0 H0 H1 locs1 → H1[q9]? = some ce → ce.vm = .none → s.vm.findClass E = some ce.cls → vx_W p l e R s m args below meth c H1 locs1 (cells + mc) (slots + ms) Q (F0 m pc ls rest) q9)
    (kk : ∀ (r : Int32) (u : S) (t : State) (H1 : Heap) (locs1 : List Loc), t.heap = H1 → s.vm.Alike t.vm → post r u → B u t → H.size ≤ H1.size → (∀ q : Nat, q < H.size → ¬ A1 q → H1[q]? = H[q]?) → va_S A0 H0 H1 locs1 → W p l e R s m args below meth c H1 locs1 (cells + mc) (slots + ms) Q (F0 m (pc + 3) ls (.int r :: rest))) : W p l e R s m args below meth c H locs cells slots Q (F0 m pc ls st0) := by
  intro T hT X
  rcases hr T hT X with ⟨v, st₀, t, T', L, h0, X', hL, e1, e2, ⟨⟨r, u, hv, hp, hb⟩, hF⟩, st⟩ | ⟨q, st₀, t, T', L, E, ce, h0, X', hL, e1, e2, ⟨u, hp, hb, hF⟩, hce, hcv, hcl, st⟩
  · cases hv
    obtain ⟨k1, k2, k3⟩ := vx_keep h0 e1 hS hA hf hL hF
    obtain ⟨t2, a1, b1⟩ := kk r u t T'.heap (locs ++ L) e1.symm (by rw [← e2]; exact X'.warmed.alike) hp hb k1 k2 k3 T' rfl X'
    exact ⟨t2, st t2 a1, b1⟩
  · obtain ⟨k1, k2, k3⟩ := vx_keep h0 e1 hS hAX hf hL hF
    obtain ⟨t2, a1, b1⟩ := kx E ce q u t T'.heap (locs ++ L) e1.symm (by rw [← e2]; exact X'.warmed.alike) hp hb k1 k2 k3 (by rw [e1]; exact hce) hcv hcl T' rfl X'
    exact ⟨t2, st.trans a1, b1⟩
theorem vx_calll {S SX : Type} {post : Int64 → S → Prop} {px : SX → Prop} {B : S → State → Prop} {BX : String → SX → State → Prop} {AX : Nat → Prop} (hr : vx_Run p l e R s m args below meth c H locs cells slots mc ms (F0 m pc ls st0) rest (va_Ql post B A1 a) (vx_X px BX AX) free) (hS : va_S A0 H0 H locs) (hA : ∀ q, q < H.size → A1 q → A0 q) (hf : ∀ q, free q → A0 q) (hAX : ∀ q, q < H.size → AX q → A0 q)
    (kx : ∀ (E : String) (ce : Cell) (q9 : Addr) (u : SX) (t : State) (H1 : Heap) (locs1 : List Loc), t.heap = H1 → s.vm.Alike t.vm → px u → BX E u t → H.size ≤ H1.size → (∀ q : Nat, q < H.size → ¬ AX q → H1[q]? = H[q]?) → va_S A0 H0 H1 locs1 → H1[q9]? = some ce → ce.vm = .none → s.vm.findClass E = some ce.cls → vx_W p l e R s m args below meth c H1 locs1 (cells + mc) (slots + ms) Q (F0 m pc ls rest) q9)
    (kk : ∀ (r : Int64) (u : S) (t : State) (H1 : Heap) (locs1 : List Loc), t.heap = H1 → s.vm.Alike t.vm → post r u → B u t → H.size ≤ H1.size → (∀ q : Nat, q < H.size → ¬ A1 q → H1[q]? = H[q]?) → va_S A0 H0 H1 locs1 → W p l e R s m args below meth c H1 locs1 (cells + mc) (slots + ms) Q (F0 m (pc + 3) ls (.long r :: rest))) : W p l e R s m args below meth c H locs cells slots Q (F0 m pc ls st0) := by
  intro T hT X
  rcases hr T hT X with ⟨v, st₀, t, T', L, h0, X', hL, e1, e2, ⟨⟨r, u, hv, hp, hb⟩, hF⟩, st⟩ | ⟨q, st₀, t, T', L, E, ce, h0, X', hL, e1, e2, ⟨u, hp, hb, hF⟩, hce, hcv, hcl, st⟩
  · cases hv
    obtain ⟨k1, k2, k3⟩ := vx_keep h0 e1 hS hA hf hL hF
    obtain ⟨t2, a1, b1⟩ := kk r u t T'.heap (locs ++ L) e1.symm (by rw [← e2]; exact X'.warmed.alike) hp hb k1 k2 k3 T' rfl X'
    exact ⟨t2, st t2 a1, b1⟩
  · obtain ⟨k1, k2, k3⟩ := vx_keep h0 e1 hS hAX hf hL hF
    obtain ⟨t2, a1, b1⟩ := kx E ce q u t T'.heap (locs ++ L) e1.symm (by rw [← e2]; exact X'.warmed.alike) hp hb k1 k2 k3 (by rw [e1]; exact hce) hcv hcl T' rfl X'
    exact ⟨t2, st.trans a1, b1⟩
theorem vx_callf {S SX : Type} {post : UInt32 → S → Prop} {px : SX → Prop} {B : S → State → Prop} {BX : String → SX → State → Prop} {AX : Nat → Prop} (hr : vx_Run p l e R s m args below meth c H locs cells slots mc ms (F0 m pc ls st0) rest (va_Qf post B A1 a) (vx_X px BX AX) free) (hS : va_S A0 H0 H locs) (hA : ∀ q, q < H.size → A1 q → A0 q) (hf : ∀ q, free q → A0 q) (hAX : ∀ q, q < H.size → AX q → A0 q)
    (kx : ∀ (E : String) (ce : Cell) (q9 : Addr) (u : SX) (t : State) (H1 : Heap) (locs1 : List Loc), t.heap = H1 → s.vm.Alike t.vm → px u → BX E u t → H.size ≤ H1.size → (∀ q : Nat, q < H.size → ¬ AX q → H1[q]? = H[q]?) → va_S A0 H0 H1 locs1 → H1[q9]? = some ce → ce.vm = .none → s.vm.findClass E = some ce.cls → vx_W p l e R s m args below meth c H1 locs1 (cells + mc) (slots + ms) Q (F0 m pc ls rest) q9)
    (kk : ∀ (r : UInt32) (u : S) (t : State) (H1 : Heap) (locs1 : List Loc), t.heap = H1 → s.vm.Alike t.vm → post r u → B u t → H.size ≤ H1.size → (∀ q : Nat, q < H.size → ¬ A1 q → H1[q]? = H[q]?) → va_S A0 H0 H1 locs1 → W p l e R s m args below meth c H1 locs1 (cells + mc) (slots + ms) Q (F0 m (pc + 3) ls (.float r :: rest))) : W p l e R s m args below meth c H locs cells slots Q (F0 m pc ls st0) := by
  intro T hT X
  rcases hr T hT X with ⟨v, st₀, t, T', L, h0, X', hL, e1, e2, ⟨⟨r, u, hv, hp, hb⟩, hF⟩, st⟩ | ⟨q, st₀, t, T', L, E, ce, h0, X', hL, e1, e2, ⟨u, hp, hb, hF⟩, hce, hcv, hcl, st⟩
  · cases hv
    obtain ⟨k1, k2, k3⟩ := vx_keep h0 e1 hS hA hf hL hF
    obtain ⟨t2, a1, b1⟩ := kk r u t T'.heap (locs ++ L) e1.symm (by rw [← e2]; exact X'.warmed.alike) hp hb k1 k2 k3 T' rfl X'
    exact ⟨t2, st t2 a1, b1⟩
  · obtain ⟨k1, k2, k3⟩ := vx_keep h0 e1 hS hAX hf hL hF
    obtain ⟨t2, a1, b1⟩ := kx E ce q u t T'.heap (locs ++ L) e1.symm (by rw [← e2]; exact X'.warmed.alike) hp hb k1 k2 k3 (by rw [e1]; exact hce) hcv hcl T' rfl X'
    exact ⟨t2, st.trans a1, b1⟩
theorem vx_calld {S SX : Type} {post : UInt64 → S → Prop} {px : SX → Prop} {B : S → State → Prop} {BX : String → SX → State → Prop} {AX : Nat → Prop} (hr : vx_Run p l e R s m args below meth c H locs cells slots mc ms (F0 m pc ls st0) rest (va_Qd post B A1 a) (vx_X px BX AX) free) (hS : va_S A0 H0 H locs) (hA : ∀ q, q < H.size → A1 q → A0 q) (hf : ∀ q, free q → A0 q) (hAX : ∀ q, q < H.size → AX q → A0 q)
    (kx : ∀ (E : String) (ce : Cell) (q9 : Addr) (u : SX) (t : State) (H1 : Heap) (locs1 : List Loc), t.heap = H1 → s.vm.Alike t.vm → px u → BX E u t → H.size ≤ H1.size → (∀ q : Nat, q < H.size → ¬ AX q → H1[q]? = H[q]?) → va_S A0 H0 H1 locs1 → H1[q9]? = some ce → ce.vm = .none → s.vm.findClass E = some ce.cls → vx_W p l e R s m args below meth c H1 locs1 (cells + mc) (slots + ms) Q (F0 m pc ls rest) q9)
    (kk : ∀ (r : UInt64) (u : S) (t : State) (H1 : Heap) (locs1 : List Loc), t.heap = H1 → s.vm.Alike t.vm → post r u → B u t → H.size ≤ H1.size → (∀ q : Nat, q < H.size → ¬ A1 q → H1[q]? = H[q]?) → va_S A0 H0 H1 locs1 → W p l e R s m args below meth c H1 locs1 (cells + mc) (slots + ms) Q (F0 m (pc + 3) ls (.double r :: rest))) : W p l e R s m args below meth c H locs cells slots Q (F0 m pc ls st0) := by
  intro T hT X
  rcases hr T hT X with ⟨v, st₀, t, T', L, h0, X', hL, e1, e2, ⟨⟨r, u, hv, hp, hb⟩, hF⟩, st⟩ | ⟨q, st₀, t, T', L, E, ce, h0, X', hL, e1, e2, ⟨u, hp, hb, hF⟩, hce, hcv, hcl, st⟩
  · cases hv
    obtain ⟨k1, k2, k3⟩ := vx_keep h0 e1 hS hA hf hL hF
    obtain ⟨t2, a1, b1⟩ := kk r u t T'.heap (locs ++ L) e1.symm (by rw [← e2]; exact X'.warmed.alike) hp hb k1 k2 k3 T' rfl X'
    exact ⟨t2, st t2 a1, b1⟩
  · obtain ⟨k1, k2, k3⟩ := vx_keep h0 e1 hS hAX hf hL hF
    obtain ⟨t2, a1, b1⟩ := kx E ce q u t T'.heap (locs ++ L) e1.symm (by rw [← e2]; exact X'.warmed.alike) hp hb k1 k2 k3 (by rw [e1]; exact hce) hcv hcl T' rfl X'
    exact ⟨t2, st.trans a1, b1⟩
theorem vx_callv {S SX : Type} {post : S → Prop} {px : SX → Prop} {B : S → State → Prop} {BX : String → SX → State → Prop} {AX : Nat → Prop} (hr : vx_Run p l e R s m args below meth c H locs cells slots mc ms (F0 m pc ls st0) rest (va_Qv post B A1 a) (vx_X px BX AX) free) (hS : va_S A0 H0 H locs) (hA : ∀ q, q < H.size → A1 q → A0 q) (hf : ∀ q, free q → A0 q) (hAX : ∀ q, q < H.size → AX q → A0 q)
    (kx : ∀ (E : String) (ce : Cell) (q9 : Addr) (u : SX) (t : State) (H1 : Heap) (locs1 : List Loc), t.heap = H1 → s.vm.Alike t.vm → px u → BX E u t → H.size ≤ H1.size → (∀ q : Nat, q < H.size → ¬ AX q → H1[q]? = H[q]?) → va_S A0 H0 H1 locs1 → H1[q9]? = some ce → ce.vm = .none → s.vm.findClass E = some ce.cls → vx_W p l e R s m args below meth c H1 locs1 (cells + mc) (slots + ms) Q (F0 m pc ls rest) q9)
    (kk : ∀ (u : S) (t : State) (H1 : Heap) (locs1 : List Loc), t.heap = H1 → s.vm.Alike t.vm → post u → B u t → H.size ≤ H1.size → (∀ q : Nat, q < H.size → ¬ A1 q → H1[q]? = H[q]?) → va_S A0 H0 H1 locs1 → W p l e R s m args below meth c H1 locs1 (cells + mc) (slots + ms) Q (F0 m (pc + 3) ls (rest))) : W p l e R s m args below meth c H locs cells slots Q (F0 m pc ls st0) := by
  intro T hT X
  rcases hr T hT X with ⟨v, st₀, t, T', L, h0, X', hL, e1, e2, ⟨⟨u, hv, hp, hb⟩, hF⟩, st⟩ | ⟨q, st₀, t, T', L, E, ce, h0, X', hL, e1, e2, ⟨u, hp, hb, hF⟩, hce, hcv, hcl, st⟩
  · cases hv
    obtain ⟨k1, k2, k3⟩ := vx_keep h0 e1 hS hA hf hL hF
    obtain ⟨t2, a1, b1⟩ := kk u t T'.heap (locs ++ L) e1.symm (by rw [← e2]; exact X'.warmed.alike) hp hb k1 k2 k3 T' rfl X'
    exact ⟨t2, st t2 a1, b1⟩
  · obtain ⟨k1, k2, k3⟩ := vx_keep h0 e1 hS hAX hf hL hF
    obtain ⟨t2, a1, b1⟩ := kx E ce q u t T'.heap (locs ++ L) e1.symm (by rw [← e2]; exact X'.warmed.alike) hp hb k1 k2 k3 (by rw [e1]; exact hce) hcv hcl T' rfl X'
    exact ⟨t2, st.trans a1, b1⟩
/-- caught by the row x of this method's table; the rows ahead don't take it -/
theorem vx_catch {own name : String} {E : String} {ce : Cell} {q : Addr} (hown : s.vm.findClass own = some m.cls) (pre : List ExceptionTableEntry) (x : ExceptionTableEntry) (suf : List ExceptionTableEntry) (hsplit : c.exceptionTable.toList = pre ++ x :: suf)
    (hpass : ∀ z ∈ pre, covers z pc = false ∨ (z.catchType ≠ 0 ∧ ∃ nm : String, (Cond.classLink own z.catchType nm).before args s = true ∧ va_Nc E nm s)) (hx : covers x pc = true) (h0 : x.catchType ≠ 0)
    (hlink : (Cond.classLink own x.catchType name).before args s = true) (hcast : (Cond.castable E name).before args s = true) (hcell : H[q]? = some ce) (hv : ce.vm = .none) (hcl : s.vm.findClass E = some ce.cls)
    (kk : W p l e R s m args below meth c H locs cells slots Q (F0 m x.handlerPc ls [.ref q])) : vx_W p l e R s m args below meth c H locs cells slots Q (F0 m pc ls rest) q := by
  intro T hT X
  have hpl : e.platform.magicAccessors = ({} : Platform).magicAccessors := by rw [X.admits.platform]
  obtain ⟨c3, c4, hc3, hc4, hasg⟩ := Cond.castable_spec hcast
  cases Option.some.inj (hc3.symm.trans hcl)
  obtain ⟨c5, hc5, hcl5⟩ := Cond.classLink_spec hown hlink e.platform hpl
  cases Option.some.inj (hc4.symm.trans hc5)
  obtain ⟨vm', X', st⟩ := X.thenCaughtThrough q (g := F0 m pc ls rest) rfl (Steps.refl _) (by rw [hT]; exact hcell) (by rw [hv]; rfl) (by obtain ⟨k9, h9, -⟩ := Vm.findClass_spec hcl; exact ⟨k9, h9⟩) pre x suf hsplit
    (fun z hz => by
      rcases hpass z hz with h | ⟨hz0, nm, hl1, hn1⟩
      · exact Or.inl h
      · obtain ⟨c6, hc6, hcl6⟩ := Cond.classLink_spec hown hl1 e.platform hpl
        obtain ⟨a8, b8, h1, h2, h3⟩ := hn1
        cases Option.some.inj (h1.symm.trans hcl)
        cases Option.some.inj (h2.symm.trans hc6)
        exact Or.inr ⟨hz0, _, hcl6, h3⟩) hx (Or.inr ⟨h0, c4, hcl5, hasg⟩)
  obtain ⟨t, a1, b1⟩ := kk (T.setVm vm') hT X'
  exact ⟨t, st.trans a1, b1⟩
end Rows
section Ends
variable {p : Program} {l : Launch} {e : Env} {R : Room} {s : State} {m : MethodId} {args : Array Value} {below : List Frame} {meth : Method} {c : Code} {H : Heap} {locs : List Loc} {cells slots : Nat} {Q : State → Prop}
variable {mc ms : Nat} {free : Addr → Prop} {A0 A1 : Nat → Prop} {H0 : Heap} {a : Array Value} {ls : Array Slot} {st0 rest : List Value}
variable {Qc : Array Value → State → Outcome → State → Prop} {XC : String → State → State → Prop}
/-- what a body that may throw owes at its end -/
def vx_MQ (below : List Frame) (Qc : Array Value → State → Outcome → State → Prop) (XC : String → State → State → Prop) (a : Array Value) (s : State) (mc ms : Nat) (free : Addr → Prop) : State → Prop := fun t =>
  ∃ o, t.status = .running ∧ Ended t below o ∧ vx_Q Qc XC mc ms free a s o t
theorem vx_ret {g : JFrame} {mc ms : Nat} (k : W p l e R s m args below meth c H locs cells slots (MQ below Qc args s mc ms free) g) : W p l e R s m args below meth c H locs cells slots (vx_MQ below Qc XC args s mc ms free) g := by
  intro T hT X
  obtain ⟨t, a1, o, b1, b2, b3, b4⟩ := k T hT X
  exact ⟨t, a1, o, b1, b2, Or.inl ⟨b3, b4⟩⟩
/-- not caught here: it goes on to the caller -/
theorem vx_widen {g : JFrame} {q : Addr} {k n : Nat} (h1 : cells ≤ k) (h2 : slots ≤ n) (kk : vx_W p l e R s m args below meth c H locs k n Q g q) : vx_W p l e R s m args below meth c H locs cells slots Q g q := fun T hT X => kk T hT (stand_widen X h1 h2)
theorem vx_out {pc : Nat} {E : String} {ce : Cell} {q : Addr} {mc ms : Nat} (hout : ∀ x ∈ c.exceptionTable.toList, covers x pc = false) (hlocks : meth.locks = false) (hcell : H[q]? = some ce) (hv : ce.vm = .none) (hcl : s.vm.findClass E = some ce.cls)
    (hx : ∀ t : State, t.heap = H → s.vm.Alike t.vm → XC E s t) (hf : ∀ z ∈ locs, free z.base) (hc : cells ≤ mc) (hs : slots ≤ ms) :
    vx_W p l e R s m args below meth c H locs cells slots (vx_MQ below Qc XC args s mc ms free) (F0 m pc ls rest) q := by
  intro T hT X
  obtain ⟨st1, hrun, hend, hW, hsm⟩ := X.leaveThrown q (g := F0 m pc ls rest) rfl rfl rfl hout hlocks
  have hcell9 : (T.setFrames (.throwing q :: below)).heap[q]? = some ce := by
    show T.heap[q]? = some ce
    rw [hT]; exact hcell
  exact ⟨_, st1, .threw q, hrun, hend, Or.inr ⟨q, rfl, E, ce, locs, hx _ hT hW.alike, hcell9, hv, hcl, hW, hsm.mono hc hs, hf⟩⟩
theorem vx_frame {U : State} {k n : Nat} (h : s.sameButNew ({ U with vm := s.vm } : State) locs k n) : s.heap.size ≤ U.heap.size ∧ ∀ q : Nat, q < s.heap.size → (∀ z ∈ locs, z.base ≠ q) → U.heap[q]? = s.heap[q]? := by
  obtain ⟨-, h2, -, -, -, h6⟩ := h
  refine ⟨h2, fun q hq hz => ?_⟩
  obtain ⟨c9, e1, e2, e3, e4⟩ := h6 q _ (Array.getElem?_eq_getElem hq)
  have hs : c9.slots = (s.heap[q]).slots := Array.ext_getElem? fun i => e4 i fun hm => hz _ hm rfl
  have h9 : c9 = s.heap[q] := by
    rw [hs] at e2
    exact e2
  have e5 : U.heap[q]? = some c9 := e1
  rw [e5, h9, Array.getElem?_eq_getElem hq]
/-- the words of a throw but the four that speak of the heap -/
def vx_no (w : Cond) : Bool := decide (w ≠ .isRef (.static Bundle.tN "UNASSIGNED_STACK" Bundle.steD)) && decide (w ≠ .isRef (.static Bundle.tN "SUPPRESSED_SENTINEL" Bundle.listD)) && decide (w ≠ .laysStatic Bundle.tN "UNASSIGNED_STACK" Bundle.steD) && decide (w ≠ .laysStatic Bundle.tN "SUPPRESSED_SENTINEL" Bundle.listD)
def vx_at0 (own : String) (ic : Nat) (X : String) (names : List String) : List Cond := (Bundle.ownAtoms0 own ic X names).filter vx_no
def vx_atS (own : String) (ic : Nat) (X : String) (names : List String) : List Cond := (Bundle.ownAtoms own ic X names).filter vx_no
/-- a word that the tables alone decide, or a good one -/
def vx_ot (w : Cond) : Bool := w.onTables || goodWord w
theorem vx_ot_at {args a' : Array Value} {s U : State} {w : Cond} (hW : s.WarmedH U.vm) (hvm : s.vm = U.vm) (hg : vx_ot w = true) (h : w.before args s = true) : w.before a' U = true := by
  simp only [vx_ot, Bool.or_eq_true] at hg
  rcases hg with hg | hg
  · exact va_tabs hg hvm h
  · exact word_at hW (good_of_word hg) h
/-- a list's words: the good ones out of the method's own list, the others by premises of their own -/
theorem vx_hat {args : Array Value} {s : State} {L B : List Cond} (h1 : ∀ w ∈ L.filter goodWord, w.before args s = true) (h2 : ∀ w ∈ L.filter (fun w => !goodWord w), w ∈ B) (h3 : ∀ w ∈ B, w.before args s = true) : ∀ w ∈ L, w.before args s = true := by
  intro w hw
  by_cases g : goodWord w = true
  · exact h1 w (List.mem_filter.mpr ⟨hw, g⟩)
  · refine h3 w (h2 w (List.mem_filter.mpr ⟨hw, ?_⟩))
    show (!goodWord w) = true
    cases hgw : goodWord w
    · rfl
    · exact absurd hgw g
theorem vx_c {args : Array Value} {s : State} {w : Cond} {B : List Cond} (h : w.before args s = true) (t : ∀ w ∈ B, w.before args s = true) : ∀ w' ∈ w :: B, w'.before args s = true := fun w' h' => (List.mem_cons.mp h').elim (fun e => by rw [e]; exact h) (t w')
theorem vx_n {args : Array Value} {s : State} : ∀ w ∈ ([] : List Cond), w.before args s = true := fun _ h => nomatch h
theorem vx_own {args : Array Value} {s : State} {L : List Cond} (h1 : ∀ w ∈ L.filter vx_no, w.before args s = true)
    (hU : (Cond.isRef (.static Bundle.tN "UNASSIGNED_STACK" Bundle.steD)).before args s = true) (hN : (Cond.isRef (.static Bundle.tN "SUPPRESSED_SENTINEL" Bundle.listD)).before args s = true)
    (lU : (Cond.laysStatic Bundle.tN "UNASSIGNED_STACK" Bundle.steD).before args s = true) (lN : (Cond.laysStatic Bundle.tN "SUPPRESSED_SENTINEL" Bundle.listD).before args s = true) : ∀ w ∈ L, w.before args s = true := by
  intro w hw
  by_cases e1 : w = .isRef (.static Bundle.tN "UNASSIGNED_STACK" Bundle.steD)
  · rw [e1]; exact hU
  · by_cases e2 : w = .isRef (.static Bundle.tN "SUPPRESSED_SENTINEL" Bundle.listD)
    · rw [e2]; exact hN
    · by_cases e3 : w = .laysStatic Bundle.tN "UNASSIGNED_STACK" Bundle.steD
      · rw [e3]; exact lU
      · by_cases e4 : w = .laysStatic Bundle.tN "SUPPRESSED_SENTINEL" Bundle.listD
        · rw [e4]; exact lN
        · exact h1 w (List.mem_filter.mpr ⟨hw, by unfold vx_no; rw [decide_eq_true e1, decide_eq_true e2, decide_eq_true e3, decide_eq_true e4]; rfl⟩)
/-- where a static field lies, its class's statics cell in H -/
def vx_L (C n d : String) (A : Nat → Prop) (U : State) (H : Heap) : Prop := ∃ (c : ClassId) (k : Class) (i : Nat) (f : Field) (a : Nat) (cell : Cell), U.vm.findClass C = some c ∧ U.fieldFound? C n d = some (c, k, i, f) ∧ f.isStatic = true ∧ k.statics = some a ∧ H[a]? = some cell ∧ cell.vm.isStatics = true ∧ cell.cls = c ∧ f.slot < cell.slots.size ∧ k.staticTypes[f.slot]? = some f.type ∧ ¬ A a
theorem vx_L.moved {C n d : String} {A : Nat → Prop} {u U : State} {H : Heap} (hvm : u.vm.Alike U.vm) (h : vx_L C n d A u H) : vx_L C n d A U H := by
  obtain ⟨c, k, i, f, a, cell, h1, h2, h3, h4, h5, h6, h7, h8, h9, h10⟩ := h
  obtain ⟨k', hi', he⟩ := State.fieldFound?_setVm hvm h2
  exact ⟨c, k', i, f, a, cell, by rw [hvm.findClass]; exact h1, hi', h3, by rw [he]; exact h4, h5, h6, h7, h8, by rw [he]; exact h9, h10⟩
theorem vx_L.kept {C n d : String} {A : Nat → Prop} {U : State} {H H1 : Heap} (h : vx_L C n d A U H) (hq : ∀ a : Nat, a < H.size → ¬ A a → H1[a]? = H[a]?) : vx_L C n d A U H1 := by
  obtain ⟨c, k, i, f, a, cell, h1, h2, h3, h4, h5, h6, h7, h8, h9, h10⟩ := h
  exact ⟨c, k, i, f, a, cell, h1, h2, h3, h4, by rw [hq a (Array.getElem?_eq_some_iff.mp h5).1 h10]; exact h5, h6, h7, h8, h9, h10⟩
theorem vx_L.narrow {C n d : String} {A B : Nat → Prop} {U : State} {H : Heap} (h : vx_L C n d A U H) (hAB : ∀ q, B q → A q) : vx_L C n d B U H := by
  obtain ⟨c, k, i, f, a, cell, h1, h2, h3, h4, h5, h6, h7, h8, h9, h10⟩ := h
  exact ⟨c, k, i, f, a, cell, h1, h2, h3, h4, h5, h6, h7, h8, h9, fun z => h10 (hAB _ z)⟩
theorem vx_L.word {C n d : String} {A : Nat → Prop} {s : State} {args : Array Value} (h : vx_L C n d A s s.heap) : (Cond.laysStatic C n d).before args s = true := by
  obtain ⟨c, k, i, f, a, cell, h1, h2, h3, h4, h5, h6, h7, h8, h9, -⟩ := h
  show (Cond.laysStatic C n d).holds args s none s [] = true
  exact Cond.laysStatic_of h1 h2 h3 h4 h5 h6 h7 h8 h9
/-- .. and what it holds: null or some reference -/
def vx_Zq (C n d : String) (A : Nat → Prop) (U : State) (H : Heap) : Prop := va_Zq C n d A U H ∧ vx_L C n d A U H
theorem vx_Zq.moved {C n d : String} {A : Nat → Prop} {u U : State} {H : Heap} (hvm : u.vm.Alike U.vm) (h : vx_Zq C n d A u H) : vx_Zq C n d A U H := ⟨va_Zq.moved hvm h.1, vx_L.moved hvm h.2⟩
theorem vx_Zq.kept {C n d : String} {A : Nat → Prop} {U : State} {H H1 : Heap} (h : vx_Zq C n d A U H) (hq : ∀ a : Nat, a < H.size → ¬ A a → H1[a]? = H[a]?) : vx_Zq C n d A U H1 := ⟨va_Zq.kept h.1 hq, vx_L.kept h.2 hq⟩
theorem vx_Zq.narrow {C n d : String} {A B : Nat → Prop} {U : State} {H : Heap} (h : vx_Zq C n d A U H) (hAB : ∀ q, B q → A q) : vx_Zq C n d B U H := ⟨va_Zq.narrow h.1 hAB, vx_L.narrow h.2 hAB⟩
theorem vx_Zqof {args : Array Value} {s : State} {C n d : String} {A : Nat → Prop} (hl : (Cond.laysStatic C n d).before args s = true) (hini : (Cond.initialized C).before args s = true) (h : (Cond.isRef (.static C n d)).before args s = true) (hA : ∀ a : Nat, a < s.heap.size → ¬ A a) : vx_Zq C n d A s s.heap := by
  refine ⟨va_Zqof hl hini h hA, ?_⟩
  obtain ⟨c, k, i, f, a, cell, h1, h2, h3, h4, h5, h6, h7, h8, h9⟩ := Cond.laysStatic_spec hl
  exact ⟨c, k, i, f, a, cell, h1, h2, h3, h4, h5, h6, h7, h8, h9, hA a (Array.getElem?_eq_some_iff.mp h5).1⟩
theorem vx_isRef {C n d : String} {v : Value} {A : Nat → Prop} {s : State} {args : Array Value} (h : va_Z C n d v A s s.heap) (hv : v.isRef = true) : (Cond.isRef (.static C n d)).before args s = true := by
  obtain ⟨cf, kf, fi, f, a, cell, h1, h2, h3, h4, h5, h6, h7, -⟩ := h
  have he : (Term.static C n d).eval args s none [] s = some v := by
    simp [Term.eval, State.fieldNamed?, h1, h2, h4, h5, h6, h7]
  simp only [Cond.before, Cond.holds, Cond.value, he]
  cases v <;> simp_all [Value.isRef]
theorem vx_isRefq {C n d : String} {A : Nat → Prop} {s : State} {args : Array Value} (h : va_Zq C n d A s s.heap) : (Cond.isRef (.static C n d)).before args s = true := by
  rcases h with h | ⟨t, h⟩
  · exact vx_isRef h rfl
  · exact vx_isRef h rfl
/-- the same frame, seen from here: as if the method were called anew in this heap -/
theorem vx_rebase {T : State} (X : Stand p l e R s m args below meth c T locs cells slots) {R' : Room} (hf : R'.frames ≤ R.frames) (hl : R'.locals ≤ R.locals) (hc : cells + R'.cells ≤ R.cells) (hs : slots + R'.slots ≤ R.slots) :
    Stand p l e R' ((T.setVm s.vm).setFrames (.invoking m args :: below)) m args below meth c T [] 0 0 := by
  have htop : (T.setVm s.vm).topJava?.isSome := X.here.top
  have hF : ((T.setVm s.vm).setFrames (.invoking m args :: below)).frames = .invoking m args :: below := State.frames_setFrames _ (State.cur_lt_of_top htop)
  obtain ⟨g₀, hg0⟩ := Option.isSome_iff_exists.mp htop
  obtain ⟨r, hr⟩ := State.topJava?_eq_some.mp hg0
  have hl9 : e.platform.stackLimits (T.setVm s.vm).me = e.platform.stackLimits s.me := X.limits
  have hb9 : (T.setVm s.vm).me.stackBytes = s.me.stackBytes := X.bytes
  refine ⟨X.admits, X.cas, X.clock, hF, ?_, X.hears, X.method, X.code, X.here, X.tail, X.warmed, ?_, ?_, ?_⟩
  · have h := X.room
    have hU : ((T.setVm s.vm).setFrames (.invoking m args :: below)).localsInUse = s.localsInUse := by
      rw [State.localsInUse_invoking hF (meth := meth) (c := c) X.method X.code, State.localsInUse_invoking X.frames X.method X.code]
    simp only [State.hasRoom, Bool.and_eq_true, decide_eq_true_eq] at h ⊢
    obtain ⟨⟨⟨⟨h1, h2, h3, h4, h5, h6⟩, h7⟩, h8⟩, h9⟩ := h
    rw [X.frames, List.length_cons] at h2 h3
    have q1 := X.heapSize
    have q2 := X.used
    simp only [hF, hU, List.length_cons, State.stackLimits_setFrames, State.stackBytes_setFrames, hl9, hb9]
    refine ⟨⟨⟨⟨by omega, by omega, by omega, by omega, by omega, h6⟩, ?_⟩, ?_⟩, X.book⟩
    · show T.heap.size + R'.cells ≤ e.platform.maxCells
      omega
    · show T.slotsUsed + R'.slots ≤ e.platform.maxSlots
      omega
  · rw [State.stackLimits_setFrames]; rfl
  · rw [State.stackBytes_setFrames]; rfl
  · refine ⟨?_, Nat.le_refl _, Nat.le_refl _, ?_, ?_, fun a c9 h9 => ⟨c9, h9, rfl, rfl, fun _ _ => rfl⟩⟩
    · obtain ⟨t, ht, -⟩ := State.frames_cons hr
      show T.setVm s.vm = { ((T.setVm s.vm).setFrames (.invoking m args :: below)).setFrames (T.setVm s.vm).frames with heap := T.heap, slotsUsed := T.slotsUsed }
      rw [State.setFrames_setFrames, State.setFrames_self ht]
      rfl
    · show T.slotsUsed = T.slotsUsed + ((T.heap.toList.drop T.heap.size).map (·.slots.size)).sum
      rw [List.drop_eq_nil_of_le (Nat.le_of_eq Array.length_toList)]
      rfl
    · show ((T.heap.toList.drop T.heap.size).map (·.slots.size)).sum ≤ 0
      rw [List.drop_eq_nil_of_le (Nat.le_of_eq Array.length_toList)]
      exact Nat.le_refl _
/-- 'throw new E()': new; dup; invokespecial; athrow -/
theorem vx_throw0 {cc : ByteArray} {pc : Nat} (hexec : p.tables.exec = Jvm.exec) (hb : c.code = cc) (hl : l.stackTraces = false) {own cls : String} {names : List String} {ik ic mc ms : Nat} {A : Nat → Prop}
    (hown : s.vm.findClass own = some m.cls) (hcls : Bundle.fit cls = true) (hnames : ∀ n ∈ names, Bundle.fit n = true)
    (hk : (Cond.classLink own ik cls).before args s = true) (hini : (Cond.initialized cls).before args s = true) (hat : ∀ w ∈ vx_at0 own ic cls names, w.before args s = true)
    (hgood : ∀ w ∈ Cond.classLink own ik cls :: Cond.initialized cls :: vx_at0 own ic cls names, vx_ot w = true)
    (hU : vx_Zq Bundle.tN "UNASSIGNED_STACK" Bundle.steD A s s.heap) (hN : vx_Zq Bundle.tN "SUPPRESSED_SENTINEL" Bundle.listD A s s.heap) (hS : va_S A s.heap H locs) (hsize : ls.size = c.maxLocals)
    (d0 : decode cc pc = .ok (.new ik, 3)) (d3 : decode cc (pc + 3) = .ok (.dup, 1)) (d4 : decode cc (pc + 4) = .ok (.invokespecial ic, 3)) (d7 : decode cc (pc + 7) = .ok (.athrow, 1))
    (hout : ∀ x ∈ c.exceptionTable.toList, covers x (pc + 7) = false)
    (hRframes : names.length + 3 < R.frames) (hRlocals : (rest.map fun v => v.category).sum + (13 * (names.length + 1) + 42) ≤ R.locals) (hRcells : cells + 1 ≤ R.cells) (hRslots : slots + 6 ≤ R.slots) (hlocks : meth.locks = false)
    (hx : ∀ t : State, s.vm.Alike t.vm → H.size ≤ t.heap.size → (∀ q : Nat, q < H.size → t.heap[q]? = H[q]?) → XC cls s t)
    (hf : ∀ z ∈ locs, free z.base) (hc : cells + 1 ≤ mc) (hs : slots + 6 ≤ ms) :
    W p l e R s m args below meth c H locs cells slots (vx_MQ below Qc XC args s mc ms free) (F0 m pc ls rest) := by
  intro T hT X
  have htr : e.platform.stackTraces = false := (show e.platform.stackTraces = l.stackTraces by rw [X.admits.platform]).trans hl
  have Y := vx_rebase X (R' := { frames := R.frames, locals := R.locals, cells := 1, slots := 6 }) (Nat.le_refl _) (Nat.le_refl _) hRcells hRslots
  obtain ⟨s', hA⟩ : ∃ z, z = (T.setVm s.vm).setFrames (.invoking m args :: below) := ⟨_, rfl⟩
  rw [← hA] at Y
  have hvm : s'.vm = s.vm := by rw [hA]; rfl
  have hhp : s'.heap = H := by rw [hA]; exact hT
  have hW0 : s.WarmedH s'.vm := by rw [hvm]; exact State.WarmedH.refl s
  have hat' : ∀ w ∈ vx_at0 own ic cls names, w.before args s' = true := fun w hw => vx_ot_at hW0 hvm.symm (hgood w (List.mem_cons_of_mem _ (List.mem_cons_of_mem _ hw))) (hat w hw)
  have hk' : (Cond.classLink own ik cls).before args s' = true := vx_ot_at hW0 hvm.symm (hgood _ List.mem_cons_self) hk
  have hini' : (Cond.initialized cls).before args s' = true := vx_ot_at hW0 hvm.symm (hgood _ (List.mem_cons_of_mem _ List.mem_cons_self)) hini
  have hU' : vx_Zq Bundle.tN "UNASSIGNED_STACK" Bundle.steD A s' s'.heap := by rw [hhp]; exact vx_Zq.moved hW0.alike (hU.kept hS.2.1)
  have hN' : vx_Zq Bundle.tN "SUPPRESSED_SENTINEL" Bundle.listD A s' s'.heap := by rw [hhp]; exact vx_Zq.moved hW0.alike (hN.kept hS.2.1)
  have h : ∀ w ∈ Bundle.ownAtoms0 own ic cls names, w.before args s' = true := vx_own hat' (vx_isRefq hU'.1) (vx_isRefq hN'.1) hU'.2.word hN'.2.word
  have hown' : s'.vm.findClass own = some m.cls := by rw [hvm]; exact hown
  have hins : (Cond.instantiable cls 6).before args s' = true := h _ (by simp [Bundle.ownAtoms0])
  obtain ⟨vm₁, cX, kX, hfX, hkX, -, -, X₁, st1⟩ := Y.newCold hexec (own := own) (C := cls) (index := ik) (n := 6) hown' hk' hins hini'
    (g := F0 m pc ls rest) rfl (by rw [hb]; exact d0) (Nat.le_refl _) (Nat.le_refl _)
  generalize hT1 : (T.setVm vm₁).pushCell { cls := cX, slots := kX.instanceTypes.map defaultValue, vm := .none } = T1 at X₁ st1
  have hcat : (Value.ref T.heap.size).category = 1 := rfl
  have hcellA : T1.heap[T.heap.size]? = some (freshCell cX kX) := by rw [← hT1]; exact State.heap_pushCell_size _ _
  have d3' : decode c.code (pc + 3) = .ok (.dup, 1) := by rw [hb]; exact d3
  obtain ⟨U, hsteps, hrun, hend, hW, hsame, ce, hce, hO⟩ := X₁.ctorThrow0 hexec htr (own := own) (cls := cls) (names := names) (ic := ic) hown' hcls hnames h (fun x hx => nomatch hx) hfX hkX hcellA (by rw [hhp, hT]; exact Nat.le_refl _)
    (g := { method := m, pc := pc + 4, locals := ls, stack := .ref T.heap.size :: .ref T.heap.size :: rest, locked := none }) rfl hsize rfl rfl (rest := rest) rfl
    (by rw [hb]; exact d4) (by rw [hb]; exact d7) hout hRframes (by simp only [List.map_cons, List.sum_cons, hcat]; omega) hlocks
  obtain ⟨f1, f2⟩ := vx_frame hsame
  rw [hhp] at f1 f2
  have hWs : s.WarmedH U.vm := State.WarmedH.trans hW0 hW
  have hcl : s.vm.findClass cls = some ce.cls := by
    have h9 := hO.cls
    rw [hvm] at h9
    exact h9
  have hall : s.sameButNew ({ U with vm := s.vm } : State) locs mc ms := by
    subst hA
    obtain ⟨e1, e2⟩ := hsame
    rw [State.setFrames_setFrames] at e1
    have h2 : (T.setVm s.vm).sameButNew ({ U with vm := s.vm } : State) [] (0 + 1) (0 + 6) := ⟨e1, e2⟩
    have h3 := X.same.trans h2
    rw [List.append_nil] at h3
    exact h3.mono hc hs
  refine ⟨U, ?_, .threw T.heap.size, hrun, hend, Or.inr ⟨T.heap.size, rfl, cls, ce, locs, hx U hWs.alike f1 (fun q hq => f2 q hq (fun z hz => nomatch hz)), hce, hO.vm, hcl, hWs, hall, hf⟩⟩
  refine st1 _ ?_
  show Steps p.tables e below (T1.setTop { method := m, pc := pc + 3, locals := ls, stack := .ref T.heap.size :: rest, locked := none }) _
  jvm_step X₁.here [X₁.here.top, hexec, d3', Value.category]
  exact hsteps
/-- 'throw new E("text")': new; dup; ldc; invokespecial; athrow -/
theorem vx_throwS {cc : ByteArray} {pc : Nat} (hexec : p.tables.exec = Jvm.exec) (hb : c.code = cc) (hl : l.stackTraces = false) {own cls text : String} {names : List String} {ik is ic mc ms sa : Nat} {A : Nat → Prop}
    (hown : s.vm.findClass own = some m.cls) (hcls : Bundle.fit cls = true) (hnames : ∀ n ∈ names, Bundle.fit n = true)
    (hk : (Cond.classLink own ik cls).before args s = true) (hini : (Cond.initialized cls).before args s = true) (hstr : vk_R own is text sa s) (hat : ∀ w ∈ vx_atS own ic cls names, w.before args s = true)
    (hgood : ∀ w ∈ Cond.classLink own ik cls :: Cond.initialized cls :: vx_atS own ic cls names, vx_ot w = true)
    (hU : vx_Zq Bundle.tN "UNASSIGNED_STACK" Bundle.steD A s s.heap) (hN : vx_Zq Bundle.tN "SUPPRESSED_SENTINEL" Bundle.listD A s s.heap) (hS : va_S A s.heap H locs) (hsize : ls.size = c.maxLocals)
    (d0 : decode cc pc = .ok (.new ik, 3)) (d3 : decode cc (pc + 3) = .ok (.dup, 1)) (d4 : decode cc (pc + 4) = .ok (.ldc is, 2)) (d6 : decode cc (pc + 6) = .ok (.invokespecial ic, 3)) (d9 : decode cc (pc + 9) = .ok (.athrow, 1))
    (hout : ∀ x ∈ c.exceptionTable.toList, covers x (pc + 9) = false)
    (hRframes : names.length + 3 < R.frames) (hRlocals : (rest.map fun v => v.category).sum + (13 * (names.length + 1) + 43) ≤ R.locals) (hRcells : cells + 1 ≤ R.cells) (hRslots : slots + 6 ≤ R.slots) (hlocks : meth.locks = false)
    (hx : ∀ t : State, s.vm.Alike t.vm → H.size ≤ t.heap.size → (∀ q : Nat, q < H.size → t.heap[q]? = H[q]?) → XC cls s t)
    (hf : ∀ z ∈ locs, free z.base) (hc : cells + 1 ≤ mc) (hs : slots + 6 ≤ ms) :
    W p l e R s m args below meth c H locs cells slots (vx_MQ below Qc XC args s mc ms free) (F0 m pc ls rest) := by
  intro T hT X
  have htr : e.platform.stackTraces = false := (show e.platform.stackTraces = l.stackTraces by rw [X.admits.platform]).trans hl
  have Y := vx_rebase X (R' := { frames := R.frames, locals := R.locals, cells := 1, slots := 6 }) (Nat.le_refl _) (Nat.le_refl _) hRcells hRslots
  obtain ⟨s', hA⟩ : ∃ z, z = (T.setVm s.vm).setFrames (.invoking m args :: below) := ⟨_, rfl⟩
  rw [← hA] at Y
  have hvm : s'.vm = s.vm := by rw [hA]; rfl
  have hhp : s'.heap = H := by rw [hA]; exact hT
  have hW0 : s.WarmedH s'.vm := by rw [hvm]; exact State.WarmedH.refl s
  have hat' : ∀ w ∈ vx_atS own ic cls names, w.before args s' = true := fun w hw => vx_ot_at hW0 hvm.symm (hgood w (List.mem_cons_of_mem _ (List.mem_cons_of_mem _ hw))) (hat w hw)
  have hk' : (Cond.classLink own ik cls).before args s' = true := vx_ot_at hW0 hvm.symm (hgood _ List.mem_cons_self) hk
  have hini' : (Cond.initialized cls).before args s' = true := vx_ot_at hW0 hvm.symm (hgood _ (List.mem_cons_of_mem _ List.mem_cons_self)) hini
  have hU' : vx_Zq Bundle.tN "UNASSIGNED_STACK" Bundle.steD A s' s'.heap := by rw [hhp]; exact vx_Zq.moved hW0.alike (hU.kept hS.2.1)
  have hN' : vx_Zq Bundle.tN "SUPPRESSED_SENTINEL" Bundle.listD A s' s'.heap := by rw [hhp]; exact vx_Zq.moved hW0.alike (hN.kept hS.2.1)
  have h : ∀ w ∈ Bundle.ownAtoms own ic cls names, w.before args s' = true := vx_own hat' (vx_isRefq hU'.1) (vx_isRefq hN'.1) hU'.2.word hN'.2.word
  have hown' : s'.vm.findClass own = some m.cls := by rw [hvm]; exact hown
  have hins : (Cond.instantiable cls 6).before args s' = true := h _ (by simp [Bundle.ownAtoms])
  obtain ⟨vm₁, cX, kX, hfX, hkX, -, -, X₁, st1⟩ := Y.newCold hexec (own := own) (C := cls) (index := ik) (n := 6) hown' hk' hins hini'
    (g := F0 m pc ls rest) rfl (by rw [hb]; exact d0) (Nat.le_refl _) (Nat.le_refl _)
  generalize hT1 : (T.setVm vm₁).pushCell { cls := cX, slots := kX.instanceTypes.map defaultValue, vm := .none } = T1 at X₁ st1
  have hcat : (Value.ref T.heap.size).category = 1 := rfl
  have hcellA : T1.heap[T.heap.size]? = some (freshCell cX kX) := by rw [← hT1]; exact State.heap_pushCell_size _ _
  have d3' : decode c.code (pc + 3) = .ok (.dup, 1) := by rw [hb]; exact d3
  have d4' : decode c.code (pc + 4) = .ok (.ldc is, 2) := by rw [hb]; exact d4
  have hstr' : vk_R own is text sa s' := vk_R.warm hW0 hstr
  obtain ⟨U, hsteps, hrun, hend, hW, hsame, ce, hce, hO⟩ := X₁.ctorThrowS hexec htr (own := own) (cls := cls) (names := names) (ic := ic) hown' hcls hnames h (fun x hx => nomatch hx) hfX hkX hcellA (by rw [hhp, hT]; exact Nat.le_refl _) (msg := .ref sa) rfl
    (g := { method := m, pc := pc + 6, locals := ls, stack := .ref sa :: .ref T.heap.size :: .ref T.heap.size :: rest, locked := none }) rfl hsize rfl rfl (rest := rest) rfl
    (by rw [hb]; exact d6) (by rw [hb]; exact d9) hout hRframes (by simp only [List.map_cons, List.sum_cons, hcat]; omega) hlocks
  obtain ⟨f1, f2⟩ := vx_frame hsame
  rw [hhp] at f1 f2
  have hWs : s.WarmedH U.vm := State.WarmedH.trans hW0 hW
  have hcl : s.vm.findClass cls = some ce.cls := by
    have h9 := hO.cls
    rw [hvm] at h9
    exact h9
  have hall : s.sameButNew ({ U with vm := s.vm } : State) locs mc ms := by
    subst hA
    obtain ⟨e1, e2⟩ := hsame
    rw [State.setFrames_setFrames] at e1
    have h2 : (T.setVm s.vm).sameButNew ({ U with vm := s.vm } : State) [] (0 + 1) (0 + 6) := ⟨e1, e2⟩
    have h3 := X.same.trans h2
    rw [List.append_nil] at h3
    exact h3.mono hc hs
  refine ⟨U, ?_, .threw T.heap.size, hrun, hend, Or.inr ⟨T.heap.size, rfl, cls, ce, locs, hx U hWs.alike f1 (fun q hq => f2 q hq (fun z hz => nomatch hz)), hce, hO.vm, hcl, hWs, hall, hf⟩⟩
  refine st1 _ ?_
  show Steps p.tables e below (T1.setTop { method := m, pc := pc + 3, locals := ls, stack := .ref T.heap.size :: rest, locked := none }) _
  jvm_step X₁.here [X₁.here.top, hexec, d3', Value.category]
  exact X₁.ldcString hexec (own := own) (text := text) (index := is) (a := sa) hown' hstr'.1 hstr'.2
    (g := { method := m, pc := pc + 4, locals := ls, stack := .ref T.heap.size :: .ref T.heap.size :: rest, locked := none }) rfl d4' _ hsteps
/-- 'throw new E("text")', the text by a wide index -/
theorem vx_throwSW {cc : ByteArray} {pc : Nat} (hexec : p.tables.exec = Jvm.exec) (hb : c.code = cc) (hl : l.stackTraces = false) {own cls text : String} {names : List String} {ik is ic mc ms sa : Nat} {A : Nat → Prop}
    (hown : s.vm.findClass own = some m.cls) (hcls : Bundle.fit cls = true) (hnames : ∀ n ∈ names, Bundle.fit n = true)
    (hk : (Cond.classLink own ik cls).before args s = true) (hini : (Cond.initialized cls).before args s = true) (hstr : vk_R own is text sa s) (hat : ∀ w ∈ vx_atS own ic cls names, w.before args s = true)
    (hgood : ∀ w ∈ Cond.classLink own ik cls :: Cond.initialized cls :: vx_atS own ic cls names, vx_ot w = true)
    (hU : vx_Zq Bundle.tN "UNASSIGNED_STACK" Bundle.steD A s s.heap) (hN : vx_Zq Bundle.tN "SUPPRESSED_SENTINEL" Bundle.listD A s s.heap) (hS : va_S A s.heap H locs) (hsize : ls.size = c.maxLocals)
    (d0 : decode cc pc = .ok (.new ik, 3)) (d3 : decode cc (pc + 3) = .ok (.dup, 1)) (d4 : decode cc (pc + 4) = .ok (.ldc_w is, 3)) (d7 : decode cc (pc + 7) = .ok (.invokespecial ic, 3)) (d10 : decode cc (pc + 10) = .ok (.athrow, 1))
    (hout : ∀ x ∈ c.exceptionTable.toList, covers x (pc + 10) = false)
    (hRframes : names.length + 3 < R.frames) (hRlocals : (rest.map fun v => v.category).sum + (13 * (names.length + 1) + 43) ≤ R.locals) (hRcells : cells + 1 ≤ R.cells) (hRslots : slots + 6 ≤ R.slots) (hlocks : meth.locks = false)
    (hx : ∀ t : State, s.vm.Alike t.vm → H.size ≤ t.heap.size → (∀ q : Nat, q < H.size → t.heap[q]? = H[q]?) → XC cls s t)
    (hf : ∀ z ∈ locs, free z.base) (hc : cells + 1 ≤ mc) (hs : slots + 6 ≤ ms) :
    W p l e R s m args below meth c H locs cells slots (vx_MQ below Qc XC args s mc ms free) (F0 m pc ls rest) := by
  intro T hT X
  have htr : e.platform.stackTraces = false := (show e.platform.stackTraces = l.stackTraces by rw [X.admits.platform]).trans hl
  have Y := vx_rebase X (R' := { frames := R.frames, locals := R.locals, cells := 1, slots := 6 }) (Nat.le_refl _) (Nat.le_refl _) hRcells hRslots
  obtain ⟨s', hA⟩ : ∃ z, z = (T.setVm s.vm).setFrames (.invoking m args :: below) := ⟨_, rfl⟩
  rw [← hA] at Y
  have hvm : s'.vm = s.vm := by rw [hA]; rfl
  have hhp : s'.heap = H := by rw [hA]; exact hT
  have hW0 : s.WarmedH s'.vm := by rw [hvm]; exact State.WarmedH.refl s
  have hat' : ∀ w ∈ vx_atS own ic cls names, w.before args s' = true := fun w hw => vx_ot_at hW0 hvm.symm (hgood w (List.mem_cons_of_mem _ (List.mem_cons_of_mem _ hw))) (hat w hw)
  have hk' : (Cond.classLink own ik cls).before args s' = true := vx_ot_at hW0 hvm.symm (hgood _ List.mem_cons_self) hk
  have hini' : (Cond.initialized cls).before args s' = true := vx_ot_at hW0 hvm.symm (hgood _ (List.mem_cons_of_mem _ List.mem_cons_self)) hini
  have hU' : vx_Zq Bundle.tN "UNASSIGNED_STACK" Bundle.steD A s' s'.heap := by rw [hhp]; exact vx_Zq.moved hW0.alike (hU.kept hS.2.1)
  have hN' : vx_Zq Bundle.tN "SUPPRESSED_SENTINEL" Bundle.listD A s' s'.heap := by rw [hhp]; exact vx_Zq.moved hW0.alike (hN.kept hS.2.1)
  have h : ∀ w ∈ Bundle.ownAtoms own ic cls names, w.before args s' = true := vx_own hat' (vx_isRefq hU'.1) (vx_isRefq hN'.1) hU'.2.word hN'.2.word
  have hown' : s'.vm.findClass own = some m.cls := by rw [hvm]; exact hown
  have hins : (Cond.instantiable cls 6).before args s' = true := h _ (by simp [Bundle.ownAtoms])
  obtain ⟨vm₁, cX, kX, hfX, hkX, -, -, X₁, st1⟩ := Y.newCold hexec (own := own) (C := cls) (index := ik) (n := 6) hown' hk' hins hini'
    (g := F0 m pc ls rest) rfl (by rw [hb]; exact d0) (Nat.le_refl _) (Nat.le_refl _)
  generalize hT1 : (T.setVm vm₁).pushCell { cls := cX, slots := kX.instanceTypes.map defaultValue, vm := .none } = T1 at X₁ st1
  have hcat : (Value.ref T.heap.size).category = 1 := rfl
  have hcellA : T1.heap[T.heap.size]? = some (freshCell cX kX) := by rw [← hT1]; exact State.heap_pushCell_size _ _
  have d3' : decode c.code (pc + 3) = .ok (.dup, 1) := by rw [hb]; exact d3
  have d4' : decode c.code (pc + 4) = .ok (.ldc_w is, 3) := by rw [hb]; exact d4
  have hstr' : vk_R own is text sa s' := vk_R.warm hW0 hstr
  obtain ⟨U, hsteps, hrun, hend, hW, hsame, ce, hce, hO⟩ := X₁.ctorThrowS hexec htr (own := own) (cls := cls) (names := names) (ic := ic) hown' hcls hnames h (fun x hx => nomatch hx) hfX hkX hcellA (by rw [hhp, hT]; exact Nat.le_refl _) (msg := .ref sa) rfl
    (g := { method := m, pc := pc + 7, locals := ls, stack := .ref sa :: .ref T.heap.size :: .ref T.heap.size :: rest, locked := none }) rfl hsize rfl rfl (rest := rest) rfl
    (by rw [hb]; exact d7) (by rw [hb]; exact d10) hout hRframes (by simp only [List.map_cons, List.sum_cons, hcat]; omega) hlocks
  obtain ⟨f1, f2⟩ := vx_frame hsame
  rw [hhp] at f1 f2
  have hWs : s.WarmedH U.vm := State.WarmedH.trans hW0 hW
  have hcl : s.vm.findClass cls = some ce.cls := by
    have h9 := hO.cls
    rw [hvm] at h9
    exact h9
  have hall : s.sameButNew ({ U with vm := s.vm } : State) locs mc ms := by
    subst hA
    obtain ⟨e1, e2⟩ := hsame
    rw [State.setFrames_setFrames] at e1
    have h2 : (T.setVm s.vm).sameButNew ({ U with vm := s.vm } : State) [] (0 + 1) (0 + 6) := ⟨e1, e2⟩
    have h3 := X.same.trans h2
    rw [List.append_nil] at h3
    exact h3.mono hc hs
  refine ⟨U, ?_, .threw T.heap.size, hrun, hend, Or.inr ⟨T.heap.size, rfl, cls, ce, locs, hx U hWs.alike f1 (fun q hq => f2 q hq (fun z hz => nomatch hz)), hce, hO.vm, hcl, hWs, hall, hf⟩⟩
  refine st1 _ ?_
  show Steps p.tables e below (T1.setTop { method := m, pc := pc + 3, locals := ls, stack := .ref T.heap.size :: rest, locked := none }) _
  jvm_step X₁.here [X₁.here.top, hexec, d3', Value.category]
  exact X₁.ldcStringW hexec (own := own) (text := text) (index := is) (a := sa) hown' hstr'.1 hstr'.2
    (g := { method := m, pc := pc + 4, locals := ls, stack := .ref T.heap.size :: .ref T.heap.size :: rest, locked := none }) rfl d4' _ hsteps
end Ends
section Bodies
variable {l : Launch}
theorem vx_ofW {y : MethodName} {ws ws' : List Cond} {rm : Room} {Pc : Array Value → State → Prop} {Qc : Array Value → State → Outcome → State → Prop} {XC : String → State → State → Prop} {mc ms : Nat} {free : Addr → Prop} {cc : ByteArray} {maxL : Nat} {ret : Option FieldType}
    (hy : plainName y.cls = true) (hw : ws = Cond.code y cc maxL ret :: ws')
    (body : ∀ p e s m args below meth c s₁, BodyLoose p l y (headSpec ws rm) cc maxL ret e s m args below meth c s₁ → c.maxLocals = maxL → (∀ x ∈ c.exceptionTable.toList, False) → Pc args s →
      W p l e (headSpec ws rm).room s m args below meth c s.heap [] 0 0 (vx_MQ below Qc XC args s mc ms free) (entryFrame m args maxL)) : vx_Met l y ws rm Pc Qc XC mc ms free := by
  refine MetFree.of_bodyS (code := cc) (maxLocals := maxL) (ret := ret) hy ?_ ?_
  · intro args s m h hn
    obtain ⟨meth, c, h1, h2, h3, h4, h5, h6, -, -⟩ := Cond.code_spec hn (atoms_spec (ws := ws) h _ (by rw [hw]; exact List.mem_cons_self))
    exact ⟨meth, c, h1, h2, h3, h4, h5, h6⟩
  · intro p e s m args below meth c s₁ B hml hP _
    have hh0 : s₁.heap = s.heap := by rw [B.state]; rfl
    have ht : ∀ x ∈ c.exceptionTable.toList, False := by
      obtain ⟨meth9, c9, h1, h2, -, -, -, -, h7, -⟩ := Cond.code_spec B.named (atoms_spec (ws := ws) B.pre _ (by rw [hw]; exact List.mem_cons_self))
      cases Option.some.inj (h1.symm.trans B.method)
      cases Option.some.inj (h2.symm.trans (Stand.of_body B).code)
      intro x hx
      rw [Array.isEmpty_iff.mp h7] at hx
      cases hx
    obtain ⟨t, a1, o, b1, b2, b3⟩ := body p e s m args below meth c s₁ B hml ht hP s₁ hh0 (Stand.of_body B)
    exact ⟨t, o, a1, b1, b2, b3⟩
/-- the table of a body with handlers -/
theorem vx_table {p : Program} {x y : MethodName} {S : Spec} {cc bytes : ByteArray} {maxL maxL' : Nat} {ret ret' : Option FieldType} {e : Env} {s s₁ : State} {m : MethodId} {args : Array Value} {below : List Frame} {meth : Method} {c : Code} {hh : List (Nat × Nat × Nat × Nat)}
    (B : BodyLoose p l y S cc maxL ret e s m args below meth c s₁) (h : (Cond.codeWith y bytes maxL' ret' hh).before args s = true) : c.exceptionTable.toList = tableOf hh := by
  obtain ⟨m9, meth9, c9, hn9, h1, h2, -, -, h6, -⟩ := Cond.codeWith_spec h
  cases Option.some.inj (hn9.symm.trans B.named)
  cases Option.some.inj (h1.symm.trans B.method)
  cases Option.some.inj (h2.symm.trans (Stand.of_body B).code)
  rw [← h6, table_eq]
end Bodies
end VXA
/-! ===== END ===== -/
/-! ===== BEGIN a static call of a method with an exception table ===== -/
section VXS
variable {p : Program} {l : Launch} {e : Env} {R : Room} {s : State} {m : MethodId} {args : Array Value} {below : List Frame} {meth : Method} {c : Code} {T : State} {H : Heap} {locs : List Loc} {cells slots : Nat}
abbrev vx_CSW (R : Room) (s : State) (args : Array Value) (own : String) (index : Nat) (y : MethodName) (bytes : ByteArray) (maxL : Nat) (ret : Option FieldType) (hh : List (Nat × Nat × Nat × Nat)) (ws : List Cond) (rm : Room) (mc ms n : Nat) : Prop :=
  (rm.cells = mc ∧ rm.slots = ms ∧ rm.frames + 1 ≤ R.frames ∧ 8 + (maxL + 11) + rm.locals ≤ R.locals ∧ (∀ w ∈ ws, ∀ (a' : Array Value) (U : State), s.WarmedH U.vm → w.before a' U = true) ∧ Cond.codeWith y bytes maxL ret hh ∈ ws) ∧
  (Cond.codeWith y bytes maxL ret hh).before args s = true ∧ (Cond.initialized y.cls).before args s = true ∧ (y.cls ≠ "java/lang/invoke/MethodHandle" ∧ y.cls ≠ "java/lang/invoke/VarHandle") ∧
  (∀ sig, parseMethodDescriptor y.desc = some sig → n = sig.parameters.length) ∧ (Cond.methodLink own index y).before args s = true ∧ (Cond.static y).before args s = true
theorem vx_cwSW {own : String} {index maxL mc ms : Nat} {y : MethodName} {bytes : ByteArray} {ret : Option FieldType} {hh : List (Nat × Nat × Nat × Nat)} {Ts ws ws' : List Cond} {rm : Room} (n : Nat) (ht : ∀ w ∈ Ts, w.before args s = true) (hT : GoodIn Ts (va_wsS own index y ws)) (hw : ws = Cond.codeWith y bytes maxL ret hh :: ws') (hrc : rm.cells = mc) (hrs : rm.slots = ms)
    (hd : y.cls ≠ "java/lang/invoke/MethodHandle" ∧ y.cls ≠ "java/lang/invoke/VarHandle" ∧ (parseMethodDescriptor y.desc).map (fun d => d.parameters.length) = some n) (hR : rm.frames + 1 ≤ R.frames ∧ 8 + (maxL + 11) + rm.locals ≤ R.locals) :
    vx_CSW R s args own index y bytes maxL ret hh ws rm mc ms n := by
  have ok : ∀ w ∈ va_wsS own index y ws, w.before args s = true := fun w h => ht w (hT w h).1
  have hG : GoodIn Ts ws := fun w h => hT w (by unfold va_wsS; exact List.mem_append_right _ h)
  have hc : Cond.codeWith y bytes maxL ret hh ∈ ws := by rw [hw]; exact List.mem_cons_self
  refine ⟨⟨hrc, hrs, hR.1, hR.2, pay_in ht hG, hc⟩, ht _ (hG _ hc).1, ok _ (by simp [va_wsS]), ⟨hd.1, hd.2.1⟩, fun sig h => ?_, ok _ (by simp [va_wsS]), ok _ (by simp [va_wsS])⟩
  have h2 := hd.2.2
  rw [h] at h2
  exact (Option.some.inj h2).symm
theorem vx_callSW (X : Stand p l e R s m args below meth c T locs cells slots) (hexec : p.tables.exec = Jvm.exec) {own : String} {index : Nat} {y : MethodName} {bytes : ByteArray} {maxL : Nat} {ret : Option FieldType} {hh : List (Nat × Nat × Nat × Nat)}
    (hown : s.vm.findClass own = some m.cls) (hlink : (Cond.methodLink own index y).before args s = true) (hstat : (Cond.static y).before args s = true) (hinit : (Cond.initialized y.cls).before args s = true)
    (hcode : (Cond.codeWith y bytes maxL ret hh).before args s = true) (hy : y.cls ≠ "java/lang/invoke/MethodHandle" ∧ y.cls ≠ "java/lang/invoke/VarHandle")
    {W9 : Nat} {Pre : Pt → Array Value → Prop} {Post : Pt → Array Value → Option Value → Pt → Prop} (hK : Back l R p e below s args y 3 W9 Pre Post)
    {g : JFrame} (hg : g.method = m) (hsize : g.locals.size = c.maxLocals) {argsL rest : List Value} (hlen : ∀ sig, parseMethodDescriptor y.desc = some sig → argsL.length = sig.parameters.length)
    (hstack : g.stack = argsL.reverse ++ rest) (hW : 2 * g.monitorRoom + (rest.map fun v => v.category).sum ≤ W9) (hdg : decode c.code g.pc = .ok (.invokestatic index, 3))
    (hpre : ∀ vm₁, s.WarmedH vm₁ → Pre ⟨T.setVm vm₁, locs, cells, slots⟩ argsL.toArray) :
    ∃ (v : Option Value) (vm₁ : Vm) (B : Pt), s.WarmedH vm₁ ∧ Stand p l e R s m args below meth c B.U B.locs B.cells B.slots ∧ Post ⟨T.setVm vm₁, locs, cells, slots⟩ argsL.toArray v B ∧
      ∀ target, Steps p.tables e below (B.U.setTop { g with pc := g.pc + 3, stack := v.toList ++ rest }) target → Steps p.tables e below (T.setTop g) target := by
  obtain ⟨mk, methM, cM, hnamed, hmethM, -, -, -, -, -, -, hsigM⟩ := Cond.codeWith_spec hcode
  have hstatic : methM.isStatic = true := Cond.static_spec hnamed hmethM hstat
  obtain ⟨kP, hkP, -⟩ := className_of_methodNamed hnamed
  have hinitP : kP.init = .initialized := Cond.initialized_spec (findClass_of_methodNamed hnamed) hkP hinit
  obtain ⟨vm₁, X₁, hstep₁⟩ := X.invokestatic hexec hown hlink hnamed hmethM hstatic hkP hinitP hy (g := g) hg (argsL := argsL) (rest := rest) (hlen _ hsigM) hstack hdg
  obtain ⟨v, B, X', hpost, hsteps⟩ := hK m meth c ⟨T.setVm vm₁, locs, cells, slots⟩ { g with stack := rest } (.invokestatic index) mk argsL.toArray X₁ hg hsize hdg hW (X₁.named hnamed) (hpre vm₁ X₁.warmed)
  exact ⟨v, vm₁, B, X₁.warmed, X', hpost, fun target h => hstep₁ _ fun acts => by rw [doInvoke_state]; exact hsteps.trans h⟩
theorem vx_runSW {y : MethodName} {bytes cc : ByteArray} {maxL nL mc ms n index : Nat} {ret : Option FieldType} {hh : List (Nat × Nat × Nat × Nat)} {ws : List Cond} {rm : Room} {Pc : Array Value → State → Prop} {Qc : Array Value → State → Outcome → State → Prop} {free : Addr → Prop} {Ts : List Cond} {own : String} {As rest : List Value} {g : JFrame}
    (S : CallFix p m c cc nL s args Ts own) (hM : Met l y ws rm Pc Qc mc ms free) (cw : vx_CSW R s args own index y bytes maxL ret hh ws rm mc ms n) (hp : PreS s H Pc As)
    (hg : g.method = m) (hn : As.length = n) (hsize : g.locals.size = nL) (hstack : g.stack = As.reverse ++ rest) (hW : 2 * g.monitorRoom + (rest.map fun v => v.category).sum ≤ 8) (hdg : decode cc g.pc = .ok (.invokestatic index, 3)) (hf : cells + mc ≤ R.cells ∧ slots + ms ≤ R.slots) :
    va_Run p l e R s m args below meth c H locs cells slots mc ms g rest (Qc As.toArray) (free) := by
  obtain ⟨⟨hrc, hrs, hfr, hlo, hws, hcw⟩, hcode, hini, hy, hlen, hl, hstt⟩ := cw
  have hK : Back l R p e below s args y 3 8 (PreOf R mc ms Pc) (PostOf Qc mc ms free) := va_backW (hh := hh) (bytes := bytes) (maxL := maxL) (ret := ret) hM hp.1 hrc hrs hfr hlo hws hcw (fun a' U hW => word_at hW (Or.inl (by first | rfl | simp [Cond.onTables, Cond.keeps, Cond.steady])) hini)
  obtain ⟨hx, hb, hml, ho, -⟩ := S
  intro T hT X
  obtain ⟨v, vm₁, ⟨U', l2, c2, s2⟩, hW₁, X', ⟨g', mk, t, L, e1, e2, hq, h1, hL, h2, h3⟩, st⟩ := vx_callSW X hx (hh := hh) (bytes := bytes) (maxL := maxL) (ret := ret) ho hl hstt hini hcode hy hK hg (hsize.trans hml.symm) (argsL := As) (rest := rest) (fun sig h => hn.trans (hlen sig h)) hstack hW (by rw [hb]; exact hdg)
    (fun vm₁ hW₁ => ⟨hf.1, hf.2, hp.2 (T.setVm vm₁) hT hW₁⟩)
  dsimp only [Pt.U, Pt.locs, Pt.cells, Pt.slots] at X' e1 e2 h1 h2 h3 st
  subst h1; subst h2; subst h3
  exact ⟨v, (T.setVm vm₁).calling g' mk As.toArray, t, U', L, hT, X', hL, e1, e2, hq, st⟩
/-- not caught here, past rows that name other classes: it goes on to the caller -/
theorem vx_outP {p : Program} {l : Launch} {e : Env} {R : Room} {s : State} {m : MethodId} {args : Array Value} {below : List Frame} {meth : Method} {c : Code} {H : Heap} {locs : List Loc} {cells slots : Nat} {free : Addr → Prop} {ls : Array Slot} {rest : List Value} {Qc : Array Value → State → Outcome → State → Prop} {XC : String → State → State → Prop}
    {pc : Nat} {own E : String} {ce : Cell} {q : Addr} {mc ms : Nat} (hown : s.vm.findClass own = some m.cls) (hlocks : meth.locks = false)
    (hpass : ∀ z ∈ c.exceptionTable.toList, covers z pc = false ∨ (z.catchType ≠ 0 ∧ ∃ nm : String, (Cond.classLink own z.catchType nm).before args s = true ∧ va_Nc E nm s)) (hcell : H[q]? = some ce) (hv : ce.vm = .none) (hcl : s.vm.findClass E = some ce.cls)
    (hx : ∀ t : State, t.heap = H → s.vm.Alike t.vm → XC E s t) (hf : ∀ z ∈ locs, free z.base) (hc : cells ≤ mc) (hs : slots ≤ ms) :
    vx_W p l e R s m args below meth c H locs cells slots (vx_MQ below Qc XC args s mc ms free) (F0 m pc ls rest) q := by
  intro T hT X
  have hpl : e.platform.magicAccessors = ({} : Platform).magicAccessors := by rw [X.admits.platform]
  obtain ⟨vm', hW', X', st⟩ := X.outThrough hlocks q (g := F0 m pc ls rest) rfl rfl rfl (cell := ce) (by rw [hT]; exact hcell) (by rw [hv]; rfl)
    (by obtain ⟨k9, h9, -⟩ := Vm.findClass_spec hcl; exact ⟨k9, h9⟩) (fun z hz => by
      rcases hpass z hz with h | ⟨hz0, nm, hl1, hn1⟩
      · exact Or.inl h
      · obtain ⟨c6, hc6, hcl6⟩ := Cond.classLink_spec hown hl1 e.platform hpl
        obtain ⟨a8, b8, h1, h2, h3⟩ := hn1
        cases Option.some.inj (h1.symm.trans hcl)
        cases Option.some.inj (h2.symm.trans hc6)
        exact Or.inr ⟨hz0, _, hcl6, h3⟩)
  obtain ⟨g₀, hfr⟩ := X'.frames_eq
  have hcell9 : ((T.setVm vm').setFrames (.throwing q :: below)).heap[q]? = some ce := by
    show T.heap[q]? = some ce
    rw [hT]; exact hcell
  have hend : Ended ((T.setVm vm').setFrames (.throwing q :: below)) below (.threw q) := State.frames_setFrames _ (State.cur_lt_of_frames hfr)
  refine ⟨(T.setVm vm').setFrames (.throwing q :: below), ?_, .threw q, X'.here.running, hend, Or.inr ⟨q, rfl, E, ce, locs, hx _ hT (X'.ends _).1.alike, hcell9, hv, hcl, (X'.ends _).1, (X'.ends _).2.mono hc hs, hf⟩⟩
  rw [X.pushThrowing_eq]
  exact st
/-- a thing of a world lies in the heap -/
theorem vx_lt {D : va_G} {cl : List vw_C} {ws : va_W} {H1 : Heap} (h : va_P D cl ws H1) {k : Nat} {q : Nat × va_E} (hk : ws[k]? = some q) : q.1 < H1.size := (h k q hk).lt
end VXS
/-! ===== END ===== -/
/-! ===== BEGIN methods with a table of their own: called by a name, returning or throwing ===== -/
section VXH
/-! vx_backW, vx_callVX, vx_callSX, vx_callVW, vx_runVW, vx_runVX, vx_runSX, vx_ofWH follow the same proofs as their sisters above (Free/Laws.lean, Shelf42/LK1.lean); vx_outP calls Shelf42/NT130.lean (outThrough). -/
section
variable {l : Launch} {R : Room} {p : Program} {e : Env} {below : List Frame} {s : State} {sargs : Array Value} {y : MethodName} {len W9 : Nat}
theorem vx_backW {ws : List Cond} {rm : Room} {Pc : Array Value → State → Prop} {Qc : Array Value → State → Outcome → State → Prop} {XC : String → State → State → Prop} {mc ms : Nat} {free : Addr → Prop} {bytes : ByteArray} {maxL : Nat} {ret : Option FieldType} {hh : List (Nat × Nat × Nat × Nat)}
    (hM : vx_Met l y ws rm Pc Qc XC mc ms free) (hblind : FrameBlind Pc) (hrc : rm.cells = mc) (hrs : rm.slots = ms)
    (hframes : rm.frames + 1 ≤ R.frames) (hlocals : W9 + (maxL + 11) + rm.locals ≤ R.locals)
    (hws : ∀ w ∈ ws, ∀ a' U, s.WarmedH U.vm → w.before a' U = true) (hcode : Cond.codeWith y bytes maxL ret hh ∈ ws) (hinit : ∀ a' U, s.WarmedH U.vm → (Cond.initialized y.cls).before a' U = true) :
    vx_Back l R p e below s sargs y len W9 (PreOf R mc ms Pc) (PostOf Qc mc ms free) (vx_Post XC mc ms free) := by
  intro m meth c A g ig mk a X hg hsize hdg hW hn hp
  have h1 : (headSpec ws rm).pre.before a A.U = true := atoms_intro fun w hw => hws w hw _ _ X.warmed
  have h2 : (Cond.codeWith y bytes maxL ret hh).before a A.U = true := hws _ hcode _ _ X.warmed
  have h3 : (Cond.initialized y.cls).before a A.U = true := hinit _ _ X.warmed
  have h4 : A.cells + (headSpec ws rm).room.cells ≤ R.cells := by rw [show (headSpec ws rm).room.cells = mc from hrc]; exact hp.1
  have h5 : A.slots + (headSpec ws rm).room.slots ≤ R.slots := by rw [show (headSpec ws rm).room.slots = ms from hrs]; exact hp.2.1
  have hPc : Pc a (A.U.calling g mk a) := hblind _ _ _ _ hp.2.2
  obtain ⟨U, Ls, c0, s0⟩ := A
  dsimp only [Pt.U, Pt.locs, Pt.cells, Pt.slots] at h1 h2 h3 h4 h5 X hn hPc ⊢
  obtain ⟨m9, methY, cY, hn9, hmY, hcY, -, hlY, -⟩ := Cond.codeWith_spec h2
  cases Option.some.inj (hn9.symm.trans hn)
  obtain ⟨kY, hkY, -⟩ := className_of_methodNamed hn
  have hinitY : kY.init = .initialized := Cond.initialized_spec (findClass_of_methodNamed hn) hkY h3
  have h : At U g.method c below := by rw [hg]; exact X.here
  have hlocals9 : W9 + (maxL + 11) + (headSpec ws rm).room.locals ≤ R.locals := hlocals
  have happ : (headSpec ws rm).appliesLoose y e.platform (U.calling g mk a) = true :=
    Spec.appliesLoose_calling (g := g) h hdg hn hkY hinitY
      (X.room_calling (g := g) (R' := (headSpec ws rm).room) hsize hmY hcY hframes (by rw [hlY]; omega) h4 h5) h1
  obtain ⟨mid, hmid⟩ := h.above
  have hfr : (U.setTop g).frames = (.java g :: mid) ++ below := by rw [State.frames_setTop' g h.top, hmid]; rfl
  obtain ⟨o, s₂, hsteps, -, hend, hq⟩ := Steps.callFree hM p X.admits X.cas X.clock (acts := []) hfr happ hPc trivial
  have hq' : vx_Q Qc XC mc ms free a (U.calling g mk a) o s₂ := hq
  rw [State.frames_setTop' g h.top] at hend
  obtain ⟨g₀, hg0⟩ := Option.isSome_iff_exists.mp h.top
  obtain ⟨r, hr⟩ := State.topJava?_eq_some.mp hg0
  have hr' : (({ U with heap := s₂.heap, slotsUsed := s₂.slotsUsed } : State).setVm s₂.vm).frames = .java g₀ :: r := hr
  rcases hq' with ⟨hqc, L, hfe, hL⟩ | ⟨q, rfl, E, ce, L, hx, hce, hcv, hcl, hW₂, hsm, hL⟩
  · obtain ⟨⟨v, rfl⟩, hW₂, e2, q2, q3, q4, q5, q6⟩ := id hfe
    have e3 : s₂ = ({ (U.calling g mk a).setFrames s₂.frames with heap := s₂.heap, slotsUsed := s₂.slotsUsed } : State).setVm s₂.vm := by
      have : s₂ = ({ s₂ with vm := (U.calling g mk a).vm } : State).setVm s₂.vm := rfl
      rw [e2] at this
      exact this
    obtain ⟨c₂, i₂, len₂, hc₂, hd₂, hf₂⟩ := hend
    have hW' : U.WarmedH s₂.vm := hW₂
    have hcc : c₂ = c := by
      have h1 : s₂.code? g.method = U.code? g.method := by
        rw [State.code?_eq, State.code?_eq, hW'.alike.method?]
      exact Option.some.inj (hc₂.symm.trans (h1.trans h.code))
    subst hcc
    have hlen : len₂ = len := by rw [hdg] at hd₂; cases hd₂; rfl
    subst hlen
    have hs₂ : s₂ = (({ U with heap := s₂.heap, slotsUsed := s₂.slotsUsed } : State).setVm s₂.vm).setTop { g with pc := g.pc + len₂, stack := v.toList ++ g.stack } := by
      refine e3.trans ?_
      rw [hf₂, State.calling_eq h.top, State.setFrames_setFrames, State.setTop_of_frames _ hr', hr]
      rfl
    have hsame : U.sameButNew ({ U with heap := s₂.heap, slotsUsed := s₂.slotsUsed } : State) L mc ms := by
      refine ⟨?_, q2, q3, q4, q5, q6⟩
      obtain ⟨t, ht, -⟩ := State.frames_cons hr
      show ({ U with heap := s₂.heap, slotsUsed := s₂.slotsUsed } : State) = { U.setFrames U.frames with heap := s₂.heap, slotsUsed := s₂.slotsUsed }
      rw [State.setFrames_self ht]
    subst hg
    refine Or.inl ⟨v, ⟨(({ U with heap := s₂.heap, slotsUsed := s₂.slotsUsed } : State).setVm s₂.vm), Ls ++ L, c0 + mc, s0 + ms⟩,
      ⟨X.admits, X.cas, X.clock, X.frames, X.room, X.hears, X.method, X.code, (X.here.setHeapUsed s₂.heap s₂.slotsUsed).setVm hW'.alike, X.tail, State.WarmedH.trans X.warmed hW', X.limits, X.bytes, X.same.trans (hsame.setVm s.vm)⟩,
      ⟨g, mk, s₂, L, rfl, rfl, hqc, rfl, hL, rfl, rfl⟩, ?_⟩
    show Steps p.tables e below _ ((({ U with heap := s₂.heap, slotsUsed := s₂.slotsUsed } : State).setVm s₂.vm).setTop { g with pc := g.pc + len₂, stack := v.toList ++ g.stack })
    rw [← hs₂]
    exact hsteps
  · obtain ⟨e2, q2, q3, q4, q5, q6⟩ := id hsm
    have e3 : s₂ = ({ (U.calling g mk a).setFrames s₂.frames with heap := s₂.heap, slotsUsed := s₂.slotsUsed } : State).setVm s₂.vm := by
      have : s₂ = ({ s₂ with vm := (U.calling g mk a).vm } : State).setVm s₂.vm := rfl
      rw [e2] at this
      exact this
    have hf₂ : s₂.frames = .throwing q :: .java g :: U.frames.tail := hend
    have hW' : U.WarmedH s₂.vm := hW₂
    have hs₂ : s₂ = ((({ U with heap := s₂.heap, slotsUsed := s₂.slotsUsed } : State).setVm s₂.vm).setTop g).pushFrame (.throwing q) := by
      refine e3.trans ?_
      rw [hf₂, State.calling_eq h.top, State.setFrames_setFrames, State.pushFrame, State.frames_setTop _ hr', State.setTop_of_frames _ hr', State.setFrames_setFrames, hr]
      rfl
    have hsame : U.sameButNew ({ U with heap := s₂.heap, slotsUsed := s₂.slotsUsed } : State) L mc ms := by
      refine ⟨?_, q2, q3, q4, q5, q6⟩
      obtain ⟨t, ht, -⟩ := State.frames_cons hr
      show ({ U with heap := s₂.heap, slotsUsed := s₂.slotsUsed } : State) = { U.setFrames U.frames with heap := s₂.heap, slotsUsed := s₂.slotsUsed }
      rw [State.setFrames_self ht]
    subst hg
    refine Or.inr ⟨q, ⟨(({ U with heap := s₂.heap, slotsUsed := s₂.slotsUsed } : State).setVm s₂.vm), Ls ++ L, c0 + mc, s0 + ms⟩,
      ⟨X.admits, X.cas, X.clock, X.frames, X.room, X.hears, X.method, X.code, (X.here.setHeapUsed s₂.heap s₂.slotsUsed).setVm hW'.alike, X.tail, State.WarmedH.trans X.warmed hW', X.limits, X.bytes, X.same.trans (hsame.setVm s.vm)⟩,
      ⟨g, mk, s₂, L, E, ce, rfl, rfl, hx, hce, hcv, hcl, rfl, hL, rfl, rfl⟩, ?_⟩
    show Steps p.tables e below _ (((({ U with heap := s₂.heap, slotsUsed := s₂.slotsUsed } : State).setVm s₂.vm).setTop g).pushFrame (.throwing q))
    rw [← hs₂]
    exact hsteps
end
variable {p : Program} {l : Launch} {e : Env} {R : Room} {s : State} {m : MethodId} {args : Array Value} {below : List Frame} {meth : Method} {c : Code} {T : State} {H : Heap} {locs : List Loc} {cells slots : Nat}
theorem vx_callVX (X : Stand p l e R s m args below meth c T locs cells slots) (hexec : p.tables.exec = Jvm.exec) {own C : String} {index : Nat} {y : MethodName} {bytes : ByteArray} {maxL : Nat} {ret : Option FieldType} {hh : List (Nat × Nat × Nat × Nat)}
    (hown : s.vm.findClass own = some m.cls) (hlink : (Cond.methodLink own index y).before args s = true) (hinst : (Cond.instanceMethod y).before args s = true) (hsel : (Cond.selects C y y).before args s = true)
    (hcode : (Cond.codeWith y bytes maxL ret hh).before args s = true) (hy : y.cls ≠ "java/lang/invoke/MethodHandle" ∧ y.cls ≠ "java/lang/invoke/VarHandle")
    {W9 : Nat} {Pre : Pt → Array Value → Prop} {Post : Pt → Array Value → Option Value → Pt → Prop} {PostX : Pt → Array Value → Addr → Pt → Prop} (hK : vx_Back l R p e below s args y 3 W9 Pre Post PostX)
    {b : Addr} {cellB : Cell} (hcell : T.heap[b]? = some cellB) (hobj : cellB.vm.isStatics = false) (hcls : s.vm.findClass C = some cellB.cls)
    {g : JFrame} (hg : g.method = m) (hsize : g.locals.size = c.maxLocals) {argsL rest : List Value} (hlen : ∀ sig, parseMethodDescriptor y.desc = some sig → argsL.length = sig.parameters.length)
    (hstack : g.stack = argsL.reverse ++ .ref b :: rest) (hW : 2 * g.monitorRoom + (rest.map fun v => v.category).sum ≤ W9) (hdg : decode c.code g.pc = .ok (.invokevirtual index, 3))
    (hpre : ∀ vm₁, s.WarmedH vm₁ → Pre ⟨T.setVm vm₁, locs, cells, slots⟩ (Value.ref b :: argsL).toArray) :
    (∃ (v : Option Value) (vm₁ : Vm) (B : Pt), s.WarmedH vm₁ ∧ Stand p l e R s m args below meth c B.U B.locs B.cells B.slots ∧ Post ⟨T.setVm vm₁, locs, cells, slots⟩ (Value.ref b :: argsL).toArray v B ∧
      ∀ target, Steps p.tables e below (B.U.setTop { g with pc := g.pc + 3, stack := v.toList ++ rest }) target → Steps p.tables e below (T.setTop g) target) ∨
    (∃ (q : Addr) (vm₁ : Vm) (B : Pt), s.WarmedH vm₁ ∧ Stand p l e R s m args below meth c B.U B.locs B.cells B.slots ∧ PostX ⟨T.setVm vm₁, locs, cells, slots⟩ (Value.ref b :: argsL).toArray q B ∧
      Steps p.tables e below (T.setTop g) ((B.U.setTop { g with stack := rest }).pushFrame (.throwing q))) := by
  obtain ⟨mk, methM, hnamed, hmethM, hstM, habM⟩ := Cond.instanceMethod_spec hinst
  obtain ⟨m8, methM', cM, hn8, hmethM', -, -, -, -, -, -, hsigM⟩ := Cond.codeWith_spec hcode
  cases Option.some.inj (hn8.symm.trans hnamed)
  cases hmethM.symm.trans hmethM'
  obtain ⟨c2, r2, m2, q1, q2, q3, q4, kP, hkP, hkPi⟩ := Cond.selects_spec hsel
  cases hcls.symm.trans q1
  cases (State.methodFound?_of_named hnamed hy).symm.trans q2
  cases hnamed.symm.trans q3
  have hselP : selectMethod e.platform s.vm cellB.cls mk = .method mk := by rw [Launch.admits_selectMethod X.admits]; exact q4
  obtain ⟨vm₁, X₁, hstep₁⟩ := X.invokevirtual hexec hown hlink hnamed hmethM hstM hkP hkPi hy (a := b) (cell := cellB) hcell
    (fun z h => by rw [h] at hobj; cases hobj) hselP hmethM habM hkP hkPi (g := g) hg (argsL := argsL) (rest := rest) (hlen _ hsigM) hstack hdg
  rcases hK m meth c ⟨T.setVm vm₁, locs, cells, slots⟩ { g with stack := rest } (.invokevirtual index) mk (Value.ref b :: argsL).toArray X₁ hg hsize hdg hW (X₁.named hnamed) (hpre vm₁ X₁.warmed) with ⟨v, B, X', hpost, hsteps⟩ | ⟨q, B, X', hpost, hsteps⟩
  · exact Or.inl ⟨v, vm₁, B, X₁.warmed, X', hpost, fun target h => hstep₁ _ fun acts => by rw [doInvoke_state]; exact hsteps.trans h⟩
  · exact Or.inr ⟨q, vm₁, B, X₁.warmed, X', hpost, hstep₁ _ fun acts => by rw [doInvoke_state]; exact hsteps⟩
theorem vx_callSX (X : Stand p l e R s m args below meth c T locs cells slots) (hexec : p.tables.exec = Jvm.exec) {own : String} {index : Nat} {y : MethodName} {bytes : ByteArray} {maxL : Nat} {ret : Option FieldType} {hh : List (Nat × Nat × Nat × Nat)}
    (hown : s.vm.findClass own = some m.cls) (hlink : (Cond.methodLink own index y).before args s = true) (hstat : (Cond.static y).before args s = true) (hinit : (Cond.initialized y.cls).before args s = true)
    (hcode : (Cond.codeWith y bytes maxL ret hh).before args s = true) (hy : y.cls ≠ "java/lang/invoke/MethodHandle" ∧ y.cls ≠ "java/lang/invoke/VarHandle")
    {W9 : Nat} {Pre : Pt → Array Value → Prop} {Post : Pt → Array Value → Option Value → Pt → Prop} {PostX : Pt → Array Value → Addr → Pt → Prop} (hK : vx_Back l R p e below s args y 3 W9 Pre Post PostX)
    {g : JFrame} (hg : g.method = m) (hsize : g.locals.size = c.maxLocals) {argsL rest : List Value} (hlen : ∀ sig, parseMethodDescriptor y.desc = some sig → argsL.length = sig.parameters.length)
    (hstack : g.stack = argsL.reverse ++ rest) (hW : 2 * g.monitorRoom + (rest.map fun v => v.category).sum ≤ W9) (hdg : decode c.code g.pc = .ok (.invokestatic index, 3))
    (hpre : ∀ vm₁, s.WarmedH vm₁ → Pre ⟨T.setVm vm₁, locs, cells, slots⟩ argsL.toArray) :
    (∃ (v : Option Value) (vm₁ : Vm) (B : Pt), s.WarmedH vm₁ ∧ Stand p l e R s m args below meth c B.U B.locs B.cells B.slots ∧ Post ⟨T.setVm vm₁, locs, cells, slots⟩ argsL.toArray v B ∧
      ∀ target, Steps p.tables e below (B.U.setTop { g with pc := g.pc + 3, stack := v.toList ++ rest }) target → Steps p.tables e below (T.setTop g) target) ∨
    (∃ (q : Addr) (vm₁ : Vm) (B : Pt), s.WarmedH vm₁ ∧ Stand p l e R s m args below meth c B.U B.locs B.cells B.slots ∧ PostX ⟨T.setVm vm₁, locs, cells, slots⟩ argsL.toArray q B ∧
      Steps p.tables e below (T.setTop g) ((B.U.setTop { g with stack := rest }).pushFrame (.throwing q))) := by
  obtain ⟨mk, methM, cM, hnamed, hmethM, -, -, -, -, -, -, hsigM⟩ := Cond.codeWith_spec hcode
  have hstatic : methM.isStatic = true := Cond.static_spec hnamed hmethM hstat
  obtain ⟨kP, hkP, -⟩ := className_of_methodNamed hnamed
  have hinitP : kP.init = .initialized := Cond.initialized_spec (findClass_of_methodNamed hnamed) hkP hinit
  obtain ⟨vm₁, X₁, hstep₁⟩ := X.invokestatic hexec hown hlink hnamed hmethM hstatic hkP hinitP hy (g := g) hg (argsL := argsL) (rest := rest) (hlen _ hsigM) hstack hdg
  rcases hK m meth c ⟨T.setVm vm₁, locs, cells, slots⟩ { g with stack := rest } (.invokestatic index) mk argsL.toArray X₁ hg hsize hdg hW (X₁.named hnamed) (hpre vm₁ X₁.warmed) with ⟨v, B, X', hpost, hsteps⟩ | ⟨q, B, X', hpost, hsteps⟩
  · exact Or.inl ⟨v, vm₁, B, X₁.warmed, X', hpost, fun target h => hstep₁ _ fun acts => by rw [doInvoke_state]; exact hsteps.trans h⟩
  · exact Or.inr ⟨q, vm₁, B, X₁.warmed, X', hpost, hstep₁ _ fun acts => by rw [doInvoke_state]; exact hsteps⟩
theorem vx_callVW (X : Stand p l e R s m args below meth c T locs cells slots) (hexec : p.tables.exec = Jvm.exec) {own C : String} {index : Nat} {y : MethodName} {bytes : ByteArray} {maxL : Nat} {ret : Option FieldType} {hh : List (Nat × Nat × Nat × Nat)}
    (hown : s.vm.findClass own = some m.cls) (hlink : (Cond.methodLink own index y).before args s = true) (hinst : (Cond.instanceMethod y).before args s = true) (hsel : (Cond.selects C y y).before args s = true)
    (hcode : (Cond.codeWith y bytes maxL ret hh).before args s = true) (hy : y.cls ≠ "java/lang/invoke/MethodHandle" ∧ y.cls ≠ "java/lang/invoke/VarHandle")
    {W9 : Nat} {Pre : Pt → Array Value → Prop} {Post : Pt → Array Value → Option Value → Pt → Prop} (hK : Back l R p e below s args y 3 W9 Pre Post)
    {b : Addr} {cellB : Cell} (hcell : T.heap[b]? = some cellB) (hobj : cellB.vm.isStatics = false) (hcls : s.vm.findClass C = some cellB.cls)
    {g : JFrame} (hg : g.method = m) (hsize : g.locals.size = c.maxLocals) {argsL rest : List Value} (hlen : ∀ sig, parseMethodDescriptor y.desc = some sig → argsL.length = sig.parameters.length)
    (hstack : g.stack = argsL.reverse ++ .ref b :: rest) (hW : 2 * g.monitorRoom + (rest.map fun v => v.category).sum ≤ W9) (hdg : decode c.code g.pc = .ok (.invokevirtual index, 3))
    (hpre : ∀ vm₁, s.WarmedH vm₁ → Pre ⟨T.setVm vm₁, locs, cells, slots⟩ (Value.ref b :: argsL).toArray) :
    ∃ (v : Option Value) (vm₁ : Vm) (B : Pt), s.WarmedH vm₁ ∧ Stand p l e R s m args below meth c B.U B.locs B.cells B.slots ∧ Post ⟨T.setVm vm₁, locs, cells, slots⟩ (Value.ref b :: argsL).toArray v B ∧
      ∀ target, Steps p.tables e below (B.U.setTop { g with pc := g.pc + 3, stack := v.toList ++ rest }) target → Steps p.tables e below (T.setTop g) target := by
  obtain ⟨mk, methM, hnamed, hmethM, hstM, habM⟩ := Cond.instanceMethod_spec hinst
  obtain ⟨m8, methM', cM, hn8, hmethM', -, -, -, -, -, -, hsigM⟩ := Cond.codeWith_spec hcode
  cases Option.some.inj (hn8.symm.trans hnamed)
  cases hmethM.symm.trans hmethM'
  obtain ⟨c2, r2, m2, q1, q2, q3, q4, kP, hkP, hkPi⟩ := Cond.selects_spec hsel
  cases hcls.symm.trans q1
  cases (State.methodFound?_of_named hnamed hy).symm.trans q2
  cases hnamed.symm.trans q3
  have hselP : selectMethod e.platform s.vm cellB.cls mk = .method mk := by rw [Launch.admits_selectMethod X.admits]; exact q4
  obtain ⟨vm₁, X₁, hstep₁⟩ := X.invokevirtual hexec hown hlink hnamed hmethM hstM hkP hkPi hy (a := b) (cell := cellB) hcell
    (fun z h => by rw [h] at hobj; cases hobj) hselP hmethM habM hkP hkPi (g := g) hg (argsL := argsL) (rest := rest) (hlen _ hsigM) hstack hdg
  obtain ⟨v, B, X', hpost, hsteps⟩ := hK m meth c ⟨T.setVm vm₁, locs, cells, slots⟩ { g with stack := rest } (.invokevirtual index) mk (Value.ref b :: argsL).toArray X₁ hg hsize hdg hW (X₁.named hnamed) (hpre vm₁ X₁.warmed)
  exact ⟨v, vm₁, B, X₁.warmed, X', hpost, fun target h => hstep₁ _ fun acts => by rw [doInvoke_state]; exact hsteps.trans h⟩
abbrev vx_CVW (R : Room) (s : State) (args : Array Value) (own C : String) (index : Nat) (y : MethodName) (bytes : ByteArray) (maxL : Nat) (ret : Option FieldType) (hh : List (Nat × Nat × Nat × Nat)) (ws : List Cond) (rm : Room) (mc ms n : Nat) : Prop :=
  (rm.cells = mc ∧ rm.slots = ms ∧ rm.frames + 1 ≤ R.frames ∧ 8 + (maxL + 11) + rm.locals ≤ R.locals ∧ (∀ w ∈ ws, ∀ (a' : Array Value) (U : State), s.WarmedH U.vm → w.before a' U = true) ∧ Cond.codeWith y bytes maxL ret hh ∈ ws) ∧
  (Cond.codeWith y bytes maxL ret hh).before args s = true ∧ (Cond.initialized y.cls).before args s = true ∧ (y.cls ≠ "java/lang/invoke/MethodHandle" ∧ y.cls ≠ "java/lang/invoke/VarHandle") ∧
  (∀ sig, parseMethodDescriptor y.desc = some sig → n = sig.parameters.length) ∧ (Cond.methodLink own index y).before args s = true ∧ (Cond.instanceMethod y).before args s = true ∧ (Cond.selects C y y).before args s = true
theorem vx_cwVW {own C : String} {index maxL mc ms : Nat} {y : MethodName} {bytes : ByteArray} {ret : Option FieldType} {hh : List (Nat × Nat × Nat × Nat)} {Ts ws ws' : List Cond} {rm : Room} (n : Nat) (ht : ∀ w ∈ Ts, w.before args s = true) (hT : GoodIn Ts (wsV own index C y ws)) (hw : ws = Cond.codeWith y bytes maxL ret hh :: ws') (hrc : rm.cells = mc) (hrs : rm.slots = ms)
    (hd : y.cls = C ∧ y.cls ≠ "java/lang/invoke/MethodHandle" ∧ y.cls ≠ "java/lang/invoke/VarHandle" ∧ (parseMethodDescriptor y.desc).map (fun d => d.parameters.length) = some n) (hR : rm.frames + 1 ≤ R.frames ∧ 8 + (maxL + 11) + rm.locals ≤ R.locals) :
    vx_CVW R s args own C index y bytes maxL ret hh ws rm mc ms n := by
  obtain ⟨hC, hd⟩ := hd
  subst hC
  have ok : ∀ w ∈ wsV own index y.cls y ws, w.before args s = true := fun w h => ht w (hT w h).1
  have hG : GoodIn Ts ws := fun w h => hT w (by unfold wsV; exact List.mem_append_right _ h)
  have hc : Cond.codeWith y bytes maxL ret hh ∈ ws := by rw [hw]; exact List.mem_cons_self
  refine ⟨⟨hrc, hrs, hR.1, hR.2, pay_in ht hG, hc⟩, ht _ (hG _ hc).1, ok _ (by simp [wsV]), ⟨hd.1, hd.2.1⟩, fun sig h => ?_, ok _ (by simp [wsV]), ok _ (by simp [wsV]), ok _ (by simp [wsV])⟩
  have h2 := hd.2.2
  rw [h] at h2
  exact (Option.some.inj h2).symm
theorem vx_runVW {y : MethodName} {bytes cc : ByteArray} {maxL nL mc ms n index : Nat} {ret : Option FieldType} {hh : List (Nat × Nat × Nat × Nat)} {ws : List Cond} {rm : Room} {Pc : Array Value → State → Prop} {Qc : Array Value → State → Outcome → State → Prop} {free : Addr → Prop} {Ts : List Cond} {own C : String} {b : Addr} {As rest : List Value} {g : JFrame}
    (S : CallFix p m c cc nL s args Ts own) (hM : Met l y ws rm Pc Qc mc ms free) (cw : vx_CVW R s args own C index y bytes maxL ret hh ws rm mc ms n) (hp : PreV s H C b Pc As)
    (hg : g.method = m) (hn : As.length = n) (hsize : g.locals.size = nL) (hstack : g.stack = As.reverse ++ .ref b :: rest) (hW : 2 * g.monitorRoom + (rest.map fun v => v.category).sum ≤ 8) (hdg : decode cc g.pc = .ok (.invokevirtual index, 3)) (hf : cells + mc ≤ R.cells ∧ slots + ms ≤ R.slots) :
    va_Run p l e R s m args below meth c H locs cells slots mc ms g rest (Qc (Value.ref b :: As).toArray) free := by
  obtain ⟨⟨hrc, hrs, hfr, hlo, hws, hcw⟩, hcode, hini, hy, hlen, hl, hin, hse⟩ := cw
  have hK : Back l R p e below s args y 3 8 (PreOf R mc ms Pc) (PostOf Qc mc ms free) := va_backW (hh := hh) (bytes := bytes) (maxL := maxL) (ret := ret) hM hp.1 hrc hrs hfr hlo hws hcw (fun a' U hW => word_at hW (Or.inl (by first | rfl | simp [Cond.onTables, Cond.keeps, Cond.steady])) hini)
  obtain ⟨hx, hb, hml, ho, -⟩ := S
  obtain ⟨-, ⟨cellB, hcB, hoB, hclB⟩, hPc⟩ := hp
  intro T hT X
  obtain ⟨v, vm₁, ⟨U', l2, c2, s2⟩, hW₁, X', ⟨g', mk, t, L, e1, e2, hq, h1, hL, h2, h3⟩, st⟩ := vx_callVW X hx (C := C) (hh := hh) (bytes := bytes) (maxL := maxL) (ret := ret) ho hl hin hse hcode hy hK (by rw [hT]; exact hcB) hoB hclB hg (hsize.trans hml.symm) (argsL := As) (rest := rest) (fun sig h => hn.trans (hlen sig h)) hstack hW (by rw [hb]; exact hdg)
    (fun vm₁ hW₁ => ⟨hf.1, hf.2, hPc (T.setVm vm₁) hT hW₁⟩)
  dsimp only [Pt.U, Pt.locs, Pt.cells, Pt.slots] at X' e1 e2 h1 h2 h3 st
  subst h1; subst h2; subst h3
  exact ⟨v, (T.setVm vm₁).calling g' mk (Value.ref b :: As).toArray, t, U', L, hT, X', hL, e1, e2, hq, st⟩
section
variable {y : MethodName} {bytes cc : ByteArray} {maxL nL mc ms n index : Nat} {ret : Option FieldType} {ws : List Cond} {rm : Room} {Pc : Array Value → State → Prop} {Qc : Array Value → State → Outcome → State → Prop} {XC : String → State → State → Prop} {free : Addr → Prop} {Ts : List Cond} {own C : String} {b : Addr} {As rest : List Value} {g : JFrame}
theorem vx_runVX {hh : List (Nat × Nat × Nat × Nat)} (S : CallFix p m c cc nL s args Ts own) (hM : vx_Met l y ws rm Pc Qc XC mc ms free) (cw : vx_CVW R s args own C index y bytes maxL ret hh ws rm mc ms n) (hp : PreV s H C b Pc As)
    (hg : g.method = m) (hn : As.length = n) (hsize : g.locals.size = nL) (hstack : g.stack = As.reverse ++ .ref b :: rest) (hW : 2 * g.monitorRoom + (rest.map fun v => v.category).sum ≤ 8) (hdg : decode cc g.pc = .ok (.invokevirtual index, 3)) (hf : cells + mc ≤ R.cells ∧ slots + ms ≤ R.slots) :
    vx_Run p l e R s m args below meth c H locs cells slots mc ms g rest (Qc (Value.ref b :: As).toArray) XC free := by
  obtain ⟨⟨hrc, hrs, hfr, hlo, hws, hcw⟩, hcode, hini, hy, hlen, hl, hin, hse⟩ := cw
  have hK : vx_Back l R p e below s args y 3 8 (PreOf R mc ms Pc) (PostOf Qc mc ms free) (vx_Post XC mc ms free) := vx_backW (hh := hh) (bytes := bytes) (maxL := maxL) (ret := ret) hM hp.1 hrc hrs hfr hlo hws hcw (fun a' U hW => word_at hW (Or.inl (by first | rfl | simp [Cond.onTables, Cond.keeps, Cond.steady])) hini)
  obtain ⟨hx, hb, hml, ho, -⟩ := S
  obtain ⟨-, ⟨cellB, hcB, hoB, hclB⟩, hPc⟩ := hp
  intro T hT X
  rcases vx_callVX X hx (C := C) (hh := hh) (bytes := bytes) (maxL := maxL) (ret := ret) ho hl hin hse hcode hy hK (by rw [hT]; exact hcB) hoB hclB hg (hsize.trans hml.symm) (argsL := As) (rest := rest) (fun sig h => hn.trans (hlen sig h)) hstack hW (by rw [hb]; exact hdg)
    (fun vm₁ hW₁ => ⟨hf.1, hf.2, hPc (T.setVm vm₁) hT hW₁⟩) with ⟨v, vm₁, ⟨U', l2, c2, s2⟩, hW₁, X', ⟨g', mk, t, L, e1, e2, hq, h1, hL, h2, h3⟩, st⟩ | ⟨q, vm₁, ⟨U', l2, c2, s2⟩, hW₁, X', ⟨g', mk, t, L, E, ce, e1, e2, hq, hce, hcv, hcl, h1, hL, h2, h3⟩, st⟩
  · dsimp only [Pt.U, Pt.locs, Pt.cells, Pt.slots] at X' e1 e2 h1 h2 h3 st
    subst h1; subst h2; subst h3
    exact Or.inl ⟨v, (T.setVm vm₁).calling g' mk (Value.ref b :: As).toArray, t, U', L, hT, X', hL, e1, e2, hq, st⟩
  · dsimp only [Pt.U, Pt.locs, Pt.cells, Pt.slots] at X' e1 e2 h1 h2 h3 st hcl
    subst h1; subst h2; subst h3
    exact Or.inr ⟨q, (T.setVm vm₁).calling g' mk (Value.ref b :: As).toArray, t, U', L, E, ce, hT, X', hL, e1, e2, hq, hce, hcv, vx_cls hW₁ hcl, st⟩
theorem vx_runSX {hh : List (Nat × Nat × Nat × Nat)} (S : CallFix p m c cc nL s args Ts own) (hM : vx_Met l y ws rm Pc Qc XC mc ms free) (cw : vx_CSW R s args own index y bytes maxL ret hh ws rm mc ms n) (hp : PreS s H Pc As)
    (hg : g.method = m) (hn : As.length = n) (hsize : g.locals.size = nL) (hstack : g.stack = As.reverse ++ rest) (hW : 2 * g.monitorRoom + (rest.map fun v => v.category).sum ≤ 8) (hdg : decode cc g.pc = .ok (.invokestatic index, 3)) (hf : cells + mc ≤ R.cells ∧ slots + ms ≤ R.slots) :
    vx_Run p l e R s m args below meth c H locs cells slots mc ms g rest (Qc As.toArray) XC free := by
  obtain ⟨⟨hrc, hrs, hfr, hlo, hws, hcw⟩, hcode, hini, hy, hlen, hl, hstt⟩ := cw
  have hK : vx_Back l R p e below s args y 3 8 (PreOf R mc ms Pc) (PostOf Qc mc ms free) (vx_Post XC mc ms free) := vx_backW (hh := hh) (bytes := bytes) (maxL := maxL) (ret := ret) hM hp.1 hrc hrs hfr hlo hws hcw (fun a' U hW => word_at hW (Or.inl (by first | rfl | simp [Cond.onTables, Cond.keeps, Cond.steady])) hini)
  obtain ⟨hx, hb, hml, ho, -⟩ := S
  intro T hT X
  rcases vx_callSX X hx (hh := hh) (bytes := bytes) (maxL := maxL) (ret := ret) ho hl hstt hini hcode hy hK hg (hsize.trans hml.symm) (argsL := As) (rest := rest) (fun sig h => hn.trans (hlen sig h)) hstack hW (by rw [hb]; exact hdg)
    (fun vm₁ hW₁ => ⟨hf.1, hf.2, hp.2 (T.setVm vm₁) hT hW₁⟩) with ⟨v, vm₁, ⟨U', l2, c2, s2⟩, hW₁, X', ⟨g', mk, t, L, e1, e2, hq, h1, hL, h2, h3⟩, st⟩ | ⟨q, vm₁, ⟨U', l2, c2, s2⟩, hW₁, X', ⟨g', mk, t, L, E, ce, e1, e2, hq, hce, hcv, hcl, h1, hL, h2, h3⟩, st⟩
  · dsimp only [Pt.U, Pt.locs, Pt.cells, Pt.slots] at X' e1 e2 h1 h2 h3 st
    subst h1; subst h2; subst h3
    exact Or.inl ⟨v, (T.setVm vm₁).calling g' mk As.toArray, t, U', L, hT, X', hL, e1, e2, hq, st⟩
  · dsimp only [Pt.U, Pt.locs, Pt.cells, Pt.slots] at X' e1 e2 h1 h2 h3 st hcl
    subst h1; subst h2; subst h3
    exact Or.inr ⟨q, (T.setVm vm₁).calling g' mk As.toArray, t, U', L, E, ce, hT, X', hL, e1, e2, hq, hce, hcv, vx_cls hW₁ hcl, st⟩
end
end VXH
theorem vx_ofWH {l : Launch} {y : MethodName} {ws ws' : List Cond} {rm : Room} {Pc : Array Value → State → Prop} {Qc : Array Value → State → Outcome → State → Prop} {XC : String → State → State → Prop} {mc ms : Nat} {free : Addr → Prop} {cc : ByteArray} {maxL : Nat} {ret : Option FieldType} {hh : List (Nat × Nat × Nat × Nat)}
    (hy : plainName y.cls = true) (hw : ws = Cond.codeWith y cc maxL ret hh :: ws')
    (body : ∀ p e s m args below meth c s₁, BodyLoose p l y (headSpec ws rm) cc maxL ret e s m args below meth c s₁ → c.maxLocals = maxL → Pc args s →
      W p l e (headSpec ws rm).room s m args below meth c s.heap [] 0 0 (vx_MQ below Qc XC args s mc ms free) (entryFrame m args maxL)) : vx_Met l y ws rm Pc Qc XC mc ms free := by
  refine MetFree.of_bodyS (code := cc) (maxLocals := maxL) (ret := ret) hy ?_ ?_
  · intro args s m h hn
    obtain ⟨m9, meth, c, hn9, h1, h2, h3, h4, -, h5, h6, -⟩ := Cond.codeWith_spec (atoms_spec (ws := ws) h _ (by rw [hw]; exact List.mem_cons_self))
    cases hn.symm.trans hn9
    exact ⟨meth, c, h1, h2, h3, h4, h5, h6⟩
  · intro p e s m args below meth c s₁ B hml hP _
    have hh0 : s₁.heap = s.heap := by rw [B.state]; rfl
    obtain ⟨t, a1, o, b1, b2, b3⟩ := body p e s m args below meth c s₁ B hml hP s₁ hh0 (Stand.of_body B)
    exact ⟨t, o, a1, b1, b2, b3⟩
/-! ===== END ===== -/
end
section
/-! ===== BEGIN printed: names, fields, word lists, decode rows ===== -/
def RX0 : String := "CapacityRound$Demand"
def TX0 : u_T := fun k => match k with
  | 0 => ("CapacityRound$Demand", "worths", "[I", true)
  | 1 => ("CapacityRound$Demand", "lowerAmount", "I", false)
  | 2 => ("CapacityRound$Demand", "upperAmount", "I", false)
  | _ => ("CapacityRound$Demand", "topPrice", "I", false)
def tyX0 : Nat → FieldType := fun k => match k with
  | 0 => .array .int
  | 1 => .int
  | 2 => .int
  | _ => .int
abbrev wsX00 : List Cond := u_ws RX0 TX0 4
theorem nmX0 : ∀ a, a < 4 → ∀ b, b < 4 → a ≠ b → (TX0 a).2.1 ≠ (TX0 b).2.1 := by decide +kernel
theorem tyX0_ok : ∀ k, k < 4 → parseFieldDescriptor (TX0 k).2.2.1 = some (tyX0 k) := by decide +kernel
abbrev cX0_init : ByteArray := prog_2_method_1_code
def yX0_init : MethodName := ⟨RX0, "<init>", "()V"⟩
abbrev cX0_change : ByteArray := prog_2_method_2_code
def yX0_change : MethodName := ⟨RX0, "change", "(III)V"⟩
abbrev cX0_valueOf : ByteArray := prog_2_method_3_code
def yX0_valueOf : MethodName := ⟨RX0, "valueOf", "(I)I"⟩
abbrev cX0_worthOf : ByteArray := prog_2_method_4_code
def yX0_worthOf : MethodName := ⟨RX0, "worthOf", "(I)I"⟩
def RX1 : String := "CapacityRound$Queue"
def TX1 : u_T := fun k => match k with
  | 0 => ("CapacityRound$Queue", "parties", "[I", true)
  | 1 => ("CapacityRound$Queue", "amounts", "[I", true)
  | 2 => ("CapacityRound$Queue", "terms", "[I", true)
  | 3 => ("CapacityRound$Queue", "order", "[I", true)
  | 4 => ("CapacityRound$Queue", "count", "I", false)
  | 5 => ("CapacityRound$Queue", "exits", "[I", true)
  | _ => ("CapacityRound$Queue", "in", "[Z", true)
def tyX1 : Nat → FieldType := fun k => match k with
  | 0 => .array .int
  | 1 => .array .int
  | 2 => .array .int
  | 3 => .array .int
  | 4 => .int
  | 5 => .array .int
  | _ => .array .boolean
abbrev wsX10 : List Cond := u_ws RX1 TX1 7
theorem nmX1 : ∀ a, a < 7 → ∀ b, b < 7 → a ≠ b → (TX1 a).2.1 ≠ (TX1 b).2.1 := by decide +kernel
theorem tyX1_ok : ∀ k, k < 7 → parseFieldDescriptor (TX1 k).2.2.1 = some (tyX1 k) := by decide +kernel
abbrev cX1_init : ByteArray := prog_3_method_1_code
def yX1_init : MethodName := ⟨RX1, "<init>", "()V"⟩
abbrev cX1_isFull : ByteArray := prog_3_method_2_code
def yX1_isFull : MethodName := ⟨RX1, "isFull", "()Z"⟩
abbrev cX1_has : ByteArray := prog_3_method_3_code
def yX1_has : MethodName := ⟨RX1, "has", "(I)Z"⟩
abbrev cX1_clear : ByteArray := prog_3_method_4_code
def yX1_clear : MethodName := ⟨RX1, "clear", "()V"⟩
abbrev cX1_add : ByteArray := prog_3_method_5_code
def yX1_add : MethodName := ⟨RX1, "add", "(IIII)I"⟩
abbrev cX1_amountUpTo : ByteArray := prog_3_method_6_code
def yX1_amountUpTo : MethodName := ⟨RX1, "amountUpTo", "(I)I"⟩
abbrev cX1_bestFirst : ByteArray := prog_3_method_7_code
def yX1_bestFirst : MethodName := ⟨RX1, "bestFirst", "(LCapacityRound$Demand;I)I"⟩
abbrev cX1_priceOfFirst : ByteArray := prog_3_method_8_code
def yX1_priceOfFirst : MethodName := ⟨RX1, "priceOfFirst", "(I)I"⟩
abbrev cX1_isAmongFirst : ByteArray := prog_3_method_9_code
def yX1_isAmongFirst : MethodName := ⟨RX1, "isAmongFirst", "(II)Z"⟩
abbrev cX1_priceByClock : ByteArray := prog_3_method_10_code
def yX1_priceByClock : MethodName := ⟨RX1, "priceByClock", "(LCapacityRound$Demand;I)I"⟩
abbrev cX1_dearestIn : ByteArray := prog_3_method_11_code
def yX1_dearestIn : MethodName := ⟨RX1, "dearestIn", "()I"⟩
abbrev cX1_exitOf : ByteArray := prog_3_method_12_code
def yX1_exitOf : MethodName := ⟨RX1, "exitOf", "(I)I"⟩
def RX2 : String := "CapacityRound"
def TX2 : u_T := fun k => match k with
  | 0 => ("CapacityRound", "demand", "LCapacityRound$Demand;", true)
  | 1 => ("CapacityRound", "queue", "LCapacityRound$Queue;", true)
  | 2 => ("CapacityRound", "boughtByYear", "[I", true)
  | 3 => ("CapacityRound", "incomes", "[I", true)
  | 4 => ("CapacityRound", "obligations", "[I", true)
  | 5 => ("CapacityRound", "outputs", "[I", true)
  | 6 => ("CapacityRound", "stressed", "[Z", true)
  | 7 => ("CapacityRound", "tradeCount", "I", false)
  | 8 => ("CapacityRound", "penaltyRate", "I", false)
  | _ => ("CapacityRound", "penaltyCap", "I", false)
def tyX2 : Nat → FieldType := fun k => match k with
  | 0 => .object "CapacityRound$Demand"
  | 1 => .object "CapacityRound$Queue"
  | 2 => .array .int
  | 3 => .array .int
  | 4 => .array .int
  | 5 => .array .int
  | 6 => .array .boolean
  | 7 => .int
  | 8 => .int
  | _ => .int
abbrev wsX20 : List Cond := u_ws RX2 TX2 10
theorem nmX2 : ∀ a, a < 10 → ∀ b, b < 10 → a ≠ b → (TX2 a).2.1 ≠ (TX2 b).2.1 := by decide +kernel
theorem tyX2_ok : ∀ k, k < 10 → parseFieldDescriptor (TX2 k).2.2.1 = some (tyX2 k) := by decide +kernel
abbrev cX2_init : ByteArray := prog_1_method_1_code
def yX2_init : MethodName := ⟨RX2, "<init>", "()V"⟩
abbrev cX2_setDemand : ByteArray := prog_1_method_2_code
def yX2_setDemand : MethodName := ⟨RX2, "setDemand", "(III)V"⟩
abbrev cX2_value : ByteArray := prog_1_method_3_code
def yX2_value : MethodName := ⟨RX2, "value", "(I)I"⟩
abbrev cX2_worth : ByteArray := prog_1_method_4_code
def yX2_worth : MethodName := ⟨RX2, "worth", "(I)I"⟩
abbrev cX2_offer : ByteArray := prog_1_method_5_code
def yX2_offer : MethodName := ⟨RX2, "offer", "(IIIII)I"⟩
abbrev cX2_offers : ByteArray := prog_1_method_6_code
def yX2_offers : MethodName := ⟨RX2, "offers", "()I"⟩
abbrev cX2_supply : ByteArray := prog_1_method_7_code
def yX2_supply : MethodName := ⟨RX2, "supply", "(I)I"⟩
abbrev cX2_clearing : ByteArray := prog_1_method_8_code
def yX2_clearing : MethodName := ⟨RX2, "clearing", "(I)I"⟩
abbrev cX2_clearingByClock : ByteArray := prog_1_method_9_code
def yX2_clearingByClock : MethodName := ⟨RX2, "clearingByClock", "(I)I"⟩
abbrev cX2_wouldTake : ByteArray := prog_1_method_10_code
def yX2_wouldTake : MethodName := ⟨RX2, "wouldTake", "(II)Z"⟩
abbrev cX2_run : ByteArray := prog_1_method_11_code
def yX2_run : MethodName := ⟨RX2, "run", "(I)I"⟩
abbrev cX2_bought : ByteArray := prog_1_method_12_code
def yX2_bought : MethodName := ⟨RX2, "bought", "(I)I"⟩
abbrev cX2_income : ByteArray := prog_1_method_13_code
def yX2_income : MethodName := ⟨RX2, "income", "(II)I"⟩
abbrev cX2_obligation : ByteArray := prog_1_method_14_code
def yX2_obligation : MethodName := ⟨RX2, "obligation", "(III)I"⟩
abbrev cX2_trade : ByteArray := prog_1_method_15_code
def yX2_trade : MethodName := ⟨RX2, "trade", "(IIIIII)I"⟩
abbrev cX2_trades : ByteArray := prog_1_method_16_code
def yX2_trades : MethodName := ⟨RX2, "trades", "()I"⟩
abbrev cX2_stress : ByteArray := prog_1_method_17_code
def yX2_stress : MethodName := ⟨RX2, "stress", "(II)Z"⟩
abbrev cX2_tell : ByteArray := prog_1_method_18_code
def yX2_tell : MethodName := ⟨RX2, "tell", "(IIII)I"⟩
abbrev cX2_setPenalty : ByteArray := prog_1_method_19_code
def yX2_setPenalty : MethodName := ⟨RX2, "setPenalty", "(II)V"⟩
abbrev cX2_lack : ByteArray := prog_1_method_20_code
def yX2_lack : MethodName := ⟨RX2, "lack", "(II)I"⟩
abbrev cX2_penalty : ByteArray := prog_1_method_21_code
def yX2_penalty : MethodName := ⟨RX2, "penalty", "(II)I"⟩
abbrev cX2_penalties : ByteArray := prog_1_method_22_code
def yX2_penalties : MethodName := ⟨RX2, "penalties", "()J"⟩
abbrev cX2_isWithin : ByteArray := prog_1_method_23_code
def yX2_isWithin : MethodName := ⟨RX2, "isWithin", "(III)Z"⟩
abbrev cX2_isParty : ByteArray := prog_1_method_24_code
def yX2_isParty : MethodName := ⟨RX2, "isParty", "(I)Z"⟩
abbrev cX2_isYear : ByteArray := prog_1_method_25_code
def yX2_isYear : MethodName := ⟨RX2, "isYear", "(I)Z"⟩
abbrev cX2_isHour : ByteArray := prog_1_method_26_code
def yX2_isHour : MethodName := ⟨RX2, "isHour", "(I)Z"⟩
abbrev cX2_yearCell : ByteArray := prog_1_method_27_code
def yX2_yearCell : MethodName := ⟨RX2, "yearCell", "(II)I"⟩
abbrev cX2_hourCell : ByteArray := prog_1_method_28_code
def yX2_hourCell : MethodName := ⟨RX2, "hourCell", "(III)I"⟩
abbrev cX2_take : ByteArray := prog_1_method_29_code
def yX2_take : MethodName := ⟨RX2, "take", "(III)V"⟩
abbrev cX2_leastObligation : ByteArray := prog_1_method_30_code
def yX2_leastObligation : MethodName := ⟨RX2, "leastObligation", "(IIII)I"⟩
abbrev cX2_lackOf : ByteArray := prog_1_method_31_code
def yX2_lackOf : MethodName := ⟨RX2, "lackOf", "(II)I"⟩
abbrev cX2_penaltyOf : ByteArray := prog_1_method_32_code
def yX2_penaltyOf : MethodName := ⟨RX2, "penaltyOf", "(II)I"⟩
def RX3 : String := "CapacityRoundModel"
def TX3 : u_T := fun k => match k with
  | _ => ("", "", "", false)
def tyX3 : Nat → FieldType := fun k => match k with
  | _ => .int
abbrev wsX30 : List Cond := u_ws RX3 TX3 0
theorem nmX3 : ∀ a, a < 0 → ∀ b, b < 0 → a ≠ b → (TX3 a).2.1 ≠ (TX3 b).2.1 := by decide +kernel
theorem tyX3_ok : ∀ k, k < 0 → parseFieldDescriptor (TX3 k).2.2.1 = some (tyX3 k) := by decide +kernel
def RJ9 : String := "java/lang/Math"
def TJ9 : u_T := fun k => match k with
  | _ => ("", "", "", false)
def tyJ9 : Nat → FieldType := fun k => match k with
  | _ => .int
abbrev wsJ90 : List Cond := u_ws RJ9 TJ9 0
theorem nmJ9 : ∀ a, a < 0 → ∀ b, b < 0 → a ≠ b → (TJ9 a).2.1 ≠ (TJ9 b).2.1 := by decide +kernel
theorem tyJ9_ok : ∀ k, k < 0 → parseFieldDescriptor (TJ9 k).2.2.1 = some (tyJ9 k) := by decide +kernel
abbrev cJ9_max_7cf53 : ByteArray := prog_10_method_65_code
def yJ9_max_7cf53 : MethodName := ⟨RJ9, "max", "(II)I"⟩
abbrev cJ9_max_f86c9 : ByteArray := prog_10_method_66_code
def yJ9_max_f86c9 : MethodName := ⟨RJ9, "max", "(JJ)J"⟩
abbrev cJ9_min_7cf53 : ByteArray := prog_10_method_69_code
def yJ9_min_7cf53 : MethodName := ⟨RJ9, "min", "(II)I"⟩
abbrev cJ9_min_f86c9 : ByteArray := prog_10_method_70_code
def yJ9_min_f86c9 : MethodName := ⟨RJ9, "min", "(JJ)J"⟩
def RJ0 : String := "java/lang/String"
def TJ0 : u_T := fun k => match k with
  | _ => ("", "", "", false)
def tyJ0 : Nat → FieldType := fun k => match k with
  | _ => .int
abbrev wsJ00 : List Cond := u_ws RJ0 TJ0 0
theorem nmJ0 : ∀ a, a < 0 → ∀ b, b < 0 → a ≠ b → (TJ0 a).2.1 ≠ (TJ0 b).2.1 := by decide +kernel
theorem tyJ0_ok : ∀ k, k < 0 → parseFieldDescriptor (TJ0 k).2.2.1 = some (tyJ0 k) := by decide +kernel
def RL : String := "CapacityRoundLaw"
abbrev cL_cell : ByteArray := method_2_code
def yL_cell : MethodName := ⟨RL, "cell", "([II)I"⟩
abbrev cL_demand : ByteArray := method_3_code
def yL_demand : MethodName := ⟨RL, "demand", "(LCapacityRound;III)I"⟩
abbrev cL_value : ByteArray := method_4_code
def yL_value : MethodName := ⟨RL, "value", "(LCapacityRound;I)I"⟩
abbrev cL_worth : ByteArray := method_5_code
def yL_worth : MethodName := ⟨RL, "worth", "(LCapacityRound;I)I"⟩
abbrev cL_offer : ByteArray := method_6_code
def yL_offer : MethodName := ⟨RL, "offer", "(LCapacityRound;IIIII)I"⟩
abbrev cL_supply : ByteArray := method_7_code
def yL_supply : MethodName := ⟨RL, "supply", "(LCapacityRound;I)I"⟩
abbrev cL_clearing : ByteArray := method_8_code
def yL_clearing : MethodName := ⟨RL, "clearing", "(LCapacityRound;I)I"⟩
abbrev cL_clock : ByteArray := method_9_code
def yL_clock : MethodName := ⟨RL, "clock", "(LCapacityRound;I)I"⟩
abbrev cL_would : ByteArray := method_10_code
def yL_would : MethodName := ⟨RL, "would", "(LCapacityRound;II)I"⟩
abbrev cL_run : ByteArray := method_11_code
def yL_run : MethodName := ⟨RL, "run", "(LCapacityRound;I)I"⟩
abbrev cL_bought : ByteArray := method_12_code
def yL_bought : MethodName := ⟨RL, "bought", "(LCapacityRound;I)I"⟩
abbrev cL_income : ByteArray := method_13_code
def yL_income : MethodName := ⟨RL, "income", "(LCapacityRound;II)I"⟩
abbrev cL_obliged : ByteArray := method_14_code
def yL_obliged : MethodName := ⟨RL, "obliged", "(LCapacityRound;III)I"⟩
abbrev cL_trade : ByteArray := method_15_code
def yL_trade : MethodName := ⟨RL, "trade", "(LCapacityRound;IIIIII)I"⟩
abbrev cL_stress : ByteArray := method_16_code
def yL_stress : MethodName := ⟨RL, "stress", "(LCapacityRound;II)I"⟩
abbrev cL_tell : ByteArray := method_17_code
def yL_tell : MethodName := ⟨RL, "tell", "(LCapacityRound;IIII)I"⟩
abbrev cL_setPenalty : ByteArray := method_18_code
def yL_setPenalty : MethodName := ⟨RL, "setPenalty", "(LCapacityRound;II)I"⟩
abbrev cL_lack : ByteArray := method_19_code
def yL_lack : MethodName := ⟨RL, "lack", "(LCapacityRound;II)I"⟩
abbrev cL_penalty : ByteArray := method_20_code
def yL_penalty : MethodName := ⟨RL, "penalty", "(LCapacityRound;II)I"⟩
abbrev cL_isFalling : ByteArray := method_21_code
def yL_isFalling : MethodName := ⟨RL, "isFalling", "(LCapacityRound;I)Z"⟩
abbrev cL_clears : ByteArray := method_22_code
def yL_clears : MethodName := ⟨RL, "clears", "(LCapacityRound;I[I[I)Z"⟩
abbrev cL_law : ByteArray := code
def yL_law : MethodName := ⟨RL, "law", "([I)Z"⟩
def wsX0_valueOf : List Cond := .code yX0_valueOf cX0_valueOf 2 (some .int) :: ([.fieldLink RX0 17 "CapacityRound$Demand" "lowerAmount" "I", .fieldLink RX0 24 "CapacityRound$Demand" "topPrice" "I", .fieldLink RX0 21 "CapacityRound$Demand" "upperAmount" "I"] ++ wsX00)
def wsX0_change : List Cond := .code yX0_change cX0_change 5 none :: ([.fieldLink RX0 17 "CapacityRound$Demand" "lowerAmount" "I", .fieldLink RX0 21 "CapacityRound$Demand" "upperAmount" "I", .fieldLink RX0 24 "CapacityRound$Demand" "topPrice" "I", .fieldLink RX0 9 "CapacityRound$Demand" "worths" "[I", .methodLink RX0 27 yX0_valueOf, .instanceMethod yX0_valueOf, .selects RX0 yX0_valueOf yX0_valueOf, .initialized RX0, .code yX0_valueOf cX0_valueOf 2 (some .int)] ++ wsX00)
def wsX0_init : List Cond := .code yX0_init cX0_init 1 none :: ([.methodLink RX0 1 objectInit, .instanceMethod objectInit, .code objectInit ⟨#[0xb1]⟩ 1 none, .arrayClass .int, .fieldLink RX0 9 "CapacityRound$Demand" "worths" "[I", .methodLink RX0 13 yX0_change, .instanceMethod yX0_change, .selects RX0 yX0_change yX0_change, .initialized RX0, .code yX0_change cX0_change 5 none, .fieldLink RX0 17 "CapacityRound$Demand" "lowerAmount" "I", .fieldLink RX0 21 "CapacityRound$Demand" "upperAmount" "I", .fieldLink RX0 24 "CapacityRound$Demand" "topPrice" "I", .methodLink RX0 27 yX0_valueOf, .instanceMethod yX0_valueOf, .selects RX0 yX0_valueOf yX0_valueOf, .code yX0_valueOf cX0_valueOf 2 (some .int)] ++ wsX00)
def wsX0_worthOf : List Cond := .code yX0_worthOf cX0_worthOf 2 (some .int) :: ([.fieldLink RX0 9 "CapacityRound$Demand" "worths" "[I", .methodLink RX0 31 Lib.Math.min.name, .static Lib.Math.min.name, .initialized "java/lang/Math", .code Lib.Math.min.name Lib.Math.min.code 2 (some .int), .methodLink RX0 37 Lib.Math.max.name, .static Lib.Math.max.name, .code Lib.Math.max.name Lib.Math.max.code 2 (some .int)] ++ wsX00)
def wsX1_init : List Cond := .code yX1_init cX1_init 1 none :: ([.methodLink RX1 3 objectInit, .instanceMethod objectInit, .code objectInit ⟨#[0xb1]⟩ 1 none, .arrayClass .int, .fieldLink RX1 11 "CapacityRound$Queue" "parties" "[I", .fieldLink RX1 15 "CapacityRound$Queue" "amounts" "[I", .fieldLink RX1 18 "CapacityRound$Queue" "terms" "[I", .fieldLink RX1 21 "CapacityRound$Queue" "order" "[I", .fieldLink RX1 24 "CapacityRound$Queue" "exits" "[I", .arrayClass .boolean, .fieldLink RX1 27 "CapacityRound$Queue" "in" "[Z", .fieldLink RX1 31 "CapacityRound$Queue" "count" "I"] ++ wsX10)
def wsX1_isFull : List Cond := .code yX1_isFull cX1_isFull 1 (some .boolean) :: ([.fieldLink RX1 31 "CapacityRound$Queue" "count" "I"] ++ wsX10)
def wsX1_has : List Cond := .code yX1_has cX1_has 2 (some .boolean) :: ([.fieldLink RX1 31 "CapacityRound$Queue" "count" "I"] ++ wsX10)
def wsX1_clear : List Cond := .code yX1_clear cX1_clear 1 none :: ([.fieldLink RX1 31 "CapacityRound$Queue" "count" "I"] ++ wsX10)
def wsX1_add : List Cond := .code yX1_add cX1_add 7 (some .int) :: ([.fieldLink RX1 31 "CapacityRound$Queue" "count" "I", .fieldLink RX1 24 "CapacityRound$Queue" "exits" "[I", .fieldLink RX1 21 "CapacityRound$Queue" "order" "[I", .fieldLink RX1 11 "CapacityRound$Queue" "parties" "[I", .fieldLink RX1 15 "CapacityRound$Queue" "amounts" "[I", .fieldLink RX1 18 "CapacityRound$Queue" "terms" "[I"] ++ wsX10)
def wsX1_amountUpTo : List Cond := .code yX1_amountUpTo cX1_amountUpTo 4 (some .int) :: ([.fieldLink RX1 31 "CapacityRound$Queue" "count" "I", .fieldLink RX1 24 "CapacityRound$Queue" "exits" "[I", .fieldLink RX1 15 "CapacityRound$Queue" "amounts" "[I"] ++ wsX10)
def wsX1_bestFirst : List Cond := .code yX1_bestFirst cX1_bestFirst 10 (some .int) :: ([.fieldLink RX1 31 "CapacityRound$Queue" "count" "I", .fieldLink RX1 21 "CapacityRound$Queue" "order" "[I", .fieldLink RX1 15 "CapacityRound$Queue" "amounts" "[I", .fieldLink RX1 24 "CapacityRound$Queue" "exits" "[I", .methodLink RX1 35 yX0_worthOf, .instanceMethod yX0_worthOf, .selects RX0 yX0_worthOf yX0_worthOf, .initialized RX0, .code yX0_worthOf cX0_worthOf 2 (some .int), .fieldLink RX0 9 "CapacityRound$Demand" "worths" "[I", .methodLink RX0 31 Lib.Math.min.name, .static Lib.Math.min.name, .initialized "java/lang/Math", .code Lib.Math.min.name Lib.Math.min.code 2 (some .int), .methodLink RX0 37 Lib.Math.max.name, .static Lib.Math.max.name, .code Lib.Math.max.name Lib.Math.max.code 2 (some .int)] ++ wsX10 ++ wsX00)
def wsX1_priceOfFirst : List Cond := .code yX1_priceOfFirst cX1_priceOfFirst 2 (some .int) :: ([.fieldLink RX1 31 "CapacityRound$Queue" "count" "I", .fieldLink RX1 24 "CapacityRound$Queue" "exits" "[I", .fieldLink RX1 21 "CapacityRound$Queue" "order" "[I"] ++ wsX10)
def wsX1_isAmongFirst : List Cond := .code yX1_isAmongFirst cX1_isAmongFirst 4 (some .boolean) :: ([.fieldLink RX1 31 "CapacityRound$Queue" "count" "I", .fieldLink RX1 21 "CapacityRound$Queue" "order" "[I"] ++ wsX10)
def wsX1_dearestIn : List Cond := .code yX1_dearestIn cX1_dearestIn 3 (some .int) :: ([.fieldLink RX1 31 "CapacityRound$Queue" "count" "I", .fieldLink RX1 27 "CapacityRound$Queue" "in" "[Z", .fieldLink RX1 24 "CapacityRound$Queue" "exits" "[I"] ++ wsX10)
def wsX1_exitOf : List Cond := .code yX1_exitOf cX1_exitOf 2 (some .int) :: ([.fieldLink RX1 24 "CapacityRound$Queue" "exits" "[I"] ++ wsX10)
def wsX1_priceByClock_r1 : List Cond := [Cond.fieldLink RX1 31 "CapacityRound$Queue" "count" "I", Cond.fieldLink RX1 27 "CapacityRound$Queue" "in" "[Z", Cond.fieldLink RX1 15 "CapacityRound$Queue" "amounts" "[I", Cond.fieldLink RX1 24 "CapacityRound$Queue" "exits" "[I", Cond.methodLink RX1 35 yX0_worthOf, Cond.instanceMethod yX0_worthOf, Cond.selects RX0 yX0_worthOf yX0_worthOf, Cond.initialized RX0, Cond.code yX0_worthOf cX0_worthOf 2 (some .int), Cond.fieldLink RX0 9 "CapacityRound$Demand" "worths" "[I", Cond.methodLink RX0 31 Lib.Math.min.name, Cond.static Lib.Math.min.name, Cond.initialized "java/lang/Math", Cond.code Lib.Math.min.name Lib.Math.min.code 2 (some .int), Cond.methodLink RX0 37 Lib.Math.max.name, Cond.static Lib.Math.max.name, Cond.code Lib.Math.max.name Lib.Math.max.code 2 (some .int), Cond.methodLink RX1 41 yX1_dearestIn, Cond.instanceMethod yX1_dearestIn, Cond.selects RX1 yX1_dearestIn yX1_dearestIn, Cond.initialized RX1, Cond.code yX1_dearestIn cX1_dearestIn 3 (some .int), Cond.methodLink RX1 45 yX1_exitOf, Cond.instanceMethod yX1_exitOf]
def wsX1_priceByClock_r2 : List Cond := [Cond.selects RX1 yX1_exitOf yX1_exitOf, Cond.code yX1_exitOf cX1_exitOf 2 (some .int)]
def wsX1_priceByClock : List Cond := .code yX1_priceByClock cX1_priceByClock 10 (some .int) :: ((wsX1_priceByClock_r1 ++ wsX1_priceByClock_r2) ++ wsX10 ++ wsX00)
def wsX2_init_r1 : List Cond := [Cond.methodLink RX2 1 objectInit, Cond.instanceMethod objectInit, Cond.code objectInit ⟨#[0xb1]⟩ 1 none, Cond.classLink RX2 7 RX0, Cond.instantiable RX0 4, Cond.initialized RX0, Cond.fieldLink RX2 10 "CapacityRound" "demand" "LCapacityRound$Demand;", Cond.classLink RX2 16 RX1, Cond.instantiable RX1 7, Cond.initialized RX1, Cond.fieldLink RX2 19 "CapacityRound" "queue" "LCapacityRound$Queue;", Cond.arrayClass .int, Cond.fieldLink RX2 23 "CapacityRound" "boughtByYear" "[I", Cond.fieldLink RX2 27 "CapacityRound" "incomes" "[I", Cond.fieldLink RX2 30 "CapacityRound" "obligations" "[I", Cond.fieldLink RX2 33 "CapacityRound" "outputs" "[I", Cond.arrayClass .boolean, Cond.fieldLink RX2 36 "CapacityRound" "stressed" "[Z", Cond.fieldLink RX2 40 "CapacityRound" "tradeCount" "I", Cond.fieldLink RX2 44 "CapacityRound" "penaltyRate" "I", Cond.fieldLink RX2 47 "CapacityRound" "penaltyCap" "I", Cond.methodLink RX2 9 yX0_init, Cond.instanceMethod yX0_init, Cond.code yX0_init cX0_init 1 none]
def wsX2_init_r2 : List Cond := [Cond.methodLink RX0 1 objectInit, Cond.fieldLink RX0 9 "CapacityRound$Demand" "worths" "[I", Cond.methodLink RX0 13 yX0_change, Cond.instanceMethod yX0_change, Cond.selects RX0 yX0_change yX0_change, Cond.code yX0_change cX0_change 5 none, Cond.fieldLink RX0 17 "CapacityRound$Demand" "lowerAmount" "I", Cond.fieldLink RX0 21 "CapacityRound$Demand" "upperAmount" "I", Cond.fieldLink RX0 24 "CapacityRound$Demand" "topPrice" "I", Cond.methodLink RX0 27 yX0_valueOf, Cond.instanceMethod yX0_valueOf, Cond.selects RX0 yX0_valueOf yX0_valueOf, Cond.code yX0_valueOf cX0_valueOf 2 (some .int), Cond.methodLink RX2 18 yX1_init, Cond.instanceMethod yX1_init, Cond.code yX1_init cX1_init 1 none, Cond.methodLink RX1 3 objectInit, Cond.fieldLink RX1 11 "CapacityRound$Queue" "parties" "[I", Cond.fieldLink RX1 15 "CapacityRound$Queue" "amounts" "[I", Cond.fieldLink RX1 18 "CapacityRound$Queue" "terms" "[I", Cond.fieldLink RX1 21 "CapacityRound$Queue" "order" "[I", Cond.fieldLink RX1 24 "CapacityRound$Queue" "exits" "[I", Cond.fieldLink RX1 27 "CapacityRound$Queue" "in" "[Z", Cond.fieldLink RX1 31 "CapacityRound$Queue" "count" "I"]
def wsX2_init : List Cond := .code yX2_init cX2_init 1 none :: ((wsX2_init_r1 ++ wsX2_init_r2) ++ wsX00 ++ wsX20 ++ wsX10)
def wsX2_isWithin : List Cond := .code yX2_isWithin cX2_isWithin 3 (some .boolean) :: ([])
def wsX2_setDemand : List Cond := .code yX2_setDemand cX2_setDemand 4 none :: ([.classLink RX2 54 "java/lang/IllegalArgumentException", .initialized "java/lang/IllegalArgumentException", .fieldLink RX2 10 "CapacityRound" "demand" "LCapacityRound$Demand;", .methodLink RX2 50 yX2_isWithin, .static yX2_isWithin, .initialized RX2, .code yX2_isWithin cX2_isWithin 3 (some .boolean), .methodLink RX2 61 yX0_change, .instanceMethod yX0_change, .selects RX0 yX0_change yX0_change, .initialized RX0, .code yX0_change cX0_change 5 none, .fieldLink RX0 17 "CapacityRound$Demand" "lowerAmount" "I", .fieldLink RX0 21 "CapacityRound$Demand" "upperAmount" "I", .fieldLink RX0 24 "CapacityRound$Demand" "topPrice" "I", .fieldLink RX0 9 "CapacityRound$Demand" "worths" "[I", .methodLink RX0 27 yX0_valueOf, .instanceMethod yX0_valueOf, .selects RX0 yX0_valueOf yX0_valueOf, .code yX0_valueOf cX0_valueOf 2 (some .int)] ++ wsX20 ++ wsX00 ++ (vx_atS RX2 58 "java/lang/IllegalArgumentException" ["java/lang/RuntimeException", "java/lang/Exception"]).filter goodWord)
def wsX2_value : List Cond := .code yX2_value cX2_value 2 (some .int) :: ([.classLink RX2 54 "java/lang/IllegalArgumentException", .initialized "java/lang/IllegalArgumentException", .fieldLink RX2 10 "CapacityRound" "demand" "LCapacityRound$Demand;", .methodLink RX2 50 yX2_isWithin, .static yX2_isWithin, .initialized RX2, .code yX2_isWithin cX2_isWithin 3 (some .boolean), .methodLink RX2 67 yX0_valueOf, .instanceMethod yX0_valueOf, .selects RX0 yX0_valueOf yX0_valueOf, .initialized RX0, .code yX0_valueOf cX0_valueOf 2 (some .int), .fieldLink RX0 17 "CapacityRound$Demand" "lowerAmount" "I", .fieldLink RX0 24 "CapacityRound$Demand" "topPrice" "I", .fieldLink RX0 21 "CapacityRound$Demand" "upperAmount" "I"] ++ wsX20 ++ wsX00 ++ (vx_atS RX2 58 "java/lang/IllegalArgumentException" ["java/lang/RuntimeException", "java/lang/Exception"]).filter goodWord)
def wsX2_worth : List Cond := .code yX2_worth cX2_worth 2 (some .int) :: ([.classLink RX2 54 "java/lang/IllegalArgumentException", .initialized "java/lang/IllegalArgumentException", .fieldLink RX2 10 "CapacityRound" "demand" "LCapacityRound$Demand;", .methodLink RX2 50 yX2_isWithin, .static yX2_isWithin, .initialized RX2, .code yX2_isWithin cX2_isWithin 3 (some .boolean), .methodLink RX2 73 yX0_worthOf, .instanceMethod yX0_worthOf, .selects RX0 yX0_worthOf yX0_worthOf, .initialized RX0, .code yX0_worthOf cX0_worthOf 2 (some .int), .fieldLink RX0 9 "CapacityRound$Demand" "worths" "[I", .methodLink RX0 31 Lib.Math.min.name, .static Lib.Math.min.name, .initialized "java/lang/Math", .code Lib.Math.min.name Lib.Math.min.code 2 (some .int), .methodLink RX0 37 Lib.Math.max.name, .static Lib.Math.max.name, .code Lib.Math.max.name Lib.Math.max.code 2 (some .int)] ++ wsX20 ++ wsX00 ++ (vx_atS RX2 58 "java/lang/IllegalArgumentException" ["java/lang/RuntimeException", "java/lang/Exception"]).filter goodWord)
def wsX2_isParty : List Cond := .code yX2_isParty cX2_isParty 1 (some .boolean) :: ([.methodLink RX2 50 yX2_isWithin, .static yX2_isWithin, .initialized RX2, .code yX2_isWithin cX2_isWithin 3 (some .boolean)])
def wsX2_offer_r1 : List Cond := [Cond.classLink RX2 80 "java/lang/IndexOutOfBoundsException", Cond.initialized "java/lang/IndexOutOfBoundsException", Cond.classLink RX2 54 "java/lang/IllegalArgumentException", Cond.initialized "java/lang/IllegalArgumentException", Cond.classLink RX2 91 "java/lang/IllegalStateException", Cond.initialized "java/lang/IllegalStateException", Cond.fieldLink RX2 19 "CapacityRound" "queue" "LCapacityRound$Queue;", Cond.methodLink RX2 76 yX2_isParty, Cond.static yX2_isParty, Cond.initialized RX2, Cond.code yX2_isParty cX2_isParty 1 (some .boolean), Cond.methodLink RX2 50 yX2_isWithin, Cond.static yX2_isWithin, Cond.code yX2_isWithin cX2_isWithin 3 (some .boolean), Cond.methodLink RX2 87 yX1_isFull, Cond.instanceMethod yX1_isFull, Cond.selects RX1 yX1_isFull yX1_isFull, Cond.initialized RX1, Cond.code yX1_isFull cX1_isFull 1 (some .boolean), Cond.fieldLink RX1 31 "CapacityRound$Queue" "count" "I", Cond.methodLink RX2 96 yX1_add, Cond.instanceMethod yX1_add, Cond.selects RX1 yX1_add yX1_add, Cond.code yX1_add cX1_add 7 (some .int)]
def wsX2_offer_r2 : List Cond := [Cond.fieldLink RX1 24 "CapacityRound$Queue" "exits" "[I", Cond.fieldLink RX1 21 "CapacityRound$Queue" "order" "[I", Cond.fieldLink RX1 11 "CapacityRound$Queue" "parties" "[I", Cond.fieldLink RX1 15 "CapacityRound$Queue" "amounts" "[I", Cond.fieldLink RX1 18 "CapacityRound$Queue" "terms" "[I"]
def wsX2_offer : List Cond := .code yX2_offer cX2_offer 6 (some .int) :: ((wsX2_offer_r1 ++ wsX2_offer_r2) ++ wsX20 ++ wsX10 ++ (vx_atS RX2 84 "java/lang/IndexOutOfBoundsException" ["java/lang/RuntimeException", "java/lang/Exception"]).filter goodWord ++ (vx_atS RX2 58 "java/lang/IllegalArgumentException" ["java/lang/RuntimeException", "java/lang/Exception"]).filter goodWord ++ (vx_atS RX2 95 "java/lang/IllegalStateException" ["java/lang/RuntimeException", "java/lang/Exception"]).filter goodWord)
def wsX2_offers : List Cond := .code yX2_offers cX2_offers 1 (some .int) :: ([.fieldLink RX2 19 "CapacityRound" "queue" "LCapacityRound$Queue;", .fieldLink RX2 100 "CapacityRound$Queue" "count" "I"] ++ wsX20 ++ wsX10)
def wsX2_supply : List Cond := .code yX2_supply cX2_supply 2 (some .int) :: ([.classLink RX2 54 "java/lang/IllegalArgumentException", .initialized "java/lang/IllegalArgumentException", .fieldLink RX2 19 "CapacityRound" "queue" "LCapacityRound$Queue;", .methodLink RX2 50 yX2_isWithin, .static yX2_isWithin, .initialized RX2, .code yX2_isWithin cX2_isWithin 3 (some .boolean), .methodLink RX2 105 yX1_amountUpTo, .instanceMethod yX1_amountUpTo, .selects RX1 yX1_amountUpTo yX1_amountUpTo, .initialized RX1, .code yX1_amountUpTo cX1_amountUpTo 4 (some .int), .fieldLink RX1 31 "CapacityRound$Queue" "count" "I", .fieldLink RX1 24 "CapacityRound$Queue" "exits" "[I", .fieldLink RX1 15 "CapacityRound$Queue" "amounts" "[I"] ++ wsX20 ++ wsX10 ++ (vx_atS RX2 58 "java/lang/IllegalArgumentException" ["java/lang/RuntimeException", "java/lang/Exception"]).filter goodWord)
def wsX2_isYear : List Cond := .code yX2_isYear cX2_isYear 1 (some .boolean) :: ([.methodLink RX2 50 yX2_isWithin, .static yX2_isWithin, .initialized RX2, .code yX2_isWithin cX2_isWithin 3 (some .boolean)])
def wsX2_clearing_r1 : List Cond := [Cond.classLink RX2 80 "java/lang/IndexOutOfBoundsException", Cond.initialized "java/lang/IndexOutOfBoundsException", Cond.fieldLink RX2 19 "CapacityRound" "queue" "LCapacityRound$Queue;", Cond.fieldLink RX2 10 "CapacityRound" "demand" "LCapacityRound$Demand;", Cond.fieldLink RX2 23 "CapacityRound" "boughtByYear" "[I", Cond.methodLink RX2 108 yX2_isYear, Cond.static yX2_isYear, Cond.initialized RX2, Cond.code yX2_isYear cX2_isYear 1 (some .boolean), Cond.methodLink RX2 50 yX2_isWithin, Cond.static yX2_isWithin, Cond.code yX2_isWithin cX2_isWithin 3 (some .boolean), Cond.methodLink RX2 113 yX1_bestFirst, Cond.instanceMethod yX1_bestFirst, Cond.selects RX1 yX1_bestFirst yX1_bestFirst, Cond.initialized RX1, Cond.code yX1_bestFirst cX1_bestFirst 10 (some .int), Cond.fieldLink RX1 31 "CapacityRound$Queue" "count" "I", Cond.fieldLink RX1 21 "CapacityRound$Queue" "order" "[I", Cond.fieldLink RX1 15 "CapacityRound$Queue" "amounts" "[I", Cond.fieldLink RX1 24 "CapacityRound$Queue" "exits" "[I", Cond.methodLink RX1 35 yX0_worthOf, Cond.instanceMethod yX0_worthOf, Cond.selects RX0 yX0_worthOf yX0_worthOf]
def wsX2_clearing_r2 : List Cond := [Cond.initialized RX0, Cond.code yX0_worthOf cX0_worthOf 2 (some .int), Cond.fieldLink RX0 9 "CapacityRound$Demand" "worths" "[I", Cond.methodLink RX0 31 Lib.Math.min.name, Cond.static Lib.Math.min.name, Cond.initialized "java/lang/Math", Cond.code Lib.Math.min.name Lib.Math.min.code 2 (some .int), Cond.methodLink RX0 37 Lib.Math.max.name, Cond.static Lib.Math.max.name, Cond.code Lib.Math.max.name Lib.Math.max.code 2 (some .int), Cond.methodLink RX2 117 yX1_priceOfFirst, Cond.instanceMethod yX1_priceOfFirst, Cond.selects RX1 yX1_priceOfFirst yX1_priceOfFirst, Cond.code yX1_priceOfFirst cX1_priceOfFirst 2 (some .int)]
def wsX2_clearing : List Cond := .code yX2_clearing cX2_clearing 2 (some .int) :: ((wsX2_clearing_r1 ++ wsX2_clearing_r2) ++ wsX20 ++ wsX10 ++ wsX00 ++ (vx_atS RX2 84 "java/lang/IndexOutOfBoundsException" ["java/lang/RuntimeException", "java/lang/Exception"]).filter goodWord)
def wsX2_clearingByClock_r1 : List Cond := [Cond.classLink RX2 80 "java/lang/IndexOutOfBoundsException", Cond.initialized "java/lang/IndexOutOfBoundsException", Cond.fieldLink RX2 19 "CapacityRound" "queue" "LCapacityRound$Queue;", Cond.fieldLink RX2 10 "CapacityRound" "demand" "LCapacityRound$Demand;", Cond.fieldLink RX2 23 "CapacityRound" "boughtByYear" "[I", Cond.methodLink RX2 108 yX2_isYear, Cond.static yX2_isYear, Cond.initialized RX2, Cond.code yX2_isYear cX2_isYear 1 (some .boolean), Cond.methodLink RX2 50 yX2_isWithin, Cond.static yX2_isWithin, Cond.code yX2_isWithin cX2_isWithin 3 (some .boolean), Cond.methodLink RX2 120 yX1_priceByClock, Cond.instanceMethod yX1_priceByClock, Cond.selects RX1 yX1_priceByClock yX1_priceByClock, Cond.initialized RX1, Cond.code yX1_priceByClock cX1_priceByClock 10 (some .int), Cond.fieldLink RX1 31 "CapacityRound$Queue" "count" "I", Cond.fieldLink RX1 27 "CapacityRound$Queue" "in" "[Z", Cond.fieldLink RX1 15 "CapacityRound$Queue" "amounts" "[I", Cond.fieldLink RX1 24 "CapacityRound$Queue" "exits" "[I", Cond.methodLink RX1 35 yX0_worthOf, Cond.instanceMethod yX0_worthOf, Cond.selects RX0 yX0_worthOf yX0_worthOf]
def wsX2_clearingByClock_r2 : List Cond := [Cond.initialized RX0, Cond.code yX0_worthOf cX0_worthOf 2 (some .int), Cond.fieldLink RX0 9 "CapacityRound$Demand" "worths" "[I", Cond.methodLink RX0 31 Lib.Math.min.name, Cond.static Lib.Math.min.name, Cond.initialized "java/lang/Math", Cond.code Lib.Math.min.name Lib.Math.min.code 2 (some .int), Cond.methodLink RX0 37 Lib.Math.max.name, Cond.static Lib.Math.max.name, Cond.code Lib.Math.max.name Lib.Math.max.code 2 (some .int), Cond.methodLink RX1 41 yX1_dearestIn, Cond.instanceMethod yX1_dearestIn, Cond.selects RX1 yX1_dearestIn yX1_dearestIn, Cond.code yX1_dearestIn cX1_dearestIn 3 (some .int), Cond.methodLink RX1 45 yX1_exitOf, Cond.instanceMethod yX1_exitOf, Cond.selects RX1 yX1_exitOf yX1_exitOf, Cond.code yX1_exitOf cX1_exitOf 2 (some .int)]
def wsX2_clearingByClock : List Cond := .code yX2_clearingByClock cX2_clearingByClock 2 (some .int) :: ((wsX2_clearingByClock_r1 ++ wsX2_clearingByClock_r2) ++ wsX20 ++ wsX10 ++ wsX00 ++ (vx_atS RX2 84 "java/lang/IndexOutOfBoundsException" ["java/lang/RuntimeException", "java/lang/Exception"]).filter goodWord)
def wsX2_wouldTake_r1 : List Cond := [Cond.classLink RX2 80 "java/lang/IndexOutOfBoundsException", Cond.initialized "java/lang/IndexOutOfBoundsException", Cond.fieldLink RX2 19 "CapacityRound" "queue" "LCapacityRound$Queue;", Cond.fieldLink RX2 10 "CapacityRound" "demand" "LCapacityRound$Demand;", Cond.fieldLink RX2 23 "CapacityRound" "boughtByYear" "[I", Cond.methodLink RX2 123 yX1_has, Cond.instanceMethod yX1_has, Cond.selects RX1 yX1_has yX1_has, Cond.initialized RX1, Cond.code yX1_has cX1_has 2 (some .boolean), Cond.fieldLink RX1 31 "CapacityRound$Queue" "count" "I", Cond.methodLink RX2 108 yX2_isYear, Cond.static yX2_isYear, Cond.initialized RX2, Cond.code yX2_isYear cX2_isYear 1 (some .boolean), Cond.methodLink RX2 50 yX2_isWithin, Cond.static yX2_isWithin, Cond.code yX2_isWithin cX2_isWithin 3 (some .boolean), Cond.methodLink RX2 113 yX1_bestFirst, Cond.instanceMethod yX1_bestFirst, Cond.selects RX1 yX1_bestFirst yX1_bestFirst, Cond.code yX1_bestFirst cX1_bestFirst 10 (some .int), Cond.fieldLink RX1 21 "CapacityRound$Queue" "order" "[I", Cond.fieldLink RX1 15 "CapacityRound$Queue" "amounts" "[I"]
def wsX2_wouldTake_r2 : List Cond := [Cond.fieldLink RX1 24 "CapacityRound$Queue" "exits" "[I", Cond.methodLink RX1 35 yX0_worthOf, Cond.instanceMethod yX0_worthOf, Cond.selects RX0 yX0_worthOf yX0_worthOf, Cond.initialized RX0, Cond.code yX0_worthOf cX0_worthOf 2 (some .int), Cond.fieldLink RX0 9 "CapacityRound$Demand" "worths" "[I", Cond.methodLink RX0 31 Lib.Math.min.name, Cond.static Lib.Math.min.name, Cond.initialized "java/lang/Math", Cond.code Lib.Math.min.name Lib.Math.min.code 2 (some .int), Cond.methodLink RX0 37 Lib.Math.max.name, Cond.static Lib.Math.max.name, Cond.code Lib.Math.max.name Lib.Math.max.code 2 (some .int), Cond.methodLink RX2 128 yX1_isAmongFirst, Cond.instanceMethod yX1_isAmongFirst, Cond.selects RX1 yX1_isAmongFirst yX1_isAmongFirst, Cond.code yX1_isAmongFirst cX1_isAmongFirst 4 (some .boolean)]
def wsX2_wouldTake : List Cond := .code yX2_wouldTake cX2_wouldTake 3 (some .boolean) :: ((wsX2_wouldTake_r1 ++ wsX2_wouldTake_r2) ++ wsX20 ++ wsX10 ++ wsX00 ++ (vx_atS RX2 84 "java/lang/IndexOutOfBoundsException" ["java/lang/RuntimeException", "java/lang/Exception"]).filter goodWord)
def wsX2_yearCell : List Cond := .code yX2_yearCell cX2_yearCell 2 (some .int) :: ([])
def wsX2_hourCell : List Cond := .code yX2_hourCell cX2_hourCell 3 (some .int) :: ([.methodLink RX2 145 yX2_yearCell, .static yX2_yearCell, .initialized RX2, .code yX2_yearCell cX2_yearCell 2 (some .int)])
def wsX2_take : List Cond := .code yX2_take cX2_take 9 none :: ([.fieldLink RX2 19 "CapacityRound" "queue" "LCapacityRound$Queue;", .fieldLink RX2 177 "CapacityRound$Queue" "parties" "[I", .fieldLink RX2 180 "CapacityRound$Queue" "amounts" "[I", .fieldLink RX2 183 "CapacityRound$Queue" "terms" "[I", .methodLink RX2 186 Lib.Math.min.name, .static Lib.Math.min.name, .initialized "java/lang/Math", .code Lib.Math.min.name Lib.Math.min.code 2 (some .int), .fieldLink RX2 23 "CapacityRound" "boughtByYear" "[I", .fieldLink RX2 27 "CapacityRound" "incomes" "[I", .fieldLink RX2 30 "CapacityRound" "obligations" "[I", .methodLink RX2 145 yX2_yearCell, .static yX2_yearCell, .initialized RX2, .code yX2_yearCell cX2_yearCell 2 (some .int), .methodLink RX2 154 yX2_hourCell, .static yX2_hourCell, .code yX2_hourCell cX2_hourCell 3 (some .int)] ++ wsX20 ++ wsX10)
def wsX2_run_r1 : List Cond := [Cond.classLink RX2 80 "java/lang/IndexOutOfBoundsException", Cond.initialized "java/lang/IndexOutOfBoundsException", Cond.classLink RX2 91 "java/lang/IllegalStateException", Cond.initialized "java/lang/IllegalStateException", Cond.fieldLink RX2 19 "CapacityRound" "queue" "LCapacityRound$Queue;", Cond.fieldLink RX2 100 "CapacityRound$Queue" "count" "I", Cond.fieldLink RX2 10 "CapacityRound" "demand" "LCapacityRound$Demand;", Cond.fieldLink RX2 23 "CapacityRound" "boughtByYear" "[I", Cond.fieldLink RX2 134 "CapacityRound$Queue" "order" "[I", Cond.methodLink RX2 108 yX2_isYear, Cond.static yX2_isYear, Cond.initialized RX2, Cond.code yX2_isYear cX2_isYear 1 (some .boolean), Cond.methodLink RX2 50 yX2_isWithin, Cond.static yX2_isWithin, Cond.code yX2_isWithin cX2_isWithin 3 (some .boolean), Cond.methodLink RX2 113 yX1_bestFirst, Cond.instanceMethod yX1_bestFirst, Cond.selects RX1 yX1_bestFirst yX1_bestFirst, Cond.initialized RX1, Cond.code yX1_bestFirst cX1_bestFirst 10 (some .int), Cond.fieldLink RX1 31 "CapacityRound$Queue" "count" "I", Cond.fieldLink RX1 21 "CapacityRound$Queue" "order" "[I", Cond.fieldLink RX1 15 "CapacityRound$Queue" "amounts" "[I"]
def wsX2_run_r2 : List Cond := [Cond.fieldLink RX1 24 "CapacityRound$Queue" "exits" "[I", Cond.methodLink RX1 35 yX0_worthOf, Cond.instanceMethod yX0_worthOf, Cond.selects RX0 yX0_worthOf yX0_worthOf, Cond.initialized RX0, Cond.code yX0_worthOf cX0_worthOf 2 (some .int), Cond.fieldLink RX0 9 "CapacityRound$Demand" "worths" "[I", Cond.methodLink RX0 31 Lib.Math.min.name, Cond.static Lib.Math.min.name, Cond.initialized "java/lang/Math", Cond.code Lib.Math.min.name Lib.Math.min.code 2 (some .int), Cond.methodLink RX0 37 Lib.Math.max.name, Cond.static Lib.Math.max.name, Cond.code Lib.Math.max.name Lib.Math.max.code 2 (some .int), Cond.methodLink RX2 117 yX1_priceOfFirst, Cond.instanceMethod yX1_priceOfFirst, Cond.selects RX1 yX1_priceOfFirst yX1_priceOfFirst, Cond.code yX1_priceOfFirst cX1_priceOfFirst 2 (some .int), Cond.methodLink RX2 137 yX2_take, Cond.instanceMethod yX2_take, Cond.selects RX2 yX2_take yX2_take, Cond.code yX2_take cX2_take 9 none, Cond.fieldLink RX2 177 "CapacityRound$Queue" "parties" "[I", Cond.fieldLink RX2 180 "CapacityRound$Queue" "amounts" "[I"]
def wsX2_run_r3 : List Cond := [Cond.fieldLink RX2 183 "CapacityRound$Queue" "terms" "[I", Cond.methodLink RX2 186 Lib.Math.min.name, Cond.fieldLink RX2 27 "CapacityRound" "incomes" "[I", Cond.fieldLink RX2 30 "CapacityRound" "obligations" "[I", Cond.methodLink RX2 145 yX2_yearCell, Cond.static yX2_yearCell, Cond.code yX2_yearCell cX2_yearCell 2 (some .int), Cond.methodLink RX2 154 yX2_hourCell, Cond.static yX2_hourCell, Cond.code yX2_hourCell cX2_hourCell 3 (some .int), Cond.methodLink RX2 140 yX1_clear, Cond.instanceMethod yX1_clear, Cond.selects RX1 yX1_clear yX1_clear, Cond.code yX1_clear cX1_clear 1 none]
def wsX2_run : List Cond := .code yX2_run cX2_run 5 (some .int) :: ((wsX2_run_r1 ++ (wsX2_run_r2 ++ wsX2_run_r3)) ++ wsX20 ++ wsX10 ++ wsX00 ++ (vx_atS RX2 84 "java/lang/IndexOutOfBoundsException" ["java/lang/RuntimeException", "java/lang/Exception"]).filter goodWord ++ (vx_atS RX2 95 "java/lang/IllegalStateException" ["java/lang/RuntimeException", "java/lang/Exception"]).filter goodWord)
def wsX2_bought : List Cond := .code yX2_bought cX2_bought 2 (some .int) :: ([.classLink RX2 80 "java/lang/IndexOutOfBoundsException", .initialized "java/lang/IndexOutOfBoundsException", .fieldLink RX2 23 "CapacityRound" "boughtByYear" "[I", .methodLink RX2 108 yX2_isYear, .static yX2_isYear, .initialized RX2, .code yX2_isYear cX2_isYear 1 (some .boolean), .methodLink RX2 50 yX2_isWithin, .static yX2_isWithin, .code yX2_isWithin cX2_isWithin 3 (some .boolean)] ++ wsX20 ++ (vx_atS RX2 84 "java/lang/IndexOutOfBoundsException" ["java/lang/RuntimeException", "java/lang/Exception"]).filter goodWord)
def wsX2_income : List Cond := .code yX2_income cX2_income 3 (some .int) :: ([.classLink RX2 80 "java/lang/IndexOutOfBoundsException", .initialized "java/lang/IndexOutOfBoundsException", .fieldLink RX2 27 "CapacityRound" "incomes" "[I", .methodLink RX2 76 yX2_isParty, .static yX2_isParty, .initialized RX2, .code yX2_isParty cX2_isParty 1 (some .boolean), .methodLink RX2 50 yX2_isWithin, .static yX2_isWithin, .code yX2_isWithin cX2_isWithin 3 (some .boolean), .methodLink RX2 108 yX2_isYear, .static yX2_isYear, .code yX2_isYear cX2_isYear 1 (some .boolean), .methodLink RX2 145 yX2_yearCell, .static yX2_yearCell, .code yX2_yearCell cX2_yearCell 2 (some .int)] ++ wsX20 ++ (vx_atS RX2 84 "java/lang/IndexOutOfBoundsException" ["java/lang/RuntimeException", "java/lang/Exception"]).filter goodWord)
def wsX2_isHour : List Cond := .code yX2_isHour cX2_isHour 1 (some .boolean) :: ([.methodLink RX2 50 yX2_isWithin, .static yX2_isWithin, .initialized RX2, .code yX2_isWithin cX2_isWithin 3 (some .boolean)])
def wsX2_obligation : List Cond := .code yX2_obligation cX2_obligation 4 (some .int) :: ([.classLink RX2 80 "java/lang/IndexOutOfBoundsException", .initialized "java/lang/IndexOutOfBoundsException", .fieldLink RX2 30 "CapacityRound" "obligations" "[I", .methodLink RX2 76 yX2_isParty, .static yX2_isParty, .initialized RX2, .code yX2_isParty cX2_isParty 1 (some .boolean), .methodLink RX2 50 yX2_isWithin, .static yX2_isWithin, .code yX2_isWithin cX2_isWithin 3 (some .boolean), .methodLink RX2 108 yX2_isYear, .static yX2_isYear, .code yX2_isYear cX2_isYear 1 (some .boolean), .methodLink RX2 149 yX2_isHour, .static yX2_isHour, .code yX2_isHour cX2_isHour 1 (some .boolean), .methodLink RX2 154 yX2_hourCell, .static yX2_hourCell, .code yX2_hourCell cX2_hourCell 3 (some .int), .methodLink RX2 145 yX2_yearCell, .static yX2_yearCell, .code yX2_yearCell cX2_yearCell 2 (some .int)] ++ wsX20 ++ (vx_atS RX2 84 "java/lang/IndexOutOfBoundsException" ["java/lang/RuntimeException", "java/lang/Exception"]).filter goodWord)
def wsX2_leastObligation : List Cond := .code yX2_leastObligation cX2_leastObligation 7 (some .int) :: ([.fieldLink RX2 30 "CapacityRound" "obligations" "[I", .methodLink RX2 186 Lib.Math.min.name, .static Lib.Math.min.name, .initialized "java/lang/Math", .code Lib.Math.min.name Lib.Math.min.code 2 (some .int), .methodLink RX2 154 yX2_hourCell, .static yX2_hourCell, .initialized RX2, .code yX2_hourCell cX2_hourCell 3 (some .int), .methodLink RX2 145 yX2_yearCell, .static yX2_yearCell, .code yX2_yearCell cX2_yearCell 2 (some .int)] ++ wsX20)
def wsX2_trade_r1 : List Cond := [Cond.classLink RX2 80 "java/lang/IndexOutOfBoundsException", Cond.initialized "java/lang/IndexOutOfBoundsException", Cond.classLink RX2 54 "java/lang/IllegalArgumentException", Cond.initialized "java/lang/IllegalArgumentException", Cond.classLink RX2 91 "java/lang/IllegalStateException", Cond.initialized "java/lang/IllegalStateException", Cond.fieldLink RX2 30 "CapacityRound" "obligations" "[I", Cond.fieldLink RX2 40 "CapacityRound" "tradeCount" "I", Cond.methodLink RX2 76 yX2_isParty, Cond.static yX2_isParty, Cond.initialized RX2, Cond.code yX2_isParty cX2_isParty 1 (some .boolean), Cond.methodLink RX2 50 yX2_isWithin, Cond.static yX2_isWithin, Cond.code yX2_isWithin cX2_isWithin 3 (some .boolean), Cond.methodLink RX2 108 yX2_isYear, Cond.static yX2_isYear, Cond.code yX2_isYear cX2_isYear 1 (some .boolean), Cond.methodLink RX2 149 yX2_isHour, Cond.static yX2_isHour, Cond.code yX2_isHour cX2_isHour 1 (some .boolean), Cond.methodLink RX2 160 yX2_leastObligation, Cond.instanceMethod yX2_leastObligation, Cond.selects RX2 yX2_leastObligation yX2_leastObligation]
def wsX2_trade_r2 : List Cond := [Cond.code yX2_leastObligation cX2_leastObligation 7 (some .int), Cond.methodLink RX2 186 Lib.Math.min.name, Cond.static Lib.Math.min.name, Cond.initialized "java/lang/Math", Cond.code Lib.Math.min.name Lib.Math.min.code 2 (some .int), Cond.methodLink RX2 154 yX2_hourCell, Cond.static yX2_hourCell, Cond.code yX2_hourCell cX2_hourCell 3 (some .int), Cond.methodLink RX2 145 yX2_yearCell, Cond.static yX2_yearCell, Cond.code yX2_yearCell cX2_yearCell 2 (some .int)]
def wsX2_trade : List Cond := .code yX2_trade cX2_trade 9 (some .int) :: ((wsX2_trade_r1 ++ wsX2_trade_r2) ++ wsX20 ++ (vx_atS RX2 84 "java/lang/IndexOutOfBoundsException" ["java/lang/RuntimeException", "java/lang/Exception"]).filter goodWord ++ (vx_atS RX2 58 "java/lang/IllegalArgumentException" ["java/lang/RuntimeException", "java/lang/Exception"]).filter goodWord ++ (vx_atS RX2 95 "java/lang/IllegalStateException" ["java/lang/RuntimeException", "java/lang/Exception"]).filter goodWord)
def wsX2_trades : List Cond := .code yX2_trades cX2_trades 1 (some .int) :: ([.fieldLink RX2 40 "CapacityRound" "tradeCount" "I"] ++ wsX20)
def wsX2_stress : List Cond := .code yX2_stress cX2_stress 4 (some .boolean) :: ([.classLink RX2 80 "java/lang/IndexOutOfBoundsException", .initialized "java/lang/IndexOutOfBoundsException", .fieldLink RX2 36 "CapacityRound" "stressed" "[Z", .methodLink RX2 108 yX2_isYear, .static yX2_isYear, .initialized RX2, .code yX2_isYear cX2_isYear 1 (some .boolean), .methodLink RX2 50 yX2_isWithin, .static yX2_isWithin, .code yX2_isWithin cX2_isWithin 3 (some .boolean), .methodLink RX2 149 yX2_isHour, .static yX2_isHour, .code yX2_isHour cX2_isHour 1 (some .boolean)] ++ wsX20 ++ (vx_atS RX2 84 "java/lang/IndexOutOfBoundsException" ["java/lang/RuntimeException", "java/lang/Exception"]).filter goodWord)
def wsX2_tell : List Cond := .code yX2_tell cX2_tell 7 (some .int) :: ([.classLink RX2 80 "java/lang/IndexOutOfBoundsException", .initialized "java/lang/IndexOutOfBoundsException", .classLink RX2 54 "java/lang/IllegalArgumentException", .initialized "java/lang/IllegalArgumentException", .fieldLink RX2 33 "CapacityRound" "outputs" "[I", .methodLink RX2 76 yX2_isParty, .static yX2_isParty, .initialized RX2, .code yX2_isParty cX2_isParty 1 (some .boolean), .methodLink RX2 50 yX2_isWithin, .static yX2_isWithin, .code yX2_isWithin cX2_isWithin 3 (some .boolean), .methodLink RX2 108 yX2_isYear, .static yX2_isYear, .code yX2_isYear cX2_isYear 1 (some .boolean), .methodLink RX2 149 yX2_isHour, .static yX2_isHour, .code yX2_isHour cX2_isHour 1 (some .boolean), .methodLink RX2 154 yX2_hourCell, .static yX2_hourCell, .code yX2_hourCell cX2_hourCell 3 (some .int), .methodLink RX2 145 yX2_yearCell, .static yX2_yearCell, .code yX2_yearCell cX2_yearCell 2 (some .int)] ++ wsX20 ++ (vx_atS RX2 84 "java/lang/IndexOutOfBoundsException" ["java/lang/RuntimeException", "java/lang/Exception"]).filter goodWord ++ (vx_atS RX2 58 "java/lang/IllegalArgumentException" ["java/lang/RuntimeException", "java/lang/Exception"]).filter goodWord)
def wsX2_setPenalty : List Cond := .code yX2_setPenalty cX2_setPenalty 3 none :: ([.classLink RX2 54 "java/lang/IllegalArgumentException", .initialized "java/lang/IllegalArgumentException", .fieldLink RX2 44 "CapacityRound" "penaltyRate" "I", .fieldLink RX2 47 "CapacityRound" "penaltyCap" "I", .methodLink RX2 50 yX2_isWithin, .static yX2_isWithin, .initialized RX2, .code yX2_isWithin cX2_isWithin 3 (some .boolean)] ++ wsX20 ++ (vx_atS RX2 58 "java/lang/IllegalArgumentException" ["java/lang/RuntimeException", "java/lang/Exception"]).filter goodWord)
def wsX2_lackOf : List Cond := .code yX2_lackOf cX2_lackOf 6 (some .int) :: ([.fieldLink RX2 36 "CapacityRound" "stressed" "[Z", .fieldLink RX2 30 "CapacityRound" "obligations" "[I", .fieldLink RX2 33 "CapacityRound" "outputs" "[I", .methodLink RX2 154 yX2_hourCell, .static yX2_hourCell, .initialized RX2, .code yX2_hourCell cX2_hourCell 3 (some .int), .methodLink RX2 145 yX2_yearCell, .static yX2_yearCell, .code yX2_yearCell cX2_yearCell 2 (some .int)] ++ wsX20)
def wsX2_lack_r1 : List Cond := [Cond.classLink RX2 80 "java/lang/IndexOutOfBoundsException", Cond.initialized "java/lang/IndexOutOfBoundsException", Cond.methodLink RX2 76 yX2_isParty, Cond.static yX2_isParty, Cond.initialized RX2, Cond.code yX2_isParty cX2_isParty 1 (some .boolean), Cond.methodLink RX2 50 yX2_isWithin, Cond.static yX2_isWithin, Cond.code yX2_isWithin cX2_isWithin 3 (some .boolean), Cond.methodLink RX2 108 yX2_isYear, Cond.static yX2_isYear, Cond.code yX2_isYear cX2_isYear 1 (some .boolean), Cond.methodLink RX2 171 yX2_lackOf, Cond.instanceMethod yX2_lackOf, Cond.selects RX2 yX2_lackOf yX2_lackOf, Cond.code yX2_lackOf cX2_lackOf 6 (some .int), Cond.fieldLink RX2 36 "CapacityRound" "stressed" "[Z", Cond.fieldLink RX2 30 "CapacityRound" "obligations" "[I", Cond.fieldLink RX2 33 "CapacityRound" "outputs" "[I", Cond.methodLink RX2 154 yX2_hourCell, Cond.static yX2_hourCell, Cond.code yX2_hourCell cX2_hourCell 3 (some .int), Cond.methodLink RX2 145 yX2_yearCell, Cond.static yX2_yearCell]
def wsX2_lack_r2 : List Cond := [Cond.code yX2_yearCell cX2_yearCell 2 (some .int)]
def wsX2_lack : List Cond := .code yX2_lack cX2_lack 3 (some .int) :: ((wsX2_lack_r1 ++ wsX2_lack_r2) ++ wsX20 ++ (vx_atS RX2 84 "java/lang/IndexOutOfBoundsException" ["java/lang/RuntimeException", "java/lang/Exception"]).filter goodWord)
def wsX2_penaltyOf_r1 : List Cond := [Cond.fieldLink RX2 44 "CapacityRound" "penaltyRate" "I", Cond.fieldLink RX2 27 "CapacityRound" "incomes" "[I", Cond.fieldLink RX2 47 "CapacityRound" "penaltyCap" "I", Cond.constantLong RX2 191 (100), Cond.methodLink RX2 193 Lib.MathLoose.min_long.x, Cond.static Lib.MathLoose.min_long.x, Cond.initialized "java/lang/Math", Cond.code Lib.MathLoose.min_long.x Lib.MathLoose.min_long.code 4 (some .long), Cond.methodLink RX2 196 Lib.MathLoose.max_long.x, Cond.static Lib.MathLoose.max_long.x, Cond.code Lib.MathLoose.max_long.x Lib.MathLoose.max_long.code 4 (some .long), Cond.methodLink RX2 171 yX2_lackOf, Cond.instanceMethod yX2_lackOf, Cond.selects RX2 yX2_lackOf yX2_lackOf, Cond.initialized RX2, Cond.code yX2_lackOf cX2_lackOf 6 (some .int), Cond.fieldLink RX2 36 "CapacityRound" "stressed" "[Z", Cond.fieldLink RX2 30 "CapacityRound" "obligations" "[I", Cond.fieldLink RX2 33 "CapacityRound" "outputs" "[I", Cond.methodLink RX2 154 yX2_hourCell, Cond.static yX2_hourCell, Cond.code yX2_hourCell cX2_hourCell 3 (some .int), Cond.methodLink RX2 145 yX2_yearCell, Cond.static yX2_yearCell]
def wsX2_penaltyOf_r2 : List Cond := [Cond.code yX2_yearCell cX2_yearCell 2 (some .int)]
def wsX2_penaltyOf : List Cond := .code yX2_penaltyOf cX2_penaltyOf 7 (some .int) :: ((wsX2_penaltyOf_r1 ++ wsX2_penaltyOf_r2) ++ wsX20)
def wsX2_penalty_r1 : List Cond := [Cond.classLink RX2 80 "java/lang/IndexOutOfBoundsException", Cond.initialized "java/lang/IndexOutOfBoundsException", Cond.methodLink RX2 76 yX2_isParty, Cond.static yX2_isParty, Cond.initialized RX2, Cond.code yX2_isParty cX2_isParty 1 (some .boolean), Cond.methodLink RX2 50 yX2_isWithin, Cond.static yX2_isWithin, Cond.code yX2_isWithin cX2_isWithin 3 (some .boolean), Cond.methodLink RX2 108 yX2_isYear, Cond.static yX2_isYear, Cond.code yX2_isYear cX2_isYear 1 (some .boolean), Cond.methodLink RX2 174 yX2_penaltyOf, Cond.instanceMethod yX2_penaltyOf, Cond.selects RX2 yX2_penaltyOf yX2_penaltyOf, Cond.code yX2_penaltyOf cX2_penaltyOf 7 (some .int), Cond.fieldLink RX2 44 "CapacityRound" "penaltyRate" "I", Cond.fieldLink RX2 27 "CapacityRound" "incomes" "[I", Cond.fieldLink RX2 47 "CapacityRound" "penaltyCap" "I", Cond.constantLong RX2 191 (100), Cond.methodLink RX2 193 Lib.MathLoose.min_long.x, Cond.static Lib.MathLoose.min_long.x, Cond.initialized "java/lang/Math", Cond.code Lib.MathLoose.min_long.x Lib.MathLoose.min_long.code 4 (some .long)]
def wsX2_penalty_r2 : List Cond := [Cond.methodLink RX2 196 Lib.MathLoose.max_long.x, Cond.static Lib.MathLoose.max_long.x, Cond.code Lib.MathLoose.max_long.x Lib.MathLoose.max_long.code 4 (some .long), Cond.methodLink RX2 171 yX2_lackOf, Cond.instanceMethod yX2_lackOf, Cond.selects RX2 yX2_lackOf yX2_lackOf, Cond.code yX2_lackOf cX2_lackOf 6 (some .int), Cond.fieldLink RX2 36 "CapacityRound" "stressed" "[Z", Cond.fieldLink RX2 30 "CapacityRound" "obligations" "[I", Cond.fieldLink RX2 33 "CapacityRound" "outputs" "[I", Cond.methodLink RX2 154 yX2_hourCell, Cond.static yX2_hourCell, Cond.code yX2_hourCell cX2_hourCell 3 (some .int), Cond.methodLink RX2 145 yX2_yearCell, Cond.static yX2_yearCell, Cond.code yX2_yearCell cX2_yearCell 2 (some .int)]
def wsX2_penalty : List Cond := .code yX2_penalty cX2_penalty 3 (some .int) :: ((wsX2_penalty_r1 ++ wsX2_penalty_r2) ++ wsX20 ++ (vx_atS RX2 84 "java/lang/IndexOutOfBoundsException" ["java/lang/RuntimeException", "java/lang/Exception"]).filter goodWord)
def wsX2_penalties_r1 : List Cond := [Cond.methodLink RX2 174 yX2_penaltyOf, Cond.instanceMethod yX2_penaltyOf, Cond.selects RX2 yX2_penaltyOf yX2_penaltyOf, Cond.initialized RX2, Cond.code yX2_penaltyOf cX2_penaltyOf 7 (some .int), Cond.fieldLink RX2 44 "CapacityRound" "penaltyRate" "I", Cond.fieldLink RX2 27 "CapacityRound" "incomes" "[I", Cond.fieldLink RX2 47 "CapacityRound" "penaltyCap" "I", Cond.constantLong RX2 191 (100), Cond.methodLink RX2 193 Lib.MathLoose.min_long.x, Cond.static Lib.MathLoose.min_long.x, Cond.initialized "java/lang/Math", Cond.code Lib.MathLoose.min_long.x Lib.MathLoose.min_long.code 4 (some .long), Cond.methodLink RX2 196 Lib.MathLoose.max_long.x, Cond.static Lib.MathLoose.max_long.x, Cond.code Lib.MathLoose.max_long.x Lib.MathLoose.max_long.code 4 (some .long), Cond.methodLink RX2 171 yX2_lackOf, Cond.instanceMethod yX2_lackOf, Cond.selects RX2 yX2_lackOf yX2_lackOf, Cond.code yX2_lackOf cX2_lackOf 6 (some .int), Cond.fieldLink RX2 36 "CapacityRound" "stressed" "[Z", Cond.fieldLink RX2 30 "CapacityRound" "obligations" "[I", Cond.fieldLink RX2 33 "CapacityRound" "outputs" "[I", Cond.methodLink RX2 154 yX2_hourCell]
def wsX2_penalties_r2 : List Cond := [Cond.static yX2_hourCell, Cond.code yX2_hourCell cX2_hourCell 3 (some .int), Cond.methodLink RX2 145 yX2_yearCell, Cond.static yX2_yearCell, Cond.code yX2_yearCell cX2_yearCell 2 (some .int)]
def wsX2_penalties : List Cond := .code yX2_penalties cX2_penalties 5 (some .long) :: ((wsX2_penalties_r1 ++ wsX2_penalties_r2) ++ wsX20)
def wsJ9_max_7cf53 : List Cond := .code yJ9_max_7cf53 cJ9_max_7cf53 2 (some .int) :: ([])
def wsJ9_max_f86c9 : List Cond := .code yJ9_max_f86c9 cJ9_max_f86c9 4 (some .long) :: ([])
def wsJ9_min_7cf53 : List Cond := .code yJ9_min_7cf53 cJ9_min_7cf53 2 (some .int) :: ([])
def wsJ9_min_f86c9 : List Cond := .code yJ9_min_f86c9 cJ9_min_f86c9 4 (some .long) :: ([])
def wsL_cell : List Cond := .code yL_cell cL_cell 2 (some .int) :: ([.constant RL 7 (70019), .constant RL 8 (2147483647)])
def wsL_demand_r1 : List Cond := [Cond.classLink RL 15 "java/lang/IllegalArgumentException", Cond.methodLink RL 9 yX2_setDemand, Cond.instanceMethod yX2_setDemand, Cond.selects RX2 yX2_setDemand yX2_setDemand, Cond.initialized RX2, Cond.code yX2_setDemand cX2_setDemand 4 none, Cond.classLink RX2 54 "java/lang/IllegalArgumentException", Cond.initialized "java/lang/IllegalArgumentException", Cond.fieldLink RX2 10 "CapacityRound" "demand" "LCapacityRound$Demand;", Cond.methodLink RX2 50 yX2_isWithin, Cond.static yX2_isWithin, Cond.code yX2_isWithin cX2_isWithin 3 (some .boolean), Cond.methodLink RX2 61 yX0_change, Cond.instanceMethod yX0_change, Cond.selects RX0 yX0_change yX0_change, Cond.initialized RX0, Cond.code yX0_change cX0_change 5 none, Cond.fieldLink RX0 17 "CapacityRound$Demand" "lowerAmount" "I", Cond.fieldLink RX0 21 "CapacityRound$Demand" "upperAmount" "I", Cond.fieldLink RX0 24 "CapacityRound$Demand" "topPrice" "I", Cond.fieldLink RX0 9 "CapacityRound$Demand" "worths" "[I", Cond.methodLink RX0 27 yX0_valueOf, Cond.instanceMethod yX0_valueOf, Cond.selects RX0 yX0_valueOf yX0_valueOf]
def wsL_demand_r2 : List Cond := [Cond.code yX0_valueOf cX0_valueOf 2 (some .int)]
def wsL_demand : List Cond := .codeWith yL_demand cL_demand 5 (some .int) [(0, 7, 10, 15)] :: ((wsL_demand_r1 ++ wsL_demand_r2) ++ wsX20 ++ wsX00 ++ (vx_atS RX2 58 "java/lang/IllegalArgumentException" ["java/lang/RuntimeException", "java/lang/Exception"]).filter goodWord)
def wsL_value : List Cond := .codeWith yL_value cL_value 3 (some .int) [(0, 5, 6, 15)] :: ([.classLink RL 15 "java/lang/IllegalArgumentException", .methodLink RL 17 yX2_value, .instanceMethod yX2_value, .selects RX2 yX2_value yX2_value, .initialized RX2, .code yX2_value cX2_value 2 (some .int), .classLink RX2 54 "java/lang/IllegalArgumentException", .initialized "java/lang/IllegalArgumentException", .fieldLink RX2 10 "CapacityRound" "demand" "LCapacityRound$Demand;", .methodLink RX2 50 yX2_isWithin, .static yX2_isWithin, .code yX2_isWithin cX2_isWithin 3 (some .boolean), .methodLink RX2 67 yX0_valueOf, .instanceMethod yX0_valueOf, .selects RX0 yX0_valueOf yX0_valueOf, .initialized RX0, .code yX0_valueOf cX0_valueOf 2 (some .int), .fieldLink RX0 17 "CapacityRound$Demand" "lowerAmount" "I", .fieldLink RX0 24 "CapacityRound$Demand" "topPrice" "I", .fieldLink RX0 21 "CapacityRound$Demand" "upperAmount" "I"] ++ wsX20 ++ wsX00 ++ (vx_atS RX2 58 "java/lang/IllegalArgumentException" ["java/lang/RuntimeException", "java/lang/Exception"]).filter goodWord)
def wsL_worth_r1 : List Cond := [Cond.classLink RL 15 "java/lang/IllegalArgumentException", Cond.methodLink RL 21 yX2_worth, Cond.instanceMethod yX2_worth, Cond.selects RX2 yX2_worth yX2_worth, Cond.initialized RX2, Cond.code yX2_worth cX2_worth 2 (some .int), Cond.classLink RX2 54 "java/lang/IllegalArgumentException", Cond.initialized "java/lang/IllegalArgumentException", Cond.fieldLink RX2 10 "CapacityRound" "demand" "LCapacityRound$Demand;", Cond.methodLink RX2 50 yX2_isWithin, Cond.static yX2_isWithin, Cond.code yX2_isWithin cX2_isWithin 3 (some .boolean), Cond.methodLink RX2 73 yX0_worthOf, Cond.instanceMethod yX0_worthOf, Cond.selects RX0 yX0_worthOf yX0_worthOf, Cond.initialized RX0, Cond.code yX0_worthOf cX0_worthOf 2 (some .int), Cond.fieldLink RX0 9 "CapacityRound$Demand" "worths" "[I", Cond.methodLink RX0 31 Lib.Math.min.name, Cond.static Lib.Math.min.name, Cond.initialized "java/lang/Math", Cond.code Lib.Math.min.name Lib.Math.min.code 2 (some .int), Cond.methodLink RX0 37 Lib.Math.max.name, Cond.static Lib.Math.max.name]
def wsL_worth_r2 : List Cond := [Cond.code Lib.Math.max.name Lib.Math.max.code 2 (some .int)]
def wsL_worth : List Cond := .codeWith yL_worth cL_worth 3 (some .int) [(0, 5, 6, 15)] :: ((wsL_worth_r1 ++ wsL_worth_r2) ++ wsX20 ++ wsX00 ++ (vx_atS RX2 58 "java/lang/IllegalArgumentException" ["java/lang/RuntimeException", "java/lang/Exception"]).filter goodWord)
def wsL_offer_r1 : List Cond := [Cond.classLink RL 28 "java/lang/IndexOutOfBoundsException", Cond.classLink RL 15 "java/lang/IllegalArgumentException", Cond.classLink RL 30 "java/lang/IllegalStateException", Cond.methodLink RL 24 yX2_offer, Cond.instanceMethod yX2_offer, Cond.selects RX2 yX2_offer yX2_offer, Cond.initialized RX2, Cond.code yX2_offer cX2_offer 6 (some .int), Cond.classLink RX2 80 "java/lang/IndexOutOfBoundsException", Cond.initialized "java/lang/IndexOutOfBoundsException", Cond.classLink RX2 54 "java/lang/IllegalArgumentException", Cond.initialized "java/lang/IllegalArgumentException", Cond.classLink RX2 91 "java/lang/IllegalStateException", Cond.initialized "java/lang/IllegalStateException", Cond.fieldLink RX2 19 "CapacityRound" "queue" "LCapacityRound$Queue;", Cond.methodLink RX2 76 yX2_isParty, Cond.static yX2_isParty, Cond.code yX2_isParty cX2_isParty 1 (some .boolean), Cond.methodLink RX2 50 yX2_isWithin, Cond.static yX2_isWithin, Cond.code yX2_isWithin cX2_isWithin 3 (some .boolean), Cond.methodLink RX2 87 yX1_isFull, Cond.instanceMethod yX1_isFull, Cond.selects RX1 yX1_isFull yX1_isFull]
def wsL_offer_r2 : List Cond := [Cond.initialized RX1, Cond.code yX1_isFull cX1_isFull 1 (some .boolean), Cond.fieldLink RX1 31 "CapacityRound$Queue" "count" "I", Cond.methodLink RX2 96 yX1_add, Cond.instanceMethod yX1_add, Cond.selects RX1 yX1_add yX1_add, Cond.code yX1_add cX1_add 7 (some .int), Cond.fieldLink RX1 24 "CapacityRound$Queue" "exits" "[I", Cond.fieldLink RX1 21 "CapacityRound$Queue" "order" "[I", Cond.fieldLink RX1 11 "CapacityRound$Queue" "parties" "[I", Cond.fieldLink RX1 15 "CapacityRound$Queue" "amounts" "[I", Cond.fieldLink RX1 18 "CapacityRound$Queue" "terms" "[I"]
def wsL_offer : List Cond := .codeWith yL_offer cL_offer 7 (some .int) [(0, 11, 12, 28), (0, 11, 17, 15), (0, 11, 22, 30)] :: ((wsL_offer_r1 ++ wsL_offer_r2) ++ wsX20 ++ wsX10 ++ (vx_atS RX2 84 "java/lang/IndexOutOfBoundsException" ["java/lang/RuntimeException", "java/lang/Exception"]).filter goodWord ++ (vx_atS RX2 58 "java/lang/IllegalArgumentException" ["java/lang/RuntimeException", "java/lang/Exception"]).filter goodWord ++ (vx_atS RX2 95 "java/lang/IllegalStateException" ["java/lang/RuntimeException", "java/lang/Exception"]).filter goodWord)
def wsL_supply : List Cond := .codeWith yL_supply cL_supply 3 (some .int) [(0, 5, 6, 15)] :: ([.classLink RL 15 "java/lang/IllegalArgumentException", .methodLink RL 32 yX2_supply, .instanceMethod yX2_supply, .selects RX2 yX2_supply yX2_supply, .initialized RX2, .code yX2_supply cX2_supply 2 (some .int), .classLink RX2 54 "java/lang/IllegalArgumentException", .initialized "java/lang/IllegalArgumentException", .fieldLink RX2 19 "CapacityRound" "queue" "LCapacityRound$Queue;", .methodLink RX2 50 yX2_isWithin, .static yX2_isWithin, .code yX2_isWithin cX2_isWithin 3 (some .boolean), .methodLink RX2 105 yX1_amountUpTo, .instanceMethod yX1_amountUpTo, .selects RX1 yX1_amountUpTo yX1_amountUpTo, .initialized RX1, .code yX1_amountUpTo cX1_amountUpTo 4 (some .int), .fieldLink RX1 31 "CapacityRound$Queue" "count" "I", .fieldLink RX1 24 "CapacityRound$Queue" "exits" "[I", .fieldLink RX1 15 "CapacityRound$Queue" "amounts" "[I"] ++ wsX20 ++ wsX10 ++ (vx_atS RX2 58 "java/lang/IllegalArgumentException" ["java/lang/RuntimeException", "java/lang/Exception"]).filter goodWord)
def wsL_clearing_r1 : List Cond := [Cond.classLink RL 28 "java/lang/IndexOutOfBoundsException", Cond.methodLink RL 35 yX2_clearing, Cond.instanceMethod yX2_clearing, Cond.selects RX2 yX2_clearing yX2_clearing, Cond.initialized RX2, Cond.code yX2_clearing cX2_clearing 2 (some .int), Cond.classLink RX2 80 "java/lang/IndexOutOfBoundsException", Cond.initialized "java/lang/IndexOutOfBoundsException", Cond.fieldLink RX2 19 "CapacityRound" "queue" "LCapacityRound$Queue;", Cond.fieldLink RX2 10 "CapacityRound" "demand" "LCapacityRound$Demand;", Cond.fieldLink RX2 23 "CapacityRound" "boughtByYear" "[I", Cond.methodLink RX2 108 yX2_isYear, Cond.static yX2_isYear, Cond.code yX2_isYear cX2_isYear 1 (some .boolean), Cond.methodLink RX2 50 yX2_isWithin, Cond.static yX2_isWithin, Cond.code yX2_isWithin cX2_isWithin 3 (some .boolean), Cond.methodLink RX2 113 yX1_bestFirst, Cond.instanceMethod yX1_bestFirst, Cond.selects RX1 yX1_bestFirst yX1_bestFirst, Cond.initialized RX1, Cond.code yX1_bestFirst cX1_bestFirst 10 (some .int), Cond.fieldLink RX1 31 "CapacityRound$Queue" "count" "I", Cond.fieldLink RX1 21 "CapacityRound$Queue" "order" "[I"]
def wsL_clearing_r2 : List Cond := [Cond.fieldLink RX1 15 "CapacityRound$Queue" "amounts" "[I", Cond.fieldLink RX1 24 "CapacityRound$Queue" "exits" "[I", Cond.methodLink RX1 35 yX0_worthOf, Cond.instanceMethod yX0_worthOf, Cond.selects RX0 yX0_worthOf yX0_worthOf, Cond.initialized RX0, Cond.code yX0_worthOf cX0_worthOf 2 (some .int), Cond.fieldLink RX0 9 "CapacityRound$Demand" "worths" "[I", Cond.methodLink RX0 31 Lib.Math.min.name, Cond.static Lib.Math.min.name, Cond.initialized "java/lang/Math", Cond.code Lib.Math.min.name Lib.Math.min.code 2 (some .int), Cond.methodLink RX0 37 Lib.Math.max.name, Cond.static Lib.Math.max.name, Cond.code Lib.Math.max.name Lib.Math.max.code 2 (some .int), Cond.methodLink RX2 117 yX1_priceOfFirst, Cond.instanceMethod yX1_priceOfFirst, Cond.selects RX1 yX1_priceOfFirst yX1_priceOfFirst, Cond.code yX1_priceOfFirst cX1_priceOfFirst 2 (some .int)]
def wsL_clearing : List Cond := .codeWith yL_clearing cL_clearing 3 (some .int) [(0, 5, 6, 28)] :: ((wsL_clearing_r1 ++ wsL_clearing_r2) ++ wsX20 ++ wsX10 ++ wsX00 ++ (vx_atS RX2 84 "java/lang/IndexOutOfBoundsException" ["java/lang/RuntimeException", "java/lang/Exception"]).filter goodWord)
def wsL_clock_r1 : List Cond := [Cond.classLink RL 28 "java/lang/IndexOutOfBoundsException", Cond.methodLink RL 38 yX2_clearingByClock, Cond.instanceMethod yX2_clearingByClock, Cond.selects RX2 yX2_clearingByClock yX2_clearingByClock, Cond.initialized RX2, Cond.code yX2_clearingByClock cX2_clearingByClock 2 (some .int), Cond.classLink RX2 80 "java/lang/IndexOutOfBoundsException", Cond.initialized "java/lang/IndexOutOfBoundsException", Cond.fieldLink RX2 19 "CapacityRound" "queue" "LCapacityRound$Queue;", Cond.fieldLink RX2 10 "CapacityRound" "demand" "LCapacityRound$Demand;", Cond.fieldLink RX2 23 "CapacityRound" "boughtByYear" "[I", Cond.methodLink RX2 108 yX2_isYear, Cond.static yX2_isYear, Cond.code yX2_isYear cX2_isYear 1 (some .boolean), Cond.methodLink RX2 50 yX2_isWithin, Cond.static yX2_isWithin, Cond.code yX2_isWithin cX2_isWithin 3 (some .boolean), Cond.methodLink RX2 120 yX1_priceByClock, Cond.instanceMethod yX1_priceByClock, Cond.selects RX1 yX1_priceByClock yX1_priceByClock, Cond.initialized RX1, Cond.code yX1_priceByClock cX1_priceByClock 10 (some .int), Cond.fieldLink RX1 31 "CapacityRound$Queue" "count" "I", Cond.fieldLink RX1 27 "CapacityRound$Queue" "in" "[Z"]
def wsL_clock_r2 : List Cond := [Cond.fieldLink RX1 15 "CapacityRound$Queue" "amounts" "[I", Cond.fieldLink RX1 24 "CapacityRound$Queue" "exits" "[I", Cond.methodLink RX1 35 yX0_worthOf, Cond.instanceMethod yX0_worthOf, Cond.selects RX0 yX0_worthOf yX0_worthOf, Cond.initialized RX0, Cond.code yX0_worthOf cX0_worthOf 2 (some .int), Cond.fieldLink RX0 9 "CapacityRound$Demand" "worths" "[I", Cond.methodLink RX0 31 Lib.Math.min.name, Cond.static Lib.Math.min.name, Cond.initialized "java/lang/Math", Cond.code Lib.Math.min.name Lib.Math.min.code 2 (some .int), Cond.methodLink RX0 37 Lib.Math.max.name, Cond.static Lib.Math.max.name, Cond.code Lib.Math.max.name Lib.Math.max.code 2 (some .int), Cond.methodLink RX1 41 yX1_dearestIn, Cond.instanceMethod yX1_dearestIn, Cond.selects RX1 yX1_dearestIn yX1_dearestIn, Cond.code yX1_dearestIn cX1_dearestIn 3 (some .int), Cond.methodLink RX1 45 yX1_exitOf, Cond.instanceMethod yX1_exitOf, Cond.selects RX1 yX1_exitOf yX1_exitOf, Cond.code yX1_exitOf cX1_exitOf 2 (some .int)]
def wsL_clock : List Cond := .codeWith yL_clock cL_clock 3 (some .int) [(0, 5, 6, 28)] :: ((wsL_clock_r1 ++ wsL_clock_r2) ++ wsX20 ++ wsX10 ++ wsX00 ++ (vx_atS RX2 84 "java/lang/IndexOutOfBoundsException" ["java/lang/RuntimeException", "java/lang/Exception"]).filter goodWord)
def wsL_would_r1 : List Cond := [Cond.classLink RL 28 "java/lang/IndexOutOfBoundsException", Cond.methodLink RL 41 yX2_wouldTake, Cond.instanceMethod yX2_wouldTake, Cond.selects RX2 yX2_wouldTake yX2_wouldTake, Cond.initialized RX2, Cond.code yX2_wouldTake cX2_wouldTake 3 (some .boolean), Cond.classLink RX2 80 "java/lang/IndexOutOfBoundsException", Cond.initialized "java/lang/IndexOutOfBoundsException", Cond.fieldLink RX2 19 "CapacityRound" "queue" "LCapacityRound$Queue;", Cond.fieldLink RX2 10 "CapacityRound" "demand" "LCapacityRound$Demand;", Cond.fieldLink RX2 23 "CapacityRound" "boughtByYear" "[I", Cond.methodLink RX2 123 yX1_has, Cond.instanceMethod yX1_has, Cond.selects RX1 yX1_has yX1_has, Cond.initialized RX1, Cond.code yX1_has cX1_has 2 (some .boolean), Cond.fieldLink RX1 31 "CapacityRound$Queue" "count" "I", Cond.methodLink RX2 108 yX2_isYear, Cond.static yX2_isYear, Cond.code yX2_isYear cX2_isYear 1 (some .boolean), Cond.methodLink RX2 50 yX2_isWithin, Cond.static yX2_isWithin, Cond.code yX2_isWithin cX2_isWithin 3 (some .boolean), Cond.methodLink RX2 113 yX1_bestFirst]
def wsL_would_r2 : List Cond := [Cond.instanceMethod yX1_bestFirst, Cond.selects RX1 yX1_bestFirst yX1_bestFirst, Cond.code yX1_bestFirst cX1_bestFirst 10 (some .int), Cond.fieldLink RX1 21 "CapacityRound$Queue" "order" "[I", Cond.fieldLink RX1 15 "CapacityRound$Queue" "amounts" "[I", Cond.fieldLink RX1 24 "CapacityRound$Queue" "exits" "[I", Cond.methodLink RX1 35 yX0_worthOf, Cond.instanceMethod yX0_worthOf, Cond.selects RX0 yX0_worthOf yX0_worthOf, Cond.initialized RX0, Cond.code yX0_worthOf cX0_worthOf 2 (some .int), Cond.fieldLink RX0 9 "CapacityRound$Demand" "worths" "[I", Cond.methodLink RX0 31 Lib.Math.min.name, Cond.static Lib.Math.min.name, Cond.initialized "java/lang/Math", Cond.code Lib.Math.min.name Lib.Math.min.code 2 (some .int), Cond.methodLink RX0 37 Lib.Math.max.name, Cond.static Lib.Math.max.name, Cond.code Lib.Math.max.name Lib.Math.max.code 2 (some .int), Cond.methodLink RX2 128 yX1_isAmongFirst, Cond.instanceMethod yX1_isAmongFirst, Cond.selects RX1 yX1_isAmongFirst yX1_isAmongFirst, Cond.code yX1_isAmongFirst cX1_isAmongFirst 4 (some .boolean)]
def wsL_would : List Cond := .codeWith yL_would cL_would 4 (some .int) [(0, 14, 15, 28)] :: ((wsL_would_r1 ++ wsL_would_r2) ++ wsX20 ++ wsX10 ++ wsX00 ++ (vx_atS RX2 84 "java/lang/IndexOutOfBoundsException" ["java/lang/RuntimeException", "java/lang/Exception"]).filter goodWord)
def wsL_run_r1 : List Cond := [Cond.classLink RL 28 "java/lang/IndexOutOfBoundsException", Cond.classLink RL 30 "java/lang/IllegalStateException", Cond.methodLink RL 45 yX2_run, Cond.instanceMethod yX2_run, Cond.selects RX2 yX2_run yX2_run, Cond.initialized RX2, Cond.code yX2_run cX2_run 5 (some .int), Cond.classLink RX2 80 "java/lang/IndexOutOfBoundsException", Cond.initialized "java/lang/IndexOutOfBoundsException", Cond.classLink RX2 91 "java/lang/IllegalStateException", Cond.initialized "java/lang/IllegalStateException", Cond.fieldLink RX2 19 "CapacityRound" "queue" "LCapacityRound$Queue;", Cond.fieldLink RX2 100 "CapacityRound$Queue" "count" "I", Cond.fieldLink RX2 10 "CapacityRound" "demand" "LCapacityRound$Demand;", Cond.fieldLink RX2 23 "CapacityRound" "boughtByYear" "[I", Cond.fieldLink RX2 134 "CapacityRound$Queue" "order" "[I", Cond.methodLink RX2 108 yX2_isYear, Cond.static yX2_isYear, Cond.code yX2_isYear cX2_isYear 1 (some .boolean), Cond.methodLink RX2 50 yX2_isWithin, Cond.static yX2_isWithin, Cond.code yX2_isWithin cX2_isWithin 3 (some .boolean), Cond.methodLink RX2 113 yX1_bestFirst, Cond.instanceMethod yX1_bestFirst]
def wsL_run_r2 : List Cond := [Cond.selects RX1 yX1_bestFirst yX1_bestFirst, Cond.initialized RX1, Cond.code yX1_bestFirst cX1_bestFirst 10 (some .int), Cond.fieldLink RX1 31 "CapacityRound$Queue" "count" "I", Cond.fieldLink RX1 21 "CapacityRound$Queue" "order" "[I", Cond.fieldLink RX1 15 "CapacityRound$Queue" "amounts" "[I", Cond.fieldLink RX1 24 "CapacityRound$Queue" "exits" "[I", Cond.methodLink RX1 35 yX0_worthOf, Cond.instanceMethod yX0_worthOf, Cond.selects RX0 yX0_worthOf yX0_worthOf, Cond.initialized RX0, Cond.code yX0_worthOf cX0_worthOf 2 (some .int), Cond.fieldLink RX0 9 "CapacityRound$Demand" "worths" "[I", Cond.methodLink RX0 31 Lib.Math.min.name, Cond.static Lib.Math.min.name, Cond.initialized "java/lang/Math", Cond.code Lib.Math.min.name Lib.Math.min.code 2 (some .int), Cond.methodLink RX0 37 Lib.Math.max.name, Cond.static Lib.Math.max.name, Cond.code Lib.Math.max.name Lib.Math.max.code 2 (some .int), Cond.methodLink RX2 117 yX1_priceOfFirst, Cond.instanceMethod yX1_priceOfFirst, Cond.selects RX1 yX1_priceOfFirst yX1_priceOfFirst, Cond.code yX1_priceOfFirst cX1_priceOfFirst 2 (some .int)]
def wsL_run_r3 : List Cond := [Cond.methodLink RX2 137 yX2_take, Cond.instanceMethod yX2_take, Cond.selects RX2 yX2_take yX2_take, Cond.code yX2_take cX2_take 9 none, Cond.fieldLink RX2 177 "CapacityRound$Queue" "parties" "[I", Cond.fieldLink RX2 180 "CapacityRound$Queue" "amounts" "[I", Cond.fieldLink RX2 183 "CapacityRound$Queue" "terms" "[I", Cond.methodLink RX2 186 Lib.Math.min.name, Cond.fieldLink RX2 27 "CapacityRound" "incomes" "[I", Cond.fieldLink RX2 30 "CapacityRound" "obligations" "[I", Cond.methodLink RX2 145 yX2_yearCell, Cond.static yX2_yearCell, Cond.code yX2_yearCell cX2_yearCell 2 (some .int), Cond.methodLink RX2 154 yX2_hourCell, Cond.static yX2_hourCell, Cond.code yX2_hourCell cX2_hourCell 3 (some .int), Cond.methodLink RX2 140 yX1_clear, Cond.instanceMethod yX1_clear, Cond.selects RX1 yX1_clear yX1_clear, Cond.code yX1_clear cX1_clear 1 none]
def wsL_run : List Cond := .codeWith yL_run cL_run 3 (some .int) [(0, 5, 6, 28), (0, 5, 10, 30)] :: ((wsL_run_r1 ++ (wsL_run_r2 ++ wsL_run_r3)) ++ wsX20 ++ wsX10 ++ wsX00 ++ (vx_atS RX2 84 "java/lang/IndexOutOfBoundsException" ["java/lang/RuntimeException", "java/lang/Exception"]).filter goodWord ++ (vx_atS RX2 95 "java/lang/IllegalStateException" ["java/lang/RuntimeException", "java/lang/Exception"]).filter goodWord)
def wsL_bought : List Cond := .codeWith yL_bought cL_bought 3 (some .int) [(0, 5, 6, 28)] :: ([.classLink RL 28 "java/lang/IndexOutOfBoundsException", .methodLink RL 48 yX2_bought, .instanceMethod yX2_bought, .selects RX2 yX2_bought yX2_bought, .initialized RX2, .code yX2_bought cX2_bought 2 (some .int), .classLink RX2 80 "java/lang/IndexOutOfBoundsException", .initialized "java/lang/IndexOutOfBoundsException", .fieldLink RX2 23 "CapacityRound" "boughtByYear" "[I", .methodLink RX2 108 yX2_isYear, .static yX2_isYear, .code yX2_isYear cX2_isYear 1 (some .boolean), .methodLink RX2 50 yX2_isWithin, .static yX2_isWithin, .code yX2_isWithin cX2_isWithin 3 (some .boolean)] ++ wsX20 ++ (vx_atS RX2 84 "java/lang/IndexOutOfBoundsException" ["java/lang/RuntimeException", "java/lang/Exception"]).filter goodWord)
def wsL_income : List Cond := .codeWith yL_income cL_income 4 (some .int) [(0, 6, 7, 28)] :: ([.classLink RL 28 "java/lang/IndexOutOfBoundsException", .methodLink RL 51 yX2_income, .instanceMethod yX2_income, .selects RX2 yX2_income yX2_income, .initialized RX2, .code yX2_income cX2_income 3 (some .int), .classLink RX2 80 "java/lang/IndexOutOfBoundsException", .initialized "java/lang/IndexOutOfBoundsException", .fieldLink RX2 27 "CapacityRound" "incomes" "[I", .methodLink RX2 76 yX2_isParty, .static yX2_isParty, .code yX2_isParty cX2_isParty 1 (some .boolean), .methodLink RX2 50 yX2_isWithin, .static yX2_isWithin, .code yX2_isWithin cX2_isWithin 3 (some .boolean), .methodLink RX2 108 yX2_isYear, .static yX2_isYear, .code yX2_isYear cX2_isYear 1 (some .boolean), .methodLink RX2 145 yX2_yearCell, .static yX2_yearCell, .code yX2_yearCell cX2_yearCell 2 (some .int)] ++ wsX20 ++ (vx_atS RX2 84 "java/lang/IndexOutOfBoundsException" ["java/lang/RuntimeException", "java/lang/Exception"]).filter goodWord)
def wsL_obliged_r1 : List Cond := [Cond.classLink RL 28 "java/lang/IndexOutOfBoundsException", Cond.methodLink RL 55 yX2_obligation, Cond.instanceMethod yX2_obligation, Cond.selects RX2 yX2_obligation yX2_obligation, Cond.initialized RX2, Cond.code yX2_obligation cX2_obligation 4 (some .int), Cond.classLink RX2 80 "java/lang/IndexOutOfBoundsException", Cond.initialized "java/lang/IndexOutOfBoundsException", Cond.fieldLink RX2 30 "CapacityRound" "obligations" "[I", Cond.methodLink RX2 76 yX2_isParty, Cond.static yX2_isParty, Cond.code yX2_isParty cX2_isParty 1 (some .boolean), Cond.methodLink RX2 50 yX2_isWithin, Cond.static yX2_isWithin, Cond.code yX2_isWithin cX2_isWithin 3 (some .boolean), Cond.methodLink RX2 108 yX2_isYear, Cond.static yX2_isYear, Cond.code yX2_isYear cX2_isYear 1 (some .boolean), Cond.methodLink RX2 149 yX2_isHour, Cond.static yX2_isHour, Cond.code yX2_isHour cX2_isHour 1 (some .boolean), Cond.methodLink RX2 154 yX2_hourCell, Cond.static yX2_hourCell, Cond.code yX2_hourCell cX2_hourCell 3 (some .int)]
def wsL_obliged_r2 : List Cond := [Cond.methodLink RX2 145 yX2_yearCell, Cond.static yX2_yearCell, Cond.code yX2_yearCell cX2_yearCell 2 (some .int)]
def wsL_obliged : List Cond := .codeWith yL_obliged cL_obliged 5 (some .int) [(0, 7, 8, 28)] :: ((wsL_obliged_r1 ++ wsL_obliged_r2) ++ wsX20 ++ (vx_atS RX2 84 "java/lang/IndexOutOfBoundsException" ["java/lang/RuntimeException", "java/lang/Exception"]).filter goodWord)
def wsL_trade_r1 : List Cond := [Cond.classLink RL 28 "java/lang/IndexOutOfBoundsException", Cond.classLink RL 15 "java/lang/IllegalArgumentException", Cond.classLink RL 30 "java/lang/IllegalStateException", Cond.methodLink RL 59 yX2_trade, Cond.instanceMethod yX2_trade, Cond.selects RX2 yX2_trade yX2_trade, Cond.initialized RX2, Cond.code yX2_trade cX2_trade 9 (some .int), Cond.classLink RX2 80 "java/lang/IndexOutOfBoundsException", Cond.initialized "java/lang/IndexOutOfBoundsException", Cond.classLink RX2 54 "java/lang/IllegalArgumentException", Cond.initialized "java/lang/IllegalArgumentException", Cond.classLink RX2 91 "java/lang/IllegalStateException", Cond.initialized "java/lang/IllegalStateException", Cond.fieldLink RX2 30 "CapacityRound" "obligations" "[I", Cond.fieldLink RX2 40 "CapacityRound" "tradeCount" "I", Cond.methodLink RX2 76 yX2_isParty, Cond.static yX2_isParty, Cond.code yX2_isParty cX2_isParty 1 (some .boolean), Cond.methodLink RX2 50 yX2_isWithin, Cond.static yX2_isWithin, Cond.code yX2_isWithin cX2_isWithin 3 (some .boolean), Cond.methodLink RX2 108 yX2_isYear, Cond.static yX2_isYear]
def wsL_trade_r2 : List Cond := [Cond.code yX2_isYear cX2_isYear 1 (some .boolean), Cond.methodLink RX2 149 yX2_isHour, Cond.static yX2_isHour, Cond.code yX2_isHour cX2_isHour 1 (some .boolean), Cond.methodLink RX2 160 yX2_leastObligation, Cond.instanceMethod yX2_leastObligation, Cond.selects RX2 yX2_leastObligation yX2_leastObligation, Cond.code yX2_leastObligation cX2_leastObligation 7 (some .int), Cond.methodLink RX2 186 Lib.Math.min.name, Cond.static Lib.Math.min.name, Cond.initialized "java/lang/Math", Cond.code Lib.Math.min.name Lib.Math.min.code 2 (some .int), Cond.methodLink RX2 154 yX2_hourCell, Cond.static yX2_hourCell, Cond.code yX2_hourCell cX2_hourCell 3 (some .int), Cond.methodLink RX2 145 yX2_yearCell, Cond.static yX2_yearCell, Cond.code yX2_yearCell cX2_yearCell 2 (some .int)]
def wsL_trade : List Cond := .codeWith yL_trade cL_trade 8 (some .int) [(0, 13, 14, 28), (0, 13, 19, 15), (0, 13, 24, 30)] :: ((wsL_trade_r1 ++ wsL_trade_r2) ++ wsX20 ++ (vx_atS RX2 84 "java/lang/IndexOutOfBoundsException" ["java/lang/RuntimeException", "java/lang/Exception"]).filter goodWord ++ (vx_atS RX2 58 "java/lang/IllegalArgumentException" ["java/lang/RuntimeException", "java/lang/Exception"]).filter goodWord ++ (vx_atS RX2 95 "java/lang/IllegalStateException" ["java/lang/RuntimeException", "java/lang/Exception"]).filter goodWord)
def wsL_stress : List Cond := .codeWith yL_stress cL_stress 4 (some .int) [(0, 14, 15, 28)] :: ([.classLink RL 28 "java/lang/IndexOutOfBoundsException", .methodLink RL 63 yX2_stress, .instanceMethod yX2_stress, .selects RX2 yX2_stress yX2_stress, .initialized RX2, .code yX2_stress cX2_stress 4 (some .boolean), .classLink RX2 80 "java/lang/IndexOutOfBoundsException", .initialized "java/lang/IndexOutOfBoundsException", .fieldLink RX2 36 "CapacityRound" "stressed" "[Z", .methodLink RX2 108 yX2_isYear, .static yX2_isYear, .code yX2_isYear cX2_isYear 1 (some .boolean), .methodLink RX2 50 yX2_isWithin, .static yX2_isWithin, .code yX2_isWithin cX2_isWithin 3 (some .boolean), .methodLink RX2 149 yX2_isHour, .static yX2_isHour, .code yX2_isHour cX2_isHour 1 (some .boolean)] ++ wsX20 ++ (vx_atS RX2 84 "java/lang/IndexOutOfBoundsException" ["java/lang/RuntimeException", "java/lang/Exception"]).filter goodWord)
def wsL_tell_r1 : List Cond := [Cond.classLink RL 28 "java/lang/IndexOutOfBoundsException", Cond.classLink RL 15 "java/lang/IllegalArgumentException", Cond.methodLink RL 66 yX2_tell, Cond.instanceMethod yX2_tell, Cond.selects RX2 yX2_tell yX2_tell, Cond.initialized RX2, Cond.code yX2_tell cX2_tell 7 (some .int), Cond.classLink RX2 80 "java/lang/IndexOutOfBoundsException", Cond.initialized "java/lang/IndexOutOfBoundsException", Cond.classLink RX2 54 "java/lang/IllegalArgumentException", Cond.initialized "java/lang/IllegalArgumentException", Cond.fieldLink RX2 33 "CapacityRound" "outputs" "[I", Cond.methodLink RX2 76 yX2_isParty, Cond.static yX2_isParty, Cond.code yX2_isParty cX2_isParty 1 (some .boolean), Cond.methodLink RX2 50 yX2_isWithin, Cond.static yX2_isWithin, Cond.code yX2_isWithin cX2_isWithin 3 (some .boolean), Cond.methodLink RX2 108 yX2_isYear, Cond.static yX2_isYear, Cond.code yX2_isYear cX2_isYear 1 (some .boolean), Cond.methodLink RX2 149 yX2_isHour, Cond.static yX2_isHour, Cond.code yX2_isHour cX2_isHour 1 (some .boolean)]
def wsL_tell_r2 : List Cond := [Cond.methodLink RX2 154 yX2_hourCell, Cond.static yX2_hourCell, Cond.code yX2_hourCell cX2_hourCell 3 (some .int), Cond.methodLink RX2 145 yX2_yearCell, Cond.static yX2_yearCell, Cond.code yX2_yearCell cX2_yearCell 2 (some .int)]
def wsL_tell : List Cond := .codeWith yL_tell cL_tell 6 (some .int) [(0, 9, 10, 28), (0, 9, 15, 15)] :: ((wsL_tell_r1 ++ wsL_tell_r2) ++ wsX20 ++ (vx_atS RX2 84 "java/lang/IndexOutOfBoundsException" ["java/lang/RuntimeException", "java/lang/Exception"]).filter goodWord ++ (vx_atS RX2 58 "java/lang/IllegalArgumentException" ["java/lang/RuntimeException", "java/lang/Exception"]).filter goodWord)
def wsL_setPenalty : List Cond := .codeWith yL_setPenalty cL_setPenalty 4 (some .int) [(0, 6, 9, 15)] :: ([.classLink RL 15 "java/lang/IllegalArgumentException", .methodLink RL 70 yX2_setPenalty, .instanceMethod yX2_setPenalty, .selects RX2 yX2_setPenalty yX2_setPenalty, .initialized RX2, .code yX2_setPenalty cX2_setPenalty 3 none, .classLink RX2 54 "java/lang/IllegalArgumentException", .initialized "java/lang/IllegalArgumentException", .fieldLink RX2 44 "CapacityRound" "penaltyRate" "I", .fieldLink RX2 47 "CapacityRound" "penaltyCap" "I", .methodLink RX2 50 yX2_isWithin, .static yX2_isWithin, .code yX2_isWithin cX2_isWithin 3 (some .boolean)] ++ wsX20 ++ (vx_atS RX2 58 "java/lang/IllegalArgumentException" ["java/lang/RuntimeException", "java/lang/Exception"]).filter goodWord)
def wsL_lack_r1 : List Cond := [Cond.classLink RL 28 "java/lang/IndexOutOfBoundsException", Cond.constant RL 77 (-100001), Cond.methodLink RL 74 yX2_lack, Cond.instanceMethod yX2_lack, Cond.selects RX2 yX2_lack yX2_lack, Cond.initialized RX2, Cond.code yX2_lack cX2_lack 3 (some .int), Cond.classLink RX2 80 "java/lang/IndexOutOfBoundsException", Cond.initialized "java/lang/IndexOutOfBoundsException", Cond.methodLink RX2 76 yX2_isParty, Cond.static yX2_isParty, Cond.code yX2_isParty cX2_isParty 1 (some .boolean), Cond.methodLink RX2 50 yX2_isWithin, Cond.static yX2_isWithin, Cond.code yX2_isWithin cX2_isWithin 3 (some .boolean), Cond.methodLink RX2 108 yX2_isYear, Cond.static yX2_isYear, Cond.code yX2_isYear cX2_isYear 1 (some .boolean), Cond.methodLink RX2 171 yX2_lackOf, Cond.instanceMethod yX2_lackOf, Cond.selects RX2 yX2_lackOf yX2_lackOf, Cond.code yX2_lackOf cX2_lackOf 6 (some .int), Cond.fieldLink RX2 36 "CapacityRound" "stressed" "[Z", Cond.fieldLink RX2 30 "CapacityRound" "obligations" "[I"]
def wsL_lack_r2 : List Cond := [Cond.fieldLink RX2 33 "CapacityRound" "outputs" "[I", Cond.methodLink RX2 154 yX2_hourCell, Cond.static yX2_hourCell, Cond.code yX2_hourCell cX2_hourCell 3 (some .int), Cond.methodLink RX2 145 yX2_yearCell, Cond.static yX2_yearCell, Cond.code yX2_yearCell cX2_yearCell 2 (some .int)]
def wsL_lack : List Cond := .codeWith yL_lack cL_lack 4 (some .int) [(0, 6, 7, 28)] :: ((wsL_lack_r1 ++ wsL_lack_r2) ++ wsX20 ++ (vx_atS RX2 84 "java/lang/IndexOutOfBoundsException" ["java/lang/RuntimeException", "java/lang/Exception"]).filter goodWord)
def wsL_penalty_r1 : List Cond := [Cond.classLink RL 28 "java/lang/IndexOutOfBoundsException", Cond.methodLink RL 78 yX2_penalty, Cond.instanceMethod yX2_penalty, Cond.selects RX2 yX2_penalty yX2_penalty, Cond.initialized RX2, Cond.code yX2_penalty cX2_penalty 3 (some .int), Cond.classLink RX2 80 "java/lang/IndexOutOfBoundsException", Cond.initialized "java/lang/IndexOutOfBoundsException", Cond.methodLink RX2 76 yX2_isParty, Cond.static yX2_isParty, Cond.code yX2_isParty cX2_isParty 1 (some .boolean), Cond.methodLink RX2 50 yX2_isWithin, Cond.static yX2_isWithin, Cond.code yX2_isWithin cX2_isWithin 3 (some .boolean), Cond.methodLink RX2 108 yX2_isYear, Cond.static yX2_isYear, Cond.code yX2_isYear cX2_isYear 1 (some .boolean), Cond.methodLink RX2 174 yX2_penaltyOf, Cond.instanceMethod yX2_penaltyOf, Cond.selects RX2 yX2_penaltyOf yX2_penaltyOf, Cond.code yX2_penaltyOf cX2_penaltyOf 7 (some .int), Cond.fieldLink RX2 44 "CapacityRound" "penaltyRate" "I", Cond.fieldLink RX2 27 "CapacityRound" "incomes" "[I", Cond.fieldLink RX2 47 "CapacityRound" "penaltyCap" "I"]
def wsL_penalty_r2 : List Cond := [Cond.constantLong RX2 191 (100), Cond.methodLink RX2 193 Lib.MathLoose.min_long.x, Cond.static Lib.MathLoose.min_long.x, Cond.initialized "java/lang/Math", Cond.code Lib.MathLoose.min_long.x Lib.MathLoose.min_long.code 4 (some .long), Cond.methodLink RX2 196 Lib.MathLoose.max_long.x, Cond.static Lib.MathLoose.max_long.x, Cond.code Lib.MathLoose.max_long.x Lib.MathLoose.max_long.code 4 (some .long), Cond.methodLink RX2 171 yX2_lackOf, Cond.instanceMethod yX2_lackOf, Cond.selects RX2 yX2_lackOf yX2_lackOf, Cond.code yX2_lackOf cX2_lackOf 6 (some .int), Cond.fieldLink RX2 36 "CapacityRound" "stressed" "[Z", Cond.fieldLink RX2 30 "CapacityRound" "obligations" "[I", Cond.fieldLink RX2 33 "CapacityRound" "outputs" "[I", Cond.methodLink RX2 154 yX2_hourCell, Cond.static yX2_hourCell, Cond.code yX2_hourCell cX2_hourCell 3 (some .int), Cond.methodLink RX2 145 yX2_yearCell, Cond.static yX2_yearCell, Cond.code yX2_yearCell cX2_yearCell 2 (some .int)]
def wsL_penalty : List Cond := .codeWith yL_penalty cL_penalty 4 (some .int) [(0, 6, 7, 28)] :: ((wsL_penalty_r1 ++ wsL_penalty_r2) ++ wsX20 ++ (vx_atS RX2 84 "java/lang/IndexOutOfBoundsException" ["java/lang/RuntimeException", "java/lang/Exception"]).filter goodWord)
def wsL_isFalling_r1 : List Cond := [Cond.methodLink RL 81 yL_value, Cond.static yL_value, Cond.initialized RL, Cond.codeWith yL_value cL_value 3 (some .int) [(0, 5, 6, 15)], Cond.classLink RL 15 "java/lang/IllegalArgumentException", Cond.methodLink RL 17 yX2_value, Cond.instanceMethod yX2_value, Cond.selects RX2 yX2_value yX2_value, Cond.initialized RX2, Cond.code yX2_value cX2_value 2 (some .int), Cond.classLink RX2 54 "java/lang/IllegalArgumentException", Cond.initialized "java/lang/IllegalArgumentException", Cond.fieldLink RX2 10 "CapacityRound" "demand" "LCapacityRound$Demand;", Cond.methodLink RX2 50 yX2_isWithin, Cond.static yX2_isWithin, Cond.code yX2_isWithin cX2_isWithin 3 (some .boolean), Cond.methodLink RX2 67 yX0_valueOf, Cond.instanceMethod yX0_valueOf, Cond.selects RX0 yX0_valueOf yX0_valueOf, Cond.initialized RX0, Cond.code yX0_valueOf cX0_valueOf 2 (some .int), Cond.fieldLink RX0 17 "CapacityRound$Demand" "lowerAmount" "I", Cond.fieldLink RX0 24 "CapacityRound$Demand" "topPrice" "I", Cond.fieldLink RX0 21 "CapacityRound$Demand" "upperAmount" "I"]
def wsL_isFalling_r2 : List Cond := [Cond.methodLink RL 86 yL_worth, Cond.static yL_worth, Cond.codeWith yL_worth cL_worth 3 (some .int) [(0, 5, 6, 15)], Cond.methodLink RL 21 yX2_worth, Cond.instanceMethod yX2_worth, Cond.selects RX2 yX2_worth yX2_worth, Cond.code yX2_worth cX2_worth 2 (some .int), Cond.methodLink RX2 73 yX0_worthOf, Cond.instanceMethod yX0_worthOf, Cond.selects RX0 yX0_worthOf yX0_worthOf, Cond.code yX0_worthOf cX0_worthOf 2 (some .int), Cond.fieldLink RX0 9 "CapacityRound$Demand" "worths" "[I", Cond.methodLink RX0 31 Lib.Math.min.name, Cond.static Lib.Math.min.name, Cond.initialized "java/lang/Math", Cond.code Lib.Math.min.name Lib.Math.min.code 2 (some .int), Cond.methodLink RX0 37 Lib.Math.max.name, Cond.static Lib.Math.max.name, Cond.code Lib.Math.max.name Lib.Math.max.code 2 (some .int)]
def wsL_isFalling : List Cond := .code yL_isFalling cL_isFalling 2 (some .boolean) :: ((wsL_isFalling_r1 ++ wsL_isFalling_r2) ++ wsX20 ++ wsX00 ++ (vx_atS RX2 58 "java/lang/IllegalArgumentException" ["java/lang/RuntimeException", "java/lang/Exception"]).filter goodWord)
def wsL_clears_r1 : List Cond := [Cond.methodLink RL 88 yX2_offers, Cond.instanceMethod yX2_offers, Cond.selects RX2 yX2_offers yX2_offers, Cond.initialized RX2, Cond.code yX2_offers cX2_offers 1 (some .int), Cond.fieldLink RX2 19 "CapacityRound" "queue" "LCapacityRound$Queue;", Cond.fieldLink RX2 100 "CapacityRound$Queue" "count" "I", Cond.methodLink RL 92 yL_clearing, Cond.static yL_clearing, Cond.initialized RL, Cond.codeWith yL_clearing cL_clearing 3 (some .int) [(0, 5, 6, 28)], Cond.classLink RL 28 "java/lang/IndexOutOfBoundsException", Cond.methodLink RL 35 yX2_clearing, Cond.instanceMethod yX2_clearing, Cond.selects RX2 yX2_clearing yX2_clearing, Cond.code yX2_clearing cX2_clearing 2 (some .int), Cond.classLink RX2 80 "java/lang/IndexOutOfBoundsException", Cond.initialized "java/lang/IndexOutOfBoundsException", Cond.fieldLink RX2 10 "CapacityRound" "demand" "LCapacityRound$Demand;", Cond.fieldLink RX2 23 "CapacityRound" "boughtByYear" "[I", Cond.methodLink RX2 108 yX2_isYear, Cond.static yX2_isYear, Cond.code yX2_isYear cX2_isYear 1 (some .boolean), Cond.methodLink RX2 50 yX2_isWithin]
def wsL_clears_r2 : List Cond := [Cond.static yX2_isWithin, Cond.code yX2_isWithin cX2_isWithin 3 (some .boolean), Cond.methodLink RX2 113 yX1_bestFirst, Cond.instanceMethod yX1_bestFirst, Cond.selects RX1 yX1_bestFirst yX1_bestFirst, Cond.initialized RX1, Cond.code yX1_bestFirst cX1_bestFirst 10 (some .int), Cond.fieldLink RX1 31 "CapacityRound$Queue" "count" "I", Cond.fieldLink RX1 21 "CapacityRound$Queue" "order" "[I", Cond.fieldLink RX1 15 "CapacityRound$Queue" "amounts" "[I", Cond.fieldLink RX1 24 "CapacityRound$Queue" "exits" "[I", Cond.methodLink RX1 35 yX0_worthOf, Cond.instanceMethod yX0_worthOf, Cond.selects RX0 yX0_worthOf yX0_worthOf, Cond.initialized RX0, Cond.code yX0_worthOf cX0_worthOf 2 (some .int), Cond.fieldLink RX0 9 "CapacityRound$Demand" "worths" "[I", Cond.methodLink RX0 31 Lib.Math.min.name, Cond.static Lib.Math.min.name, Cond.initialized "java/lang/Math", Cond.code Lib.Math.min.name Lib.Math.min.code 2 (some .int), Cond.methodLink RX0 37 Lib.Math.max.name, Cond.static Lib.Math.max.name, Cond.code Lib.Math.max.name Lib.Math.max.code 2 (some .int)]
def wsL_clears_r3 : List Cond := [Cond.methodLink RX2 117 yX1_priceOfFirst, Cond.instanceMethod yX1_priceOfFirst, Cond.selects RX1 yX1_priceOfFirst yX1_priceOfFirst, Cond.code yX1_priceOfFirst cX1_priceOfFirst 2 (some .int), Cond.methodLink RL 94 yL_clock, Cond.static yL_clock, Cond.codeWith yL_clock cL_clock 3 (some .int) [(0, 5, 6, 28)], Cond.methodLink RL 38 yX2_clearingByClock, Cond.instanceMethod yX2_clearingByClock, Cond.selects RX2 yX2_clearingByClock yX2_clearingByClock, Cond.code yX2_clearingByClock cX2_clearingByClock 2 (some .int), Cond.methodLink RX2 120 yX1_priceByClock, Cond.instanceMethod yX1_priceByClock, Cond.selects RX1 yX1_priceByClock yX1_priceByClock, Cond.code yX1_priceByClock cX1_priceByClock 10 (some .int), Cond.fieldLink RX1 27 "CapacityRound$Queue" "in" "[Z", Cond.methodLink RX1 41 yX1_dearestIn, Cond.instanceMethod yX1_dearestIn, Cond.selects RX1 yX1_dearestIn yX1_dearestIn, Cond.code yX1_dearestIn cX1_dearestIn 3 (some .int), Cond.methodLink RX1 45 yX1_exitOf, Cond.instanceMethod yX1_exitOf, Cond.selects RX1 yX1_exitOf yX1_exitOf, Cond.code yX1_exitOf cX1_exitOf 2 (some .int)]
def wsL_clears_r4 : List Cond := [Cond.methodLink RL 97 yL_bought, Cond.static yL_bought, Cond.codeWith yL_bought cL_bought 3 (some .int) [(0, 5, 6, 28)], Cond.methodLink RL 48 yX2_bought, Cond.instanceMethod yX2_bought, Cond.selects RX2 yX2_bought yX2_bought, Cond.code yX2_bought cX2_bought 2 (some .int), Cond.methodLink RL 86 yL_worth, Cond.static yL_worth, Cond.codeWith yL_worth cL_worth 3 (some .int) [(0, 5, 6, 15)], Cond.classLink RL 15 "java/lang/IllegalArgumentException", Cond.methodLink RL 21 yX2_worth, Cond.instanceMethod yX2_worth, Cond.selects RX2 yX2_worth yX2_worth, Cond.code yX2_worth cX2_worth 2 (some .int), Cond.classLink RX2 54 "java/lang/IllegalArgumentException", Cond.initialized "java/lang/IllegalArgumentException", Cond.methodLink RX2 73 yX0_worthOf, Cond.methodLink RL 99 yL_would, Cond.static yL_would, Cond.codeWith yL_would cL_would 4 (some .int) [(0, 14, 15, 28)], Cond.methodLink RL 41 yX2_wouldTake, Cond.instanceMethod yX2_wouldTake, Cond.selects RX2 yX2_wouldTake yX2_wouldTake]
def wsL_clears_r5 : List Cond := [Cond.code yX2_wouldTake cX2_wouldTake 3 (some .boolean), Cond.methodLink RX2 123 yX1_has, Cond.instanceMethod yX1_has, Cond.selects RX1 yX1_has yX1_has, Cond.code yX1_has cX1_has 2 (some .boolean), Cond.methodLink RX2 128 yX1_isAmongFirst, Cond.instanceMethod yX1_isAmongFirst, Cond.selects RX1 yX1_isAmongFirst yX1_isAmongFirst, Cond.code yX1_isAmongFirst cX1_isAmongFirst 4 (some .boolean)]
def wsL_clears : List Cond := .code yL_clears cL_clears 17 (some .boolean) :: ((wsL_clears_r1 ++ (wsL_clears_r2 ++ (wsL_clears_r3 ++ (wsL_clears_r4 ++ wsL_clears_r5)))) ++ wsX20 ++ wsX10 ++ wsX00 ++ (vx_atS RX2 84 "java/lang/IndexOutOfBoundsException" ["java/lang/RuntimeException", "java/lang/Exception"]).filter goodWord ++ (vx_atS RX2 58 "java/lang/IllegalArgumentException" ["java/lang/RuntimeException", "java/lang/Exception"]).filter goodWord)
def wsL_law0_r1 : List Cond := [Cond.classLink RL 10 RX2, Cond.instantiable RX2 10, Cond.initialized RX2, Cond.arrayClass .int, Cond.constant RL 120 (36000), Cond.constantLong RL 154 (2), Cond.methodLink RL 103 yX2_init, Cond.instanceMethod yX2_init, Cond.code yX2_init cX2_init 1 none, Cond.methodLink RX2 1 objectInit, Cond.instanceMethod objectInit, Cond.code objectInit ⟨#[0xb1]⟩ 1 none, Cond.classLink RX2 7 RX0, Cond.instantiable RX0 4, Cond.initialized RX0, Cond.fieldLink RX2 10 "CapacityRound" "demand" "LCapacityRound$Demand;", Cond.classLink RX2 16 RX1, Cond.instantiable RX1 7, Cond.initialized RX1, Cond.fieldLink RX2 19 "CapacityRound" "queue" "LCapacityRound$Queue;", Cond.fieldLink RX2 23 "CapacityRound" "boughtByYear" "[I", Cond.fieldLink RX2 27 "CapacityRound" "incomes" "[I", Cond.fieldLink RX2 30 "CapacityRound" "obligations" "[I", Cond.fieldLink RX2 33 "CapacityRound" "outputs" "[I"]
def wsL_law0_r2 : List Cond := [Cond.arrayClass .boolean, Cond.fieldLink RX2 36 "CapacityRound" "stressed" "[Z", Cond.fieldLink RX2 40 "CapacityRound" "tradeCount" "I", Cond.fieldLink RX2 44 "CapacityRound" "penaltyRate" "I", Cond.fieldLink RX2 47 "CapacityRound" "penaltyCap" "I", Cond.methodLink RX2 9 yX0_init, Cond.instanceMethod yX0_init, Cond.code yX0_init cX0_init 1 none, Cond.methodLink RX0 1 objectInit, Cond.fieldLink RX0 9 "CapacityRound$Demand" "worths" "[I", Cond.methodLink RX0 13 yX0_change, Cond.instanceMethod yX0_change, Cond.selects RX0 yX0_change yX0_change, Cond.code yX0_change cX0_change 5 none, Cond.fieldLink RX0 17 "CapacityRound$Demand" "lowerAmount" "I", Cond.fieldLink RX0 21 "CapacityRound$Demand" "upperAmount" "I", Cond.fieldLink RX0 24 "CapacityRound$Demand" "topPrice" "I", Cond.methodLink RX0 27 yX0_valueOf, Cond.instanceMethod yX0_valueOf, Cond.selects RX0 yX0_valueOf yX0_valueOf, Cond.code yX0_valueOf cX0_valueOf 2 (some .int), Cond.methodLink RX2 18 yX1_init, Cond.instanceMethod yX1_init, Cond.code yX1_init cX1_init 1 none]
def wsL_law0_r3 : List Cond := [Cond.methodLink RX1 3 objectInit, Cond.fieldLink RX1 11 "CapacityRound$Queue" "parties" "[I", Cond.fieldLink RX1 15 "CapacityRound$Queue" "amounts" "[I", Cond.fieldLink RX1 18 "CapacityRound$Queue" "terms" "[I", Cond.fieldLink RX1 21 "CapacityRound$Queue" "order" "[I", Cond.fieldLink RX1 24 "CapacityRound$Queue" "exits" "[I", Cond.fieldLink RX1 27 "CapacityRound$Queue" "in" "[Z", Cond.fieldLink RX1 31 "CapacityRound$Queue" "count" "I", Cond.methodLink RL 88 yX2_offers, Cond.instanceMethod yX2_offers, Cond.selects RX2 yX2_offers yX2_offers, Cond.code yX2_offers cX2_offers 1 (some .int), Cond.fieldLink RX2 100 "CapacityRound$Queue" "count" "I", Cond.methodLink RL 104 yX2_trades, Cond.instanceMethod yX2_trades, Cond.selects RX2 yX2_trades yX2_trades, Cond.code yX2_trades cX2_trades 1 (some .int), Cond.methodLink RL 107 yX2_penalties, Cond.instanceMethod yX2_penalties, Cond.selects RX2 yX2_penalties yX2_penalties, Cond.code yX2_penalties cX2_penalties 5 (some .long), Cond.methodLink RX2 174 yX2_penaltyOf, Cond.instanceMethod yX2_penaltyOf, Cond.selects RX2 yX2_penaltyOf yX2_penaltyOf]
def wsL_law0_r4 : List Cond := [Cond.code yX2_penaltyOf cX2_penaltyOf 7 (some .int), Cond.constantLong RX2 191 (100), Cond.methodLink RX2 193 Lib.MathLoose.min_long.x, Cond.static Lib.MathLoose.min_long.x, Cond.initialized "java/lang/Math", Cond.code Lib.MathLoose.min_long.x Lib.MathLoose.min_long.code 4 (some .long), Cond.methodLink RX2 196 Lib.MathLoose.max_long.x, Cond.static Lib.MathLoose.max_long.x, Cond.code Lib.MathLoose.max_long.x Lib.MathLoose.max_long.code 4 (some .long), Cond.methodLink RX2 171 yX2_lackOf, Cond.instanceMethod yX2_lackOf, Cond.selects RX2 yX2_lackOf yX2_lackOf, Cond.code yX2_lackOf cX2_lackOf 6 (some .int), Cond.methodLink RX2 154 yX2_hourCell, Cond.static yX2_hourCell, Cond.code yX2_hourCell cX2_hourCell 3 (some .int), Cond.methodLink RX2 145 yX2_yearCell, Cond.static yX2_yearCell, Cond.code yX2_yearCell cX2_yearCell 2 (some .int), Cond.methodLink RL 111 yL_cell, Cond.static yL_cell, Cond.initialized RL, Cond.code yL_cell cL_cell 2 (some .int), Cond.constant RL 7 (70019)]
def wsL_law0_r5 : List Cond := [Cond.constant RL 8 (2147483647), Cond.methodLink RL 115 yL_offer, Cond.static yL_offer, Cond.codeWith yL_offer cL_offer 7 (some .int) [(0, 11, 12, 28), (0, 11, 17, 15), (0, 11, 22, 30)], Cond.classLink RL 28 "java/lang/IndexOutOfBoundsException", Cond.classLink RL 15 "java/lang/IllegalArgumentException", Cond.classLink RL 30 "java/lang/IllegalStateException", Cond.methodLink RL 24 yX2_offer, Cond.instanceMethod yX2_offer, Cond.selects RX2 yX2_offer yX2_offer, Cond.code yX2_offer cX2_offer 6 (some .int), Cond.classLink RX2 80 "java/lang/IndexOutOfBoundsException", Cond.initialized "java/lang/IndexOutOfBoundsException", Cond.classLink RX2 54 "java/lang/IllegalArgumentException", Cond.initialized "java/lang/IllegalArgumentException", Cond.classLink RX2 91 "java/lang/IllegalStateException", Cond.initialized "java/lang/IllegalStateException", Cond.methodLink RX2 76 yX2_isParty, Cond.static yX2_isParty, Cond.code yX2_isParty cX2_isParty 1 (some .boolean), Cond.methodLink RX2 50 yX2_isWithin, Cond.static yX2_isWithin, Cond.code yX2_isWithin cX2_isWithin 3 (some .boolean), Cond.methodLink RX2 87 yX1_isFull]
def wsL_law0_r6 : List Cond := [Cond.instanceMethod yX1_isFull, Cond.selects RX1 yX1_isFull yX1_isFull, Cond.code yX1_isFull cX1_isFull 1 (some .boolean), Cond.methodLink RX2 96 yX1_add, Cond.instanceMethod yX1_add, Cond.selects RX1 yX1_add yX1_add, Cond.code yX1_add cX1_add 7 (some .int), Cond.methodLink RL 118 yL_supply, Cond.static yL_supply, Cond.codeWith yL_supply cL_supply 3 (some .int) [(0, 5, 6, 15)], Cond.methodLink RL 32 yX2_supply, Cond.instanceMethod yX2_supply, Cond.selects RX2 yX2_supply yX2_supply, Cond.code yX2_supply cX2_supply 2 (some .int), Cond.methodLink RX2 105 yX1_amountUpTo, Cond.instanceMethod yX1_amountUpTo, Cond.selects RX1 yX1_amountUpTo yX1_amountUpTo, Cond.code yX1_amountUpTo cX1_amountUpTo 4 (some .int), Cond.methodLink RL 121 yL_demand, Cond.static yL_demand, Cond.codeWith yL_demand cL_demand 5 (some .int) [(0, 7, 10, 15)], Cond.methodLink RL 9 yX2_setDemand, Cond.instanceMethod yX2_setDemand, Cond.selects RX2 yX2_setDemand yX2_setDemand]
def wsL_law0_r7 : List Cond := [Cond.code yX2_setDemand cX2_setDemand 4 none, Cond.methodLink RX2 61 yX0_change, Cond.methodLink RL 125 yL_isFalling, Cond.static yL_isFalling, Cond.code yL_isFalling cL_isFalling 2 (some .boolean), Cond.methodLink RL 81 yL_value, Cond.static yL_value, Cond.codeWith yL_value cL_value 3 (some .int) [(0, 5, 6, 15)], Cond.methodLink RL 17 yX2_value, Cond.instanceMethod yX2_value, Cond.selects RX2 yX2_value yX2_value, Cond.code yX2_value cX2_value 2 (some .int), Cond.methodLink RX2 67 yX0_valueOf, Cond.methodLink RL 86 yL_worth, Cond.static yL_worth, Cond.codeWith yL_worth cL_worth 3 (some .int) [(0, 5, 6, 15)], Cond.methodLink RL 21 yX2_worth, Cond.instanceMethod yX2_worth, Cond.selects RX2 yX2_worth yX2_worth, Cond.code yX2_worth cX2_worth 2 (some .int), Cond.methodLink RX2 73 yX0_worthOf, Cond.instanceMethod yX0_worthOf, Cond.selects RX0 yX0_worthOf yX0_worthOf, Cond.code yX0_worthOf cX0_worthOf 2 (some .int)]
def wsL_law0_r8 : List Cond := [Cond.methodLink RX0 31 Lib.Math.min.name, Cond.static Lib.Math.min.name, Cond.code Lib.Math.min.name Lib.Math.min.code 2 (some .int), Cond.methodLink RX0 37 Lib.Math.max.name, Cond.static Lib.Math.max.name, Cond.code Lib.Math.max.name Lib.Math.max.code 2 (some .int), Cond.methodLink RL 129 yL_clears, Cond.static yL_clears, Cond.code yL_clears cL_clears 17 (some .boolean), Cond.methodLink RL 92 yL_clearing, Cond.static yL_clearing, Cond.codeWith yL_clearing cL_clearing 3 (some .int) [(0, 5, 6, 28)], Cond.methodLink RL 35 yX2_clearing, Cond.instanceMethod yX2_clearing, Cond.selects RX2 yX2_clearing yX2_clearing, Cond.code yX2_clearing cX2_clearing 2 (some .int), Cond.methodLink RX2 108 yX2_isYear, Cond.static yX2_isYear, Cond.code yX2_isYear cX2_isYear 1 (some .boolean), Cond.methodLink RX2 113 yX1_bestFirst, Cond.instanceMethod yX1_bestFirst, Cond.selects RX1 yX1_bestFirst yX1_bestFirst, Cond.code yX1_bestFirst cX1_bestFirst 10 (some .int), Cond.methodLink RX1 35 yX0_worthOf]
def wsL_law0_r9 : List Cond := [Cond.methodLink RX2 117 yX1_priceOfFirst, Cond.instanceMethod yX1_priceOfFirst, Cond.selects RX1 yX1_priceOfFirst yX1_priceOfFirst, Cond.code yX1_priceOfFirst cX1_priceOfFirst 2 (some .int), Cond.methodLink RL 94 yL_clock, Cond.static yL_clock, Cond.codeWith yL_clock cL_clock 3 (some .int) [(0, 5, 6, 28)], Cond.methodLink RL 38 yX2_clearingByClock, Cond.instanceMethod yX2_clearingByClock, Cond.selects RX2 yX2_clearingByClock yX2_clearingByClock, Cond.code yX2_clearingByClock cX2_clearingByClock 2 (some .int), Cond.methodLink RX2 120 yX1_priceByClock, Cond.instanceMethod yX1_priceByClock, Cond.selects RX1 yX1_priceByClock yX1_priceByClock, Cond.code yX1_priceByClock cX1_priceByClock 10 (some .int), Cond.methodLink RX1 41 yX1_dearestIn, Cond.instanceMethod yX1_dearestIn, Cond.selects RX1 yX1_dearestIn yX1_dearestIn, Cond.code yX1_dearestIn cX1_dearestIn 3 (some .int), Cond.methodLink RX1 45 yX1_exitOf, Cond.instanceMethod yX1_exitOf, Cond.selects RX1 yX1_exitOf yX1_exitOf, Cond.code yX1_exitOf cX1_exitOf 2 (some .int), Cond.methodLink RL 97 yL_bought]
def wsL_law0_r10 : List Cond := [Cond.static yL_bought, Cond.codeWith yL_bought cL_bought 3 (some .int) [(0, 5, 6, 28)], Cond.methodLink RL 48 yX2_bought, Cond.instanceMethod yX2_bought, Cond.selects RX2 yX2_bought yX2_bought, Cond.code yX2_bought cX2_bought 2 (some .int), Cond.methodLink RL 99 yL_would, Cond.static yL_would, Cond.codeWith yL_would cL_would 4 (some .int) [(0, 14, 15, 28)], Cond.methodLink RL 41 yX2_wouldTake, Cond.instanceMethod yX2_wouldTake, Cond.selects RX2 yX2_wouldTake yX2_wouldTake, Cond.code yX2_wouldTake cX2_wouldTake 3 (some .boolean), Cond.methodLink RX2 123 yX1_has, Cond.instanceMethod yX1_has, Cond.selects RX1 yX1_has yX1_has, Cond.code yX1_has cX1_has 2 (some .boolean), Cond.methodLink RX2 128 yX1_isAmongFirst, Cond.instanceMethod yX1_isAmongFirst, Cond.selects RX1 yX1_isAmongFirst yX1_isAmongFirst, Cond.code yX1_isAmongFirst cX1_isAmongFirst 4 (some .boolean), Cond.methodLink RL 133 yL_income, Cond.static yL_income, Cond.codeWith yL_income cL_income 4 (some .int) [(0, 6, 7, 28)]]
def wsL_law0_r11 : List Cond := [Cond.methodLink RL 51 yX2_income, Cond.instanceMethod yX2_income, Cond.selects RX2 yX2_income yX2_income, Cond.code yX2_income cX2_income 3 (some .int), Cond.methodLink RL 135 yL_run, Cond.static yL_run, Cond.codeWith yL_run cL_run 3 (some .int) [(0, 5, 6, 28), (0, 5, 10, 30)], Cond.methodLink RL 45 yX2_run, Cond.instanceMethod yX2_run, Cond.selects RX2 yX2_run yX2_run, Cond.code yX2_run cX2_run 5 (some .int), Cond.fieldLink RX2 134 "CapacityRound$Queue" "order" "[I", Cond.methodLink RX2 137 yX2_take, Cond.instanceMethod yX2_take, Cond.selects RX2 yX2_take yX2_take, Cond.code yX2_take cX2_take 9 none, Cond.fieldLink RX2 177 "CapacityRound$Queue" "parties" "[I", Cond.fieldLink RX2 180 "CapacityRound$Queue" "amounts" "[I", Cond.fieldLink RX2 183 "CapacityRound$Queue" "terms" "[I", Cond.methodLink RX2 186 Lib.Math.min.name, Cond.methodLink RX2 140 yX1_clear, Cond.instanceMethod yX1_clear, Cond.selects RX1 yX1_clear yX1_clear, Cond.code yX1_clear cX1_clear 1 none]
def wsL_law0_r12 : List Cond := [Cond.methodLink RL 137 yL_obliged, Cond.static yL_obliged, Cond.codeWith yL_obliged cL_obliged 5 (some .int) [(0, 7, 8, 28)], Cond.methodLink RL 55 yX2_obligation, Cond.instanceMethod yX2_obligation, Cond.selects RX2 yX2_obligation yX2_obligation, Cond.code yX2_obligation cX2_obligation 4 (some .int), Cond.methodLink RX2 149 yX2_isHour, Cond.static yX2_isHour, Cond.code yX2_isHour cX2_isHour 1 (some .boolean), Cond.methodLink RL 140 yL_trade, Cond.static yL_trade, Cond.codeWith yL_trade cL_trade 8 (some .int) [(0, 13, 14, 28), (0, 13, 19, 15), (0, 13, 24, 30)], Cond.methodLink RL 59 yX2_trade, Cond.instanceMethod yX2_trade, Cond.selects RX2 yX2_trade yX2_trade, Cond.code yX2_trade cX2_trade 9 (some .int), Cond.methodLink RX2 160 yX2_leastObligation, Cond.instanceMethod yX2_leastObligation, Cond.selects RX2 yX2_leastObligation yX2_leastObligation, Cond.code yX2_leastObligation cX2_leastObligation 7 (some .int), Cond.methodLink RL 143 yL_stress, Cond.static yL_stress, Cond.codeWith yL_stress cL_stress 4 (some .int) [(0, 14, 15, 28)]]
def wsL_law0_r13 : List Cond := [Cond.methodLink RL 63 yX2_stress, Cond.instanceMethod yX2_stress, Cond.selects RX2 yX2_stress yX2_stress, Cond.code yX2_stress cX2_stress 4 (some .boolean), Cond.methodLink RL 145 yL_lack, Cond.static yL_lack, Cond.codeWith yL_lack cL_lack 4 (some .int) [(0, 6, 7, 28)], Cond.constant RL 77 (-100001), Cond.methodLink RL 74 yX2_lack, Cond.instanceMethod yX2_lack, Cond.selects RX2 yX2_lack yX2_lack, Cond.code yX2_lack cX2_lack 3 (some .int), Cond.methodLink RL 147 yL_tell, Cond.static yL_tell, Cond.codeWith yL_tell cL_tell 6 (some .int) [(0, 9, 10, 28), (0, 9, 15, 15)], Cond.methodLink RL 66 yX2_tell, Cond.instanceMethod yX2_tell, Cond.selects RX2 yX2_tell yX2_tell, Cond.code yX2_tell cX2_tell 7 (some .int), Cond.methodLink RL 150 yL_setPenalty, Cond.static yL_setPenalty, Cond.codeWith yL_setPenalty cL_setPenalty 4 (some .int) [(0, 6, 9, 15)], Cond.methodLink RL 70 yX2_setPenalty, Cond.instanceMethod yX2_setPenalty]
def wsL_law0_r14 : List Cond := [Cond.selects RX2 yX2_setPenalty yX2_setPenalty, Cond.code yX2_setPenalty cX2_setPenalty 3 none, Cond.methodLink RL 152 yL_penalty, Cond.static yL_penalty, Cond.codeWith yL_penalty cL_penalty 4 (some .int) [(0, 6, 7, 28)], Cond.methodLink RL 78 yX2_penalty, Cond.instanceMethod yX2_penalty, Cond.selects RX2 yX2_penalty yX2_penalty, Cond.code yX2_penalty cX2_penalty 3 (some .int)]
def wsL_law0 : List Cond := (wsL_law0_r1 ++ (wsL_law0_r2 ++ (wsL_law0_r3 ++ (wsL_law0_r4 ++ (wsL_law0_r5 ++ (wsL_law0_r6 ++ (wsL_law0_r7 ++ (wsL_law0_r8 ++ (wsL_law0_r9 ++ (wsL_law0_r10 ++ (wsL_law0_r11 ++ (wsL_law0_r12 ++ (wsL_law0_r13 ++ wsL_law0_r14))))))))))))) ++ wsX20 ++ wsX00 ++ wsX10 ++ ([] : List Cond)
def wsL_law : List Cond := wsL_law0 ++ (vx_atS RX2 84 "java/lang/IndexOutOfBoundsException" ["java/lang/RuntimeException", "java/lang/Exception"]).filter goodWord ++ (vx_atS RX2 58 "java/lang/IllegalArgumentException" ["java/lang/RuntimeException", "java/lang/Exception"]).filter goodWord ++ (vx_atS RX2 95 "java/lang/IllegalStateException" ["java/lang/RuntimeException", "java/lang/Exception"]).filter goodWord
abbrev vwCl : List vw_C := [(RX0, TX0, 4), (RX1, TX1, 7), (RX2, TX2, 10)]
end
section
set_option maxRecDepth 20000 in
theorem ggX0_init_X0_change : GoodIn wsX0_init wsX0_change := goodIn_r _ [10, 11, 12, 13, 5, 14, 15, 16, 9, 17, 18, 19, 20, 21] (by decide +kernel) (by decide +kernel)
set_option maxRecDepth 20000 in
theorem gX0_init_X0_change : GoodIn wsX0_init (wsV RX0 13 RX0 yX0_change wsX0_change) := goodIn_app (goodIn_of _ (by decide +kernel)) ggX0_init_X0_change
theorem dX0_init_0 : decode cX0_init 0 = .ok (.aload_n 0, 1) := by decide +kernel
theorem dX0_init_1 : decode cX0_init 1 = .ok (.invokespecial 1, 3) := by decide +kernel
theorem dX0_init_4 : decode cX0_init 4 = .ok (.aload_n 0, 1) := by decide +kernel
theorem dX0_init_5 : decode cX0_init 5 = .ok (.sipush 1002, 3) := by decide +kernel
theorem dX0_init_8 : decode cX0_init 8 = .ok (.newarray .int, 2) := by decide +kernel
theorem dX0_init_10 : decode cX0_init 10 = .ok (.putfield 9, 3) := by decide +kernel
theorem dX0_init_13 : decode cX0_init 13 = .ok (.aload_n 0, 1) := by decide +kernel
theorem dX0_init_14 : decode cX0_init 14 = .ok (.bipush 100, 2) := by decide +kernel
theorem dX0_init_16 : decode cX0_init 16 = .ok (.sipush 200, 3) := by decide +kernel
theorem dX0_init_19 : decode cX0_init 19 = .ok (.bipush 50, 2) := by decide +kernel
theorem dX0_init_21 : decode cX0_init 21 = .ok (.invokevirtual 13, 3) := by decide +kernel
theorem dX0_init_24 : decode cX0_init 24 = .ok (.return_, 1) := by decide +kernel
set_option maxRecDepth 20000 in
theorem ggX0_change_X0_valueOf : GoodIn wsX0_change wsX0_valueOf := goodIn_r _ [9, 1, 3, 2, 10, 11, 12, 13] (by decide +kernel) (by decide +kernel)
set_option maxRecDepth 20000 in
theorem gX0_change_X0_valueOf : GoodIn wsX0_change (wsV RX0 27 RX0 yX0_valueOf wsX0_valueOf) := goodIn_app (goodIn_of _ (by decide +kernel)) ggX0_change_X0_valueOf
theorem dX0_change_0 : decode cX0_change 0 = .ok (.aload_n 0, 1) := by decide +kernel
theorem dX0_change_1 : decode cX0_change 1 = .ok (.iload_n 1, 1) := by decide +kernel
theorem dX0_change_2 : decode cX0_change 2 = .ok (.putfield 17, 3) := by decide +kernel
theorem dX0_change_5 : decode cX0_change 5 = .ok (.aload_n 0, 1) := by decide +kernel
theorem dX0_change_6 : decode cX0_change 6 = .ok (.iload_n 2, 1) := by decide +kernel
theorem dX0_change_7 : decode cX0_change 7 = .ok (.putfield 21, 3) := by decide +kernel
theorem dX0_change_10 : decode cX0_change 10 = .ok (.aload_n 0, 1) := by decide +kernel
theorem dX0_change_11 : decode cX0_change 11 = .ok (.iload_n 3, 1) := by decide +kernel
theorem dX0_change_12 : decode cX0_change 12 = .ok (.putfield 24, 3) := by decide +kernel
theorem dX0_change_15 : decode cX0_change 15 = .ok (.iconst 1, 1) := by decide +kernel
theorem dX0_change_16 : decode cX0_change 16 = .ok (.istore 4, 2) := by decide +kernel
theorem dX0_change_18 : decode cX0_change 18 = .ok (.iload 4, 2) := by decide +kernel
theorem dX0_change_20 : decode cX0_change 20 = .ok (.sipush 1001, 3) := by decide +kernel
theorem dX0_change_23 : decode cX0_change 23 = .ok (.if_icmp .gt 32, 3) := by decide +kernel
theorem dX0_change_26 : decode cX0_change 26 = .ok (.aload_n 0, 1) := by decide +kernel
theorem dX0_change_27 : decode cX0_change 27 = .ok (.getfield 9, 3) := by decide +kernel
theorem dX0_change_30 : decode cX0_change 30 = .ok (.iload 4, 2) := by decide +kernel
theorem dX0_change_32 : decode cX0_change 32 = .ok (.aload_n 0, 1) := by decide +kernel
theorem dX0_change_33 : decode cX0_change 33 = .ok (.getfield 9, 3) := by decide +kernel
theorem dX0_change_36 : decode cX0_change 36 = .ok (.iload 4, 2) := by decide +kernel
theorem dX0_change_38 : decode cX0_change 38 = .ok (.iconst 1, 1) := by decide +kernel
theorem dX0_change_39 : decode cX0_change 39 = .ok (.isub, 1) := by decide +kernel
theorem dX0_change_40 : decode cX0_change 40 = .ok (.iaload, 1) := by decide +kernel
theorem dX0_change_41 : decode cX0_change 41 = .ok (.aload_n 0, 1) := by decide +kernel
theorem dX0_change_42 : decode cX0_change 42 = .ok (.iload 4, 2) := by decide +kernel
theorem dX0_change_44 : decode cX0_change 44 = .ok (.invokevirtual 27, 3) := by decide +kernel
theorem dX0_change_47 : decode cX0_change 47 = .ok (.iadd, 1) := by decide +kernel
theorem dX0_change_48 : decode cX0_change 48 = .ok (.iastore, 1) := by decide +kernel
theorem dX0_change_49 : decode cX0_change 49 = .ok (.iinc 4 1, 3) := by decide +kernel
theorem dX0_change_52 : decode cX0_change 52 = .ok (.goto (-34), 3) := by decide +kernel
theorem dX0_change_55 : decode cX0_change 55 = .ok (.return_, 1) := by decide +kernel
theorem dX0_valueOf_0 : decode cX0_valueOf 0 = .ok (.iload_n 1, 1) := by decide +kernel
theorem dX0_valueOf_1 : decode cX0_valueOf 1 = .ok (.aload_n 0, 1) := by decide +kernel
theorem dX0_valueOf_2 : decode cX0_valueOf 2 = .ok (.getfield 17, 3) := by decide +kernel
theorem dX0_valueOf_5 : decode cX0_valueOf 5 = .ok (.if_icmp .gt 8, 3) := by decide +kernel
theorem dX0_valueOf_8 : decode cX0_valueOf 8 = .ok (.aload_n 0, 1) := by decide +kernel
theorem dX0_valueOf_9 : decode cX0_valueOf 9 = .ok (.getfield 24, 3) := by decide +kernel
theorem dX0_valueOf_12 : decode cX0_valueOf 12 = .ok (.ireturn, 1) := by decide +kernel
theorem dX0_valueOf_13 : decode cX0_valueOf 13 = .ok (.iload_n 1, 1) := by decide +kernel
theorem dX0_valueOf_14 : decode cX0_valueOf 14 = .ok (.aload_n 0, 1) := by decide +kernel
theorem dX0_valueOf_15 : decode cX0_valueOf 15 = .ok (.getfield 21, 3) := by decide +kernel
theorem dX0_valueOf_18 : decode cX0_valueOf 18 = .ok (.if_icmp .le 5, 3) := by decide +kernel
theorem dX0_valueOf_21 : decode cX0_valueOf 21 = .ok (.iconst 0, 1) := by decide +kernel
theorem dX0_valueOf_22 : decode cX0_valueOf 22 = .ok (.ireturn, 1) := by decide +kernel
theorem dX0_valueOf_23 : decode cX0_valueOf 23 = .ok (.aload_n 0, 1) := by decide +kernel
theorem dX0_valueOf_24 : decode cX0_valueOf 24 = .ok (.getfield 24, 3) := by decide +kernel
theorem dX0_valueOf_27 : decode cX0_valueOf 27 = .ok (.aload_n 0, 1) := by decide +kernel
theorem dX0_valueOf_28 : decode cX0_valueOf 28 = .ok (.getfield 21, 3) := by decide +kernel
theorem dX0_valueOf_31 : decode cX0_valueOf 31 = .ok (.iload_n 1, 1) := by decide +kernel
theorem dX0_valueOf_32 : decode cX0_valueOf 32 = .ok (.isub, 1) := by decide +kernel
theorem dX0_valueOf_33 : decode cX0_valueOf 33 = .ok (.imul, 1) := by decide +kernel
theorem dX0_valueOf_34 : decode cX0_valueOf 34 = .ok (.aload_n 0, 1) := by decide +kernel
theorem dX0_valueOf_35 : decode cX0_valueOf 35 = .ok (.getfield 21, 3) := by decide +kernel
theorem dX0_valueOf_38 : decode cX0_valueOf 38 = .ok (.aload_n 0, 1) := by decide +kernel
theorem dX0_valueOf_39 : decode cX0_valueOf 39 = .ok (.getfield 17, 3) := by decide +kernel
theorem dX0_valueOf_42 : decode cX0_valueOf 42 = .ok (.isub, 1) := by decide +kernel
theorem dX0_valueOf_43 : decode cX0_valueOf 43 = .ok (.idiv, 1) := by decide +kernel
theorem dX0_valueOf_44 : decode cX0_valueOf 44 = .ok (.ireturn, 1) := by decide +kernel
theorem dX0_worthOf_0 : decode cX0_worthOf 0 = .ok (.aload_n 0, 1) := by decide +kernel
theorem dX0_worthOf_1 : decode cX0_worthOf 1 = .ok (.getfield 9, 3) := by decide +kernel
theorem dX0_worthOf_4 : decode cX0_worthOf 4 = .ok (.iconst 0, 1) := by decide +kernel
theorem dX0_worthOf_5 : decode cX0_worthOf 5 = .ok (.iload_n 1, 1) := by decide +kernel
theorem dX0_worthOf_6 : decode cX0_worthOf 6 = .ok (.sipush 1001, 3) := by decide +kernel
theorem dX0_worthOf_9 : decode cX0_worthOf 9 = .ok (.invokestatic 31, 3) := by decide +kernel
theorem dX0_worthOf_12 : decode cX0_worthOf 12 = .ok (.invokestatic 37, 3) := by decide +kernel
theorem dX0_worthOf_15 : decode cX0_worthOf 15 = .ok (.iaload, 1) := by decide +kernel
theorem dX0_worthOf_16 : decode cX0_worthOf 16 = .ok (.ireturn, 1) := by decide +kernel
theorem dX1_init_0 : decode cX1_init 0 = .ok (.aload_n 0, 1) := by decide +kernel
theorem dX1_init_1 : decode cX1_init 1 = .ok (.invokespecial 3, 3) := by decide +kernel
theorem dX1_init_4 : decode cX1_init 4 = .ok (.aload_n 0, 1) := by decide +kernel
theorem dX1_init_5 : decode cX1_init 5 = .ok (.bipush 12, 2) := by decide +kernel
theorem dX1_init_7 : decode cX1_init 7 = .ok (.newarray .int, 2) := by decide +kernel
theorem dX1_init_9 : decode cX1_init 9 = .ok (.putfield 11, 3) := by decide +kernel
theorem dX1_init_12 : decode cX1_init 12 = .ok (.aload_n 0, 1) := by decide +kernel
theorem dX1_init_13 : decode cX1_init 13 = .ok (.bipush 12, 2) := by decide +kernel
theorem dX1_init_15 : decode cX1_init 15 = .ok (.newarray .int, 2) := by decide +kernel
theorem dX1_init_17 : decode cX1_init 17 = .ok (.putfield 15, 3) := by decide +kernel
theorem dX1_init_20 : decode cX1_init 20 = .ok (.aload_n 0, 1) := by decide +kernel
theorem dX1_init_21 : decode cX1_init 21 = .ok (.bipush 12, 2) := by decide +kernel
theorem dX1_init_23 : decode cX1_init 23 = .ok (.newarray .int, 2) := by decide +kernel
theorem dX1_init_25 : decode cX1_init 25 = .ok (.putfield 18, 3) := by decide +kernel
theorem dX1_init_28 : decode cX1_init 28 = .ok (.aload_n 0, 1) := by decide +kernel
theorem dX1_init_29 : decode cX1_init 29 = .ok (.bipush 12, 2) := by decide +kernel
theorem dX1_init_31 : decode cX1_init 31 = .ok (.newarray .int, 2) := by decide +kernel
theorem dX1_init_33 : decode cX1_init 33 = .ok (.putfield 21, 3) := by decide +kernel
theorem dX1_init_36 : decode cX1_init 36 = .ok (.aload_n 0, 1) := by decide +kernel
theorem dX1_init_37 : decode cX1_init 37 = .ok (.bipush 12, 2) := by decide +kernel
theorem dX1_init_39 : decode cX1_init 39 = .ok (.newarray .int, 2) := by decide +kernel
theorem dX1_init_41 : decode cX1_init 41 = .ok (.putfield 24, 3) := by decide +kernel
theorem dX1_init_44 : decode cX1_init 44 = .ok (.aload_n 0, 1) := by decide +kernel
theorem dX1_init_45 : decode cX1_init 45 = .ok (.bipush 12, 2) := by decide +kernel
theorem dX1_init_47 : decode cX1_init 47 = .ok (.newarray .boolean, 2) := by decide +kernel
theorem dX1_init_49 : decode cX1_init 49 = .ok (.putfield 27, 3) := by decide +kernel
theorem dX1_init_52 : decode cX1_init 52 = .ok (.aload_n 0, 1) := by decide +kernel
theorem dX1_init_53 : decode cX1_init 53 = .ok (.iconst 0, 1) := by decide +kernel
theorem dX1_init_54 : decode cX1_init 54 = .ok (.putfield 31, 3) := by decide +kernel
theorem dX1_init_57 : decode cX1_init 57 = .ok (.return_, 1) := by decide +kernel
theorem dX1_isFull_0 : decode cX1_isFull 0 = .ok (.aload_n 0, 1) := by decide +kernel
theorem dX1_isFull_1 : decode cX1_isFull 1 = .ok (.getfield 31, 3) := by decide +kernel
theorem dX1_isFull_4 : decode cX1_isFull 4 = .ok (.bipush 12, 2) := by decide +kernel
theorem dX1_isFull_6 : decode cX1_isFull 6 = .ok (.if_icmp .lt 7, 3) := by decide +kernel
theorem dX1_isFull_9 : decode cX1_isFull 9 = .ok (.iconst 1, 1) := by decide +kernel
theorem dX1_isFull_10 : decode cX1_isFull 10 = .ok (.goto 4, 3) := by decide +kernel
theorem dX1_isFull_13 : decode cX1_isFull 13 = .ok (.iconst 0, 1) := by decide +kernel
theorem dX1_isFull_14 : decode cX1_isFull 14 = .ok (.ireturn, 1) := by decide +kernel
theorem dX1_has_0 : decode cX1_has 0 = .ok (.iload_n 1, 1) := by decide +kernel
theorem dX1_has_1 : decode cX1_has 1 = .ok (.ifCond .lt 15, 3) := by decide +kernel
theorem dX1_has_4 : decode cX1_has 4 = .ok (.iload_n 1, 1) := by decide +kernel
theorem dX1_has_5 : decode cX1_has 5 = .ok (.aload_n 0, 1) := by decide +kernel
theorem dX1_has_6 : decode cX1_has 6 = .ok (.getfield 31, 3) := by decide +kernel
theorem dX1_has_9 : decode cX1_has 9 = .ok (.if_icmp .ge 7, 3) := by decide +kernel
theorem dX1_has_12 : decode cX1_has 12 = .ok (.iconst 1, 1) := by decide +kernel
theorem dX1_has_13 : decode cX1_has 13 = .ok (.goto 4, 3) := by decide +kernel
theorem dX1_has_16 : decode cX1_has 16 = .ok (.iconst 0, 1) := by decide +kernel
theorem dX1_has_17 : decode cX1_has 17 = .ok (.ireturn, 1) := by decide +kernel
theorem dX1_clear_0 : decode cX1_clear 0 = .ok (.aload_n 0, 1) := by decide +kernel
theorem dX1_clear_1 : decode cX1_clear 1 = .ok (.iconst 0, 1) := by decide +kernel
theorem dX1_clear_2 : decode cX1_clear 2 = .ok (.putfield 31, 3) := by decide +kernel
theorem dX1_clear_5 : decode cX1_clear 5 = .ok (.return_, 1) := by decide +kernel
theorem dX1_add_0 : decode cX1_add 0 = .ok (.aload_n 0, 1) := by decide +kernel
theorem dX1_add_1 : decode cX1_add 1 = .ok (.getfield 31, 3) := by decide +kernel
theorem dX1_add_4 : decode cX1_add 4 = .ok (.istore 5, 2) := by decide +kernel
theorem dX1_add_6 : decode cX1_add 6 = .ok (.iload 5, 2) := by decide +kernel
theorem dX1_add_8 : decode cX1_add 8 = .ok (.istore 6, 2) := by decide +kernel
theorem dX1_add_10 : decode cX1_add 10 = .ok (.iload 6, 2) := by decide +kernel
theorem dX1_add_12 : decode cX1_add 12 = .ok (.ifCond .le 43, 3) := by decide +kernel
theorem dX1_add_15 : decode cX1_add 15 = .ok (.aload_n 0, 1) := by decide +kernel
theorem dX1_add_16 : decode cX1_add 16 = .ok (.getfield 24, 3) := by decide +kernel
theorem dX1_add_19 : decode cX1_add 19 = .ok (.aload_n 0, 1) := by decide +kernel
theorem dX1_add_20 : decode cX1_add 20 = .ok (.getfield 21, 3) := by decide +kernel
theorem dX1_add_23 : decode cX1_add 23 = .ok (.iload 6, 2) := by decide +kernel
theorem dX1_add_25 : decode cX1_add 25 = .ok (.iconst 1, 1) := by decide +kernel
theorem dX1_add_26 : decode cX1_add 26 = .ok (.isub, 1) := by decide +kernel
theorem dX1_add_27 : decode cX1_add 27 = .ok (.iaload, 1) := by decide +kernel
theorem dX1_add_28 : decode cX1_add 28 = .ok (.iaload, 1) := by decide +kernel
theorem dX1_add_29 : decode cX1_add 29 = .ok (.iload_n 3, 1) := by decide +kernel
theorem dX1_add_30 : decode cX1_add 30 = .ok (.if_icmp .le 25, 3) := by decide +kernel
theorem dX1_add_33 : decode cX1_add 33 = .ok (.aload_n 0, 1) := by decide +kernel
theorem dX1_add_34 : decode cX1_add 34 = .ok (.getfield 21, 3) := by decide +kernel
theorem dX1_add_37 : decode cX1_add 37 = .ok (.iload 6, 2) := by decide +kernel
theorem dX1_add_39 : decode cX1_add 39 = .ok (.aload_n 0, 1) := by decide +kernel
theorem dX1_add_40 : decode cX1_add 40 = .ok (.getfield 21, 3) := by decide +kernel
theorem dX1_add_43 : decode cX1_add 43 = .ok (.iload 6, 2) := by decide +kernel
theorem dX1_add_45 : decode cX1_add 45 = .ok (.iconst 1, 1) := by decide +kernel
theorem dX1_add_46 : decode cX1_add 46 = .ok (.isub, 1) := by decide +kernel
theorem dX1_add_47 : decode cX1_add 47 = .ok (.iaload, 1) := by decide +kernel
theorem dX1_add_48 : decode cX1_add 48 = .ok (.iastore, 1) := by decide +kernel
theorem dX1_add_49 : decode cX1_add 49 = .ok (.iinc 6 (-1), 3) := by decide +kernel
theorem dX1_add_52 : decode cX1_add 52 = .ok (.goto (-42), 3) := by decide +kernel
theorem dX1_add_55 : decode cX1_add 55 = .ok (.aload_n 0, 1) := by decide +kernel
theorem dX1_add_56 : decode cX1_add 56 = .ok (.getfield 21, 3) := by decide +kernel
theorem dX1_add_59 : decode cX1_add 59 = .ok (.iload 6, 2) := by decide +kernel
theorem dX1_add_61 : decode cX1_add 61 = .ok (.iload 5, 2) := by decide +kernel
theorem dX1_add_63 : decode cX1_add 63 = .ok (.iastore, 1) := by decide +kernel
theorem dX1_add_64 : decode cX1_add 64 = .ok (.aload_n 0, 1) := by decide +kernel
theorem dX1_add_65 : decode cX1_add 65 = .ok (.getfield 11, 3) := by decide +kernel
theorem dX1_add_68 : decode cX1_add 68 = .ok (.iload 5, 2) := by decide +kernel
theorem dX1_add_70 : decode cX1_add 70 = .ok (.iload_n 1, 1) := by decide +kernel
theorem dX1_add_71 : decode cX1_add 71 = .ok (.iastore, 1) := by decide +kernel
theorem dX1_add_72 : decode cX1_add 72 = .ok (.aload_n 0, 1) := by decide +kernel
theorem dX1_add_73 : decode cX1_add 73 = .ok (.getfield 15, 3) := by decide +kernel
theorem dX1_add_76 : decode cX1_add 76 = .ok (.iload 5, 2) := by decide +kernel
theorem dX1_add_78 : decode cX1_add 78 = .ok (.iload_n 2, 1) := by decide +kernel
theorem dX1_add_79 : decode cX1_add 79 = .ok (.iastore, 1) := by decide +kernel
theorem dX1_add_80 : decode cX1_add 80 = .ok (.aload_n 0, 1) := by decide +kernel
theorem dX1_add_81 : decode cX1_add 81 = .ok (.getfield 24, 3) := by decide +kernel
theorem dX1_add_84 : decode cX1_add 84 = .ok (.iload 5, 2) := by decide +kernel
theorem dX1_add_86 : decode cX1_add 86 = .ok (.iload_n 3, 1) := by decide +kernel
theorem dX1_add_87 : decode cX1_add 87 = .ok (.iastore, 1) := by decide +kernel
theorem dX1_add_88 : decode cX1_add 88 = .ok (.aload_n 0, 1) := by decide +kernel
theorem dX1_add_89 : decode cX1_add 89 = .ok (.getfield 18, 3) := by decide +kernel
theorem dX1_add_92 : decode cX1_add 92 = .ok (.iload 5, 2) := by decide +kernel
theorem dX1_add_94 : decode cX1_add 94 = .ok (.iload 4, 2) := by decide +kernel
theorem dX1_add_96 : decode cX1_add 96 = .ok (.iastore, 1) := by decide +kernel
theorem dX1_add_97 : decode cX1_add 97 = .ok (.aload_n 0, 1) := by decide +kernel
theorem dX1_add_98 : decode cX1_add 98 = .ok (.dup, 1) := by decide +kernel
theorem dX1_add_99 : decode cX1_add 99 = .ok (.getfield 31, 3) := by decide +kernel
theorem dX1_add_102 : decode cX1_add 102 = .ok (.iconst 1, 1) := by decide +kernel
theorem dX1_add_103 : decode cX1_add 103 = .ok (.iadd, 1) := by decide +kernel
theorem dX1_add_104 : decode cX1_add 104 = .ok (.putfield 31, 3) := by decide +kernel
theorem dX1_add_107 : decode cX1_add 107 = .ok (.iload 5, 2) := by decide +kernel
theorem dX1_add_109 : decode cX1_add 109 = .ok (.ireturn, 1) := by decide +kernel
theorem dX1_amountUpTo_0 : decode cX1_amountUpTo 0 = .ok (.iconst 0, 1) := by decide +kernel
theorem dX1_amountUpTo_1 : decode cX1_amountUpTo 1 = .ok (.istore_n 2, 1) := by decide +kernel
theorem dX1_amountUpTo_2 : decode cX1_amountUpTo 2 = .ok (.iconst 0, 1) := by decide +kernel
theorem dX1_amountUpTo_3 : decode cX1_amountUpTo 3 = .ok (.istore_n 3, 1) := by decide +kernel
theorem dX1_amountUpTo_4 : decode cX1_amountUpTo 4 = .ok (.iload_n 3, 1) := by decide +kernel
theorem dX1_amountUpTo_5 : decode cX1_amountUpTo 5 = .ok (.aload_n 0, 1) := by decide +kernel
theorem dX1_amountUpTo_6 : decode cX1_amountUpTo 6 = .ok (.getfield 31, 3) := by decide +kernel
theorem dX1_amountUpTo_9 : decode cX1_amountUpTo 9 = .ok (.if_icmp .ge 28, 3) := by decide +kernel
theorem dX1_amountUpTo_12 : decode cX1_amountUpTo 12 = .ok (.aload_n 0, 1) := by decide +kernel
theorem dX1_amountUpTo_13 : decode cX1_amountUpTo 13 = .ok (.getfield 24, 3) := by decide +kernel
theorem dX1_amountUpTo_16 : decode cX1_amountUpTo 16 = .ok (.iload_n 3, 1) := by decide +kernel
theorem dX1_amountUpTo_17 : decode cX1_amountUpTo 17 = .ok (.iaload, 1) := by decide +kernel
theorem dX1_amountUpTo_18 : decode cX1_amountUpTo 18 = .ok (.iload_n 1, 1) := by decide +kernel
theorem dX1_amountUpTo_19 : decode cX1_amountUpTo 19 = .ok (.if_icmp .gt 12, 3) := by decide +kernel
theorem dX1_amountUpTo_22 : decode cX1_amountUpTo 22 = .ok (.iload_n 2, 1) := by decide +kernel
theorem dX1_amountUpTo_23 : decode cX1_amountUpTo 23 = .ok (.aload_n 0, 1) := by decide +kernel
theorem dX1_amountUpTo_24 : decode cX1_amountUpTo 24 = .ok (.getfield 15, 3) := by decide +kernel
theorem dX1_amountUpTo_27 : decode cX1_amountUpTo 27 = .ok (.iload_n 3, 1) := by decide +kernel
theorem dX1_amountUpTo_28 : decode cX1_amountUpTo 28 = .ok (.iaload, 1) := by decide +kernel
theorem dX1_amountUpTo_29 : decode cX1_amountUpTo 29 = .ok (.iadd, 1) := by decide +kernel
theorem dX1_amountUpTo_30 : decode cX1_amountUpTo 30 = .ok (.istore_n 2, 1) := by decide +kernel
theorem dX1_amountUpTo_31 : decode cX1_amountUpTo 31 = .ok (.iinc 3 1, 3) := by decide +kernel
theorem dX1_amountUpTo_34 : decode cX1_amountUpTo 34 = .ok (.goto (-30), 3) := by decide +kernel
theorem dX1_amountUpTo_37 : decode cX1_amountUpTo 37 = .ok (.iload_n 2, 1) := by decide +kernel
theorem dX1_amountUpTo_38 : decode cX1_amountUpTo 38 = .ok (.ireturn, 1) := by decide +kernel
set_option maxRecDepth 20000 in
theorem ggX1_bestFirst_X0_worthOf : GoodIn wsX1_bestFirst wsX0_worthOf := goodIn_r _ [9, 10, 11, 12, 13, 14, 15, 16, 17, 25, 26, 27, 28] (by decide +kernel) (by decide +kernel)
set_option maxRecDepth 20000 in
theorem gX1_bestFirst_X0_worthOf : GoodIn wsX1_bestFirst (wsV RX1 35 RX0 yX0_worthOf wsX0_worthOf) := goodIn_app (goodIn_of _ (by decide +kernel)) ggX1_bestFirst_X0_worthOf
theorem dX1_bestFirst_0 : decode cX1_bestFirst 0 = .ok (.iload_n 2, 1) := by decide +kernel
theorem dX1_bestFirst_1 : decode cX1_bestFirst 1 = .ok (.istore_n 3, 1) := by decide +kernel
theorem dX1_bestFirst_2 : decode cX1_bestFirst 2 = .ok (.iconst 0, 1) := by decide +kernel
theorem dX1_bestFirst_3 : decode cX1_bestFirst 3 = .ok (.istore 4, 2) := by decide +kernel
theorem dX1_bestFirst_5 : decode cX1_bestFirst 5 = .ok (.aload_n 1, 1) := by decide +kernel
theorem dX1_bestFirst_6 : decode cX1_bestFirst 6 = .ok (.iload_n 3, 1) := by decide +kernel
theorem dX1_bestFirst_7 : decode cX1_bestFirst 7 = .ok (.invokevirtual 35, 3) := by decide +kernel
theorem dX1_bestFirst_10 : decode cX1_bestFirst 10 = .ok (.istore 5, 2) := by decide +kernel
theorem dX1_bestFirst_12 : decode cX1_bestFirst 12 = .ok (.iconst 0, 1) := by decide +kernel
theorem dX1_bestFirst_13 : decode cX1_bestFirst 13 = .ok (.istore 6, 2) := by decide +kernel
theorem dX1_bestFirst_15 : decode cX1_bestFirst 15 = .ok (.iconst 0, 1) := by decide +kernel
theorem dX1_bestFirst_16 : decode cX1_bestFirst 16 = .ok (.istore 7, 2) := by decide +kernel
theorem dX1_bestFirst_18 : decode cX1_bestFirst 18 = .ok (.iload 7, 2) := by decide +kernel
theorem dX1_bestFirst_20 : decode cX1_bestFirst 20 = .ok (.aload_n 0, 1) := by decide +kernel
theorem dX1_bestFirst_21 : decode cX1_bestFirst 21 = .ok (.getfield 31, 3) := by decide +kernel
theorem dX1_bestFirst_24 : decode cX1_bestFirst 24 = .ok (.if_icmp .ge 75, 3) := by decide +kernel
theorem dX1_bestFirst_27 : decode cX1_bestFirst 27 = .ok (.aload_n 0, 1) := by decide +kernel
theorem dX1_bestFirst_28 : decode cX1_bestFirst 28 = .ok (.getfield 21, 3) := by decide +kernel
theorem dX1_bestFirst_31 : decode cX1_bestFirst 31 = .ok (.iload 7, 2) := by decide +kernel
theorem dX1_bestFirst_33 : decode cX1_bestFirst 33 = .ok (.iaload, 1) := by decide +kernel
theorem dX1_bestFirst_34 : decode cX1_bestFirst 34 = .ok (.istore 8, 2) := by decide +kernel
theorem dX1_bestFirst_36 : decode cX1_bestFirst 36 = .ok (.iload_n 3, 1) := by decide +kernel
theorem dX1_bestFirst_37 : decode cX1_bestFirst 37 = .ok (.aload_n 0, 1) := by decide +kernel
theorem dX1_bestFirst_38 : decode cX1_bestFirst 38 = .ok (.getfield 15, 3) := by decide +kernel
theorem dX1_bestFirst_41 : decode cX1_bestFirst 41 = .ok (.iload 8, 2) := by decide +kernel
theorem dX1_bestFirst_43 : decode cX1_bestFirst 43 = .ok (.iaload, 1) := by decide +kernel
theorem dX1_bestFirst_44 : decode cX1_bestFirst 44 = .ok (.iadd, 1) := by decide +kernel
theorem dX1_bestFirst_45 : decode cX1_bestFirst 45 = .ok (.istore_n 3, 1) := by decide +kernel
theorem dX1_bestFirst_46 : decode cX1_bestFirst 46 = .ok (.iload 4, 2) := by decide +kernel
theorem dX1_bestFirst_48 : decode cX1_bestFirst 48 = .ok (.aload_n 0, 1) := by decide +kernel
theorem dX1_bestFirst_49 : decode cX1_bestFirst 49 = .ok (.getfield 15, 3) := by decide +kernel
theorem dX1_bestFirst_52 : decode cX1_bestFirst 52 = .ok (.iload 8, 2) := by decide +kernel
theorem dX1_bestFirst_54 : decode cX1_bestFirst 54 = .ok (.iaload, 1) := by decide +kernel
theorem dX1_bestFirst_55 : decode cX1_bestFirst 55 = .ok (.aload_n 0, 1) := by decide +kernel
theorem dX1_bestFirst_56 : decode cX1_bestFirst 56 = .ok (.getfield 24, 3) := by decide +kernel
theorem dX1_bestFirst_59 : decode cX1_bestFirst 59 = .ok (.iload 8, 2) := by decide +kernel
theorem dX1_bestFirst_61 : decode cX1_bestFirst 61 = .ok (.iaload, 1) := by decide +kernel
theorem dX1_bestFirst_62 : decode cX1_bestFirst 62 = .ok (.imul, 1) := by decide +kernel
theorem dX1_bestFirst_63 : decode cX1_bestFirst 63 = .ok (.iadd, 1) := by decide +kernel
theorem dX1_bestFirst_64 : decode cX1_bestFirst 64 = .ok (.istore 4, 2) := by decide +kernel
theorem dX1_bestFirst_66 : decode cX1_bestFirst 66 = .ok (.aload_n 1, 1) := by decide +kernel
theorem dX1_bestFirst_67 : decode cX1_bestFirst 67 = .ok (.iload_n 3, 1) := by decide +kernel
theorem dX1_bestFirst_68 : decode cX1_bestFirst 68 = .ok (.invokevirtual 35, 3) := by decide +kernel
theorem dX1_bestFirst_71 : decode cX1_bestFirst 71 = .ok (.iload 4, 2) := by decide +kernel
theorem dX1_bestFirst_73 : decode cX1_bestFirst 73 = .ok (.isub, 1) := by decide +kernel
theorem dX1_bestFirst_74 : decode cX1_bestFirst 74 = .ok (.istore 9, 2) := by decide +kernel
theorem dX1_bestFirst_76 : decode cX1_bestFirst 76 = .ok (.iload 9, 2) := by decide +kernel
theorem dX1_bestFirst_78 : decode cX1_bestFirst 78 = .ok (.iload 5, 2) := by decide +kernel
theorem dX1_bestFirst_80 : decode cX1_bestFirst 80 = .ok (.if_icmp .le 13, 3) := by decide +kernel
theorem dX1_bestFirst_83 : decode cX1_bestFirst 83 = .ok (.iload 9, 2) := by decide +kernel
theorem dX1_bestFirst_85 : decode cX1_bestFirst 85 = .ok (.istore 5, 2) := by decide +kernel
theorem dX1_bestFirst_87 : decode cX1_bestFirst 87 = .ok (.iload 7, 2) := by decide +kernel
theorem dX1_bestFirst_89 : decode cX1_bestFirst 89 = .ok (.iconst 1, 1) := by decide +kernel
theorem dX1_bestFirst_90 : decode cX1_bestFirst 90 = .ok (.iadd, 1) := by decide +kernel
theorem dX1_bestFirst_91 : decode cX1_bestFirst 91 = .ok (.istore 6, 2) := by decide +kernel
theorem dX1_bestFirst_93 : decode cX1_bestFirst 93 = .ok (.iinc 7 1, 3) := by decide +kernel
theorem dX1_bestFirst_96 : decode cX1_bestFirst 96 = .ok (.goto (-78), 3) := by decide +kernel
theorem dX1_bestFirst_99 : decode cX1_bestFirst 99 = .ok (.iload 6, 2) := by decide +kernel
theorem dX1_bestFirst_101 : decode cX1_bestFirst 101 = .ok (.ireturn, 1) := by decide +kernel
theorem dX1_priceOfFirst_0 : decode cX1_priceOfFirst 0 = .ok (.iload_n 1, 1) := by decide +kernel
theorem dX1_priceOfFirst_1 : decode cX1_priceOfFirst 1 = .ok (.iconst 1, 1) := by decide +kernel
theorem dX1_priceOfFirst_2 : decode cX1_priceOfFirst 2 = .ok (.if_icmp .lt 11, 3) := by decide +kernel
theorem dX1_priceOfFirst_5 : decode cX1_priceOfFirst 5 = .ok (.iload_n 1, 1) := by decide +kernel
theorem dX1_priceOfFirst_6 : decode cX1_priceOfFirst 6 = .ok (.aload_n 0, 1) := by decide +kernel
theorem dX1_priceOfFirst_7 : decode cX1_priceOfFirst 7 = .ok (.getfield 31, 3) := by decide +kernel
theorem dX1_priceOfFirst_10 : decode cX1_priceOfFirst 10 = .ok (.if_icmp .le 7, 3) := by decide +kernel
theorem dX1_priceOfFirst_13 : decode cX1_priceOfFirst 13 = .ok (.iconst 0, 1) := by decide +kernel
theorem dX1_priceOfFirst_14 : decode cX1_priceOfFirst 14 = .ok (.goto 16, 3) := by decide +kernel
theorem dX1_priceOfFirst_17 : decode cX1_priceOfFirst 17 = .ok (.aload_n 0, 1) := by decide +kernel
theorem dX1_priceOfFirst_18 : decode cX1_priceOfFirst 18 = .ok (.getfield 24, 3) := by decide +kernel
theorem dX1_priceOfFirst_21 : decode cX1_priceOfFirst 21 = .ok (.aload_n 0, 1) := by decide +kernel
theorem dX1_priceOfFirst_22 : decode cX1_priceOfFirst 22 = .ok (.getfield 21, 3) := by decide +kernel
theorem dX1_priceOfFirst_25 : decode cX1_priceOfFirst 25 = .ok (.iload_n 1, 1) := by decide +kernel
theorem dX1_priceOfFirst_26 : decode cX1_priceOfFirst 26 = .ok (.iconst 1, 1) := by decide +kernel
theorem dX1_priceOfFirst_27 : decode cX1_priceOfFirst 27 = .ok (.isub, 1) := by decide +kernel
theorem dX1_priceOfFirst_28 : decode cX1_priceOfFirst 28 = .ok (.iaload, 1) := by decide +kernel
theorem dX1_priceOfFirst_29 : decode cX1_priceOfFirst 29 = .ok (.iaload, 1) := by decide +kernel
theorem dX1_priceOfFirst_30 : decode cX1_priceOfFirst 30 = .ok (.ireturn, 1) := by decide +kernel
theorem dX1_isAmongFirst_0 : decode cX1_isAmongFirst 0 = .ok (.iconst 0, 1) := by decide +kernel
theorem dX1_isAmongFirst_1 : decode cX1_isAmongFirst 1 = .ok (.istore_n 3, 1) := by decide +kernel
theorem dX1_isAmongFirst_2 : decode cX1_isAmongFirst 2 = .ok (.iload_n 3, 1) := by decide +kernel
theorem dX1_isAmongFirst_3 : decode cX1_isAmongFirst 3 = .ok (.iload_n 2, 1) := by decide +kernel
theorem dX1_isAmongFirst_4 : decode cX1_isAmongFirst 4 = .ok (.if_icmp .ge 29, 3) := by decide +kernel
theorem dX1_isAmongFirst_7 : decode cX1_isAmongFirst 7 = .ok (.iload_n 3, 1) := by decide +kernel
theorem dX1_isAmongFirst_8 : decode cX1_isAmongFirst 8 = .ok (.aload_n 0, 1) := by decide +kernel
theorem dX1_isAmongFirst_9 : decode cX1_isAmongFirst 9 = .ok (.getfield 31, 3) := by decide +kernel
theorem dX1_isAmongFirst_12 : decode cX1_isAmongFirst 12 = .ok (.if_icmp .ge 21, 3) := by decide +kernel
theorem dX1_isAmongFirst_15 : decode cX1_isAmongFirst 15 = .ok (.aload_n 0, 1) := by decide +kernel
theorem dX1_isAmongFirst_16 : decode cX1_isAmongFirst 16 = .ok (.getfield 21, 3) := by decide +kernel
theorem dX1_isAmongFirst_19 : decode cX1_isAmongFirst 19 = .ok (.iload_n 3, 1) := by decide +kernel
theorem dX1_isAmongFirst_20 : decode cX1_isAmongFirst 20 = .ok (.iaload, 1) := by decide +kernel
theorem dX1_isAmongFirst_21 : decode cX1_isAmongFirst 21 = .ok (.iload_n 1, 1) := by decide +kernel
theorem dX1_isAmongFirst_22 : decode cX1_isAmongFirst 22 = .ok (.if_icmp .ne 5, 3) := by decide +kernel
theorem dX1_isAmongFirst_25 : decode cX1_isAmongFirst 25 = .ok (.iconst 1, 1) := by decide +kernel
theorem dX1_isAmongFirst_26 : decode cX1_isAmongFirst 26 = .ok (.ireturn, 1) := by decide +kernel
theorem dX1_isAmongFirst_27 : decode cX1_isAmongFirst 27 = .ok (.iinc 3 1, 3) := by decide +kernel
theorem dX1_isAmongFirst_30 : decode cX1_isAmongFirst 30 = .ok (.goto (-28), 3) := by decide +kernel
theorem dX1_isAmongFirst_33 : decode cX1_isAmongFirst 33 = .ok (.iconst 0, 1) := by decide +kernel
theorem dX1_isAmongFirst_34 : decode cX1_isAmongFirst 34 = .ok (.ireturn, 1) := by decide +kernel
set_option maxRecDepth 20000 in
theorem ggX1_priceByClock_X0_worthOf : GoodIn wsX1_priceByClock wsX0_worthOf := goodIn_r _ [9, 10, 11, 12, 13, 14, 15, 16, 17, 34, 35, 36, 37] (by decide +kernel) (by decide +kernel)
set_option maxRecDepth 20000 in
theorem gX1_priceByClock_X0_worthOf : GoodIn wsX1_priceByClock (wsV RX1 35 RX0 yX0_worthOf wsX0_worthOf) := goodIn_app (goodIn_of _ (by decide +kernel)) ggX1_priceByClock_X0_worthOf
set_option maxRecDepth 20000 in
theorem ggX1_priceByClock_X1_dearestIn : GoodIn wsX1_priceByClock wsX1_dearestIn := goodIn_r _ [22, 1, 2, 4, 27, 28, 29, 30, 31, 32, 33] (by decide +kernel) (by decide +kernel)
set_option maxRecDepth 20000 in
theorem gX1_priceByClock_X1_dearestIn : GoodIn wsX1_priceByClock (wsV RX1 41 RX1 yX1_dearestIn wsX1_dearestIn) := goodIn_app (goodIn_of _ (by decide +kernel)) ggX1_priceByClock_X1_dearestIn
set_option maxRecDepth 20000 in
theorem ggX1_priceByClock_X1_exitOf : GoodIn wsX1_priceByClock wsX1_exitOf := goodIn_r _ [26, 4, 27, 28, 29, 30, 31, 32, 33] (by decide +kernel) (by decide +kernel)
set_option maxRecDepth 20000 in
theorem gX1_priceByClock_X1_exitOf : GoodIn wsX1_priceByClock (wsV RX1 45 RX1 yX1_exitOf wsX1_exitOf) := goodIn_app (goodIn_of _ (by decide +kernel)) ggX1_priceByClock_X1_exitOf
theorem dX1_priceByClock_0 : decode cX1_priceByClock 0 = .ok (.iload_n 2, 1) := by decide +kernel
theorem dX1_priceByClock_1 : decode cX1_priceByClock 1 = .ok (.istore_n 3, 1) := by decide +kernel
theorem dX1_priceByClock_2 : decode cX1_priceByClock 2 = .ok (.iconst 0, 1) := by decide +kernel
theorem dX1_priceByClock_3 : decode cX1_priceByClock 3 = .ok (.istore 4, 2) := by decide +kernel
theorem dX1_priceByClock_5 : decode cX1_priceByClock 5 = .ok (.iconst 0, 1) := by decide +kernel
theorem dX1_priceByClock_6 : decode cX1_priceByClock 6 = .ok (.istore 5, 2) := by decide +kernel
theorem dX1_priceByClock_8 : decode cX1_priceByClock 8 = .ok (.iload 5, 2) := by decide +kernel
theorem dX1_priceByClock_10 : decode cX1_priceByClock 10 = .ok (.aload_n 0, 1) := by decide +kernel
theorem dX1_priceByClock_11 : decode cX1_priceByClock 11 = .ok (.getfield 31, 3) := by decide +kernel
theorem dX1_priceByClock_14 : decode cX1_priceByClock 14 = .ok (.if_icmp .ge 47, 3) := by decide +kernel
theorem dX1_priceByClock_17 : decode cX1_priceByClock 17 = .ok (.aload_n 0, 1) := by decide +kernel
theorem dX1_priceByClock_18 : decode cX1_priceByClock 18 = .ok (.getfield 27, 3) := by decide +kernel
theorem dX1_priceByClock_21 : decode cX1_priceByClock 21 = .ok (.iload 5, 2) := by decide +kernel
theorem dX1_priceByClock_23 : decode cX1_priceByClock 23 = .ok (.iconst 1, 1) := by decide +kernel
theorem dX1_priceByClock_24 : decode cX1_priceByClock 24 = .ok (.bastore, 1) := by decide +kernel
theorem dX1_priceByClock_25 : decode cX1_priceByClock 25 = .ok (.iload_n 3, 1) := by decide +kernel
theorem dX1_priceByClock_26 : decode cX1_priceByClock 26 = .ok (.aload_n 0, 1) := by decide +kernel
theorem dX1_priceByClock_27 : decode cX1_priceByClock 27 = .ok (.getfield 15, 3) := by decide +kernel
theorem dX1_priceByClock_30 : decode cX1_priceByClock 30 = .ok (.iload 5, 2) := by decide +kernel
theorem dX1_priceByClock_32 : decode cX1_priceByClock 32 = .ok (.iaload, 1) := by decide +kernel
theorem dX1_priceByClock_33 : decode cX1_priceByClock 33 = .ok (.iadd, 1) := by decide +kernel
theorem dX1_priceByClock_34 : decode cX1_priceByClock 34 = .ok (.istore_n 3, 1) := by decide +kernel
theorem dX1_priceByClock_35 : decode cX1_priceByClock 35 = .ok (.iload 4, 2) := by decide +kernel
theorem dX1_priceByClock_37 : decode cX1_priceByClock 37 = .ok (.aload_n 0, 1) := by decide +kernel
theorem dX1_priceByClock_38 : decode cX1_priceByClock 38 = .ok (.getfield 15, 3) := by decide +kernel
theorem dX1_priceByClock_41 : decode cX1_priceByClock 41 = .ok (.iload 5, 2) := by decide +kernel
theorem dX1_priceByClock_43 : decode cX1_priceByClock 43 = .ok (.iaload, 1) := by decide +kernel
theorem dX1_priceByClock_44 : decode cX1_priceByClock 44 = .ok (.aload_n 0, 1) := by decide +kernel
theorem dX1_priceByClock_45 : decode cX1_priceByClock 45 = .ok (.getfield 24, 3) := by decide +kernel
theorem dX1_priceByClock_48 : decode cX1_priceByClock 48 = .ok (.iload 5, 2) := by decide +kernel
theorem dX1_priceByClock_50 : decode cX1_priceByClock 50 = .ok (.iaload, 1) := by decide +kernel
theorem dX1_priceByClock_51 : decode cX1_priceByClock 51 = .ok (.imul, 1) := by decide +kernel
theorem dX1_priceByClock_52 : decode cX1_priceByClock 52 = .ok (.iadd, 1) := by decide +kernel
theorem dX1_priceByClock_53 : decode cX1_priceByClock 53 = .ok (.istore 4, 2) := by decide +kernel
theorem dX1_priceByClock_55 : decode cX1_priceByClock 55 = .ok (.iinc 5 1, 3) := by decide +kernel
theorem dX1_priceByClock_58 : decode cX1_priceByClock 58 = .ok (.goto (-50), 3) := by decide +kernel
theorem dX1_priceByClock_61 : decode cX1_priceByClock 61 = .ok (.aload_n 1, 1) := by decide +kernel
theorem dX1_priceByClock_62 : decode cX1_priceByClock 62 = .ok (.iload_n 3, 1) := by decide +kernel
theorem dX1_priceByClock_63 : decode cX1_priceByClock 63 = .ok (.invokevirtual 35, 3) := by decide +kernel
theorem dX1_priceByClock_66 : decode cX1_priceByClock 66 = .ok (.iload 4, 2) := by decide +kernel
theorem dX1_priceByClock_68 : decode cX1_priceByClock 68 = .ok (.isub, 1) := by decide +kernel
theorem dX1_priceByClock_69 : decode cX1_priceByClock 69 = .ok (.istore 5, 2) := by decide +kernel
theorem dX1_priceByClock_71 : decode cX1_priceByClock 71 = .ok (.aload_n 0, 1) := by decide +kernel
theorem dX1_priceByClock_72 : decode cX1_priceByClock 72 = .ok (.invokevirtual 41, 3) := by decide +kernel
theorem dX1_priceByClock_75 : decode cX1_priceByClock 75 = .ok (.istore 6, 2) := by decide +kernel
theorem dX1_priceByClock_77 : decode cX1_priceByClock 77 = .ok (.aload_n 0, 1) := by decide +kernel
theorem dX1_priceByClock_78 : decode cX1_priceByClock 78 = .ok (.iload 6, 2) := by decide +kernel
theorem dX1_priceByClock_80 : decode cX1_priceByClock 80 = .ok (.invokevirtual 45, 3) := by decide +kernel
theorem dX1_priceByClock_83 : decode cX1_priceByClock 83 = .ok (.istore 7, 2) := by decide +kernel
theorem dX1_priceByClock_85 : decode cX1_priceByClock 85 = .ok (.aload_n 0, 1) := by decide +kernel
theorem dX1_priceByClock_86 : decode cX1_priceByClock 86 = .ok (.getfield 31, 3) := by decide +kernel
theorem dX1_priceByClock_89 : decode cX1_priceByClock 89 = .ok (.istore 8, 2) := by decide +kernel
theorem dX1_priceByClock_91 : decode cX1_priceByClock 91 = .ok (.iload 8, 2) := by decide +kernel
theorem dX1_priceByClock_93 : decode cX1_priceByClock 93 = .ok (.ifCond .le 88, 3) := by decide +kernel
theorem dX1_priceByClock_96 : decode cX1_priceByClock 96 = .ok (.iload 6, 2) := by decide +kernel
theorem dX1_priceByClock_98 : decode cX1_priceByClock 98 = .ok (.iconst (-1), 1) := by decide +kernel
theorem dX1_priceByClock_99 : decode cX1_priceByClock 99 = .ok (.if_icmp .eq 82, 3) := by decide +kernel
theorem dX1_priceByClock_102 : decode cX1_priceByClock 102 = .ok (.aload_n 0, 1) := by decide +kernel
theorem dX1_priceByClock_103 : decode cX1_priceByClock 103 = .ok (.getfield 27, 3) := by decide +kernel
theorem dX1_priceByClock_106 : decode cX1_priceByClock 106 = .ok (.iload 6, 2) := by decide +kernel
theorem dX1_priceByClock_108 : decode cX1_priceByClock 108 = .ok (.iconst 0, 1) := by decide +kernel
theorem dX1_priceByClock_109 : decode cX1_priceByClock 109 = .ok (.bastore, 1) := by decide +kernel
theorem dX1_priceByClock_110 : decode cX1_priceByClock 110 = .ok (.iload_n 3, 1) := by decide +kernel
theorem dX1_priceByClock_111 : decode cX1_priceByClock 111 = .ok (.aload_n 0, 1) := by decide +kernel
theorem dX1_priceByClock_112 : decode cX1_priceByClock 112 = .ok (.getfield 15, 3) := by decide +kernel
theorem dX1_priceByClock_115 : decode cX1_priceByClock 115 = .ok (.iload 6, 2) := by decide +kernel
theorem dX1_priceByClock_117 : decode cX1_priceByClock 117 = .ok (.iaload, 1) := by decide +kernel
theorem dX1_priceByClock_118 : decode cX1_priceByClock 118 = .ok (.isub, 1) := by decide +kernel
theorem dX1_priceByClock_119 : decode cX1_priceByClock 119 = .ok (.istore_n 3, 1) := by decide +kernel
theorem dX1_priceByClock_120 : decode cX1_priceByClock 120 = .ok (.iload 4, 2) := by decide +kernel
theorem dX1_priceByClock_122 : decode cX1_priceByClock 122 = .ok (.aload_n 0, 1) := by decide +kernel
theorem dX1_priceByClock_123 : decode cX1_priceByClock 123 = .ok (.getfield 15, 3) := by decide +kernel
theorem dX1_priceByClock_126 : decode cX1_priceByClock 126 = .ok (.iload 6, 2) := by decide +kernel
theorem dX1_priceByClock_128 : decode cX1_priceByClock 128 = .ok (.iaload, 1) := by decide +kernel
theorem dX1_priceByClock_129 : decode cX1_priceByClock 129 = .ok (.aload_n 0, 1) := by decide +kernel
theorem dX1_priceByClock_130 : decode cX1_priceByClock 130 = .ok (.getfield 24, 3) := by decide +kernel
theorem dX1_priceByClock_133 : decode cX1_priceByClock 133 = .ok (.iload 6, 2) := by decide +kernel
theorem dX1_priceByClock_135 : decode cX1_priceByClock 135 = .ok (.iaload, 1) := by decide +kernel
theorem dX1_priceByClock_136 : decode cX1_priceByClock 136 = .ok (.imul, 1) := by decide +kernel
theorem dX1_priceByClock_137 : decode cX1_priceByClock 137 = .ok (.isub, 1) := by decide +kernel
theorem dX1_priceByClock_138 : decode cX1_priceByClock 138 = .ok (.istore 4, 2) := by decide +kernel
theorem dX1_priceByClock_140 : decode cX1_priceByClock 140 = .ok (.aload_n 0, 1) := by decide +kernel
theorem dX1_priceByClock_141 : decode cX1_priceByClock 141 = .ok (.invokevirtual 41, 3) := by decide +kernel
theorem dX1_priceByClock_144 : decode cX1_priceByClock 144 = .ok (.istore 6, 2) := by decide +kernel
theorem dX1_priceByClock_146 : decode cX1_priceByClock 146 = .ok (.aload_n 1, 1) := by decide +kernel
theorem dX1_priceByClock_147 : decode cX1_priceByClock 147 = .ok (.iload_n 3, 1) := by decide +kernel
theorem dX1_priceByClock_148 : decode cX1_priceByClock 148 = .ok (.invokevirtual 35, 3) := by decide +kernel
theorem dX1_priceByClock_151 : decode cX1_priceByClock 151 = .ok (.iload 4, 2) := by decide +kernel
theorem dX1_priceByClock_153 : decode cX1_priceByClock 153 = .ok (.isub, 1) := by decide +kernel
theorem dX1_priceByClock_154 : decode cX1_priceByClock 154 = .ok (.istore 9, 2) := by decide +kernel
theorem dX1_priceByClock_156 : decode cX1_priceByClock 156 = .ok (.iload 9, 2) := by decide +kernel
theorem dX1_priceByClock_158 : decode cX1_priceByClock 158 = .ok (.iload 5, 2) := by decide +kernel
theorem dX1_priceByClock_160 : decode cX1_priceByClock 160 = .ok (.if_icmp .lt 15, 3) := by decide +kernel
theorem dX1_priceByClock_163 : decode cX1_priceByClock 163 = .ok (.iload 9, 2) := by decide +kernel
theorem dX1_priceByClock_165 : decode cX1_priceByClock 165 = .ok (.istore 5, 2) := by decide +kernel
theorem dX1_priceByClock_167 : decode cX1_priceByClock 167 = .ok (.aload_n 0, 1) := by decide +kernel
theorem dX1_priceByClock_168 : decode cX1_priceByClock 168 = .ok (.iload 6, 2) := by decide +kernel
theorem dX1_priceByClock_170 : decode cX1_priceByClock 170 = .ok (.invokevirtual 45, 3) := by decide +kernel
theorem dX1_priceByClock_173 : decode cX1_priceByClock 173 = .ok (.istore 7, 2) := by decide +kernel
theorem dX1_priceByClock_175 : decode cX1_priceByClock 175 = .ok (.iinc 8 (-1), 3) := by decide +kernel
theorem dX1_priceByClock_178 : decode cX1_priceByClock 178 = .ok (.goto (-87), 3) := by decide +kernel
theorem dX1_priceByClock_181 : decode cX1_priceByClock 181 = .ok (.iload 7, 2) := by decide +kernel
theorem dX1_priceByClock_183 : decode cX1_priceByClock 183 = .ok (.ireturn, 1) := by decide +kernel
theorem dX1_dearestIn_0 : decode cX1_dearestIn 0 = .ok (.iconst (-1), 1) := by decide +kernel
theorem dX1_dearestIn_1 : decode cX1_dearestIn 1 = .ok (.istore_n 1, 1) := by decide +kernel
theorem dX1_dearestIn_2 : decode cX1_dearestIn 2 = .ok (.iconst 0, 1) := by decide +kernel
theorem dX1_dearestIn_3 : decode cX1_dearestIn 3 = .ok (.istore_n 2, 1) := by decide +kernel
theorem dX1_dearestIn_4 : decode cX1_dearestIn 4 = .ok (.iload_n 2, 1) := by decide +kernel
theorem dX1_dearestIn_5 : decode cX1_dearestIn 5 = .ok (.aload_n 0, 1) := by decide +kernel
theorem dX1_dearestIn_6 : decode cX1_dearestIn 6 = .ok (.getfield 31, 3) := by decide +kernel
theorem dX1_dearestIn_9 : decode cX1_dearestIn 9 = .ok (.if_icmp .ge 40, 3) := by decide +kernel
theorem dX1_dearestIn_12 : decode cX1_dearestIn 12 = .ok (.aload_n 0, 1) := by decide +kernel
theorem dX1_dearestIn_13 : decode cX1_dearestIn 13 = .ok (.getfield 27, 3) := by decide +kernel
theorem dX1_dearestIn_16 : decode cX1_dearestIn 16 = .ok (.iload_n 2, 1) := by decide +kernel
theorem dX1_dearestIn_17 : decode cX1_dearestIn 17 = .ok (.baload, 1) := by decide +kernel
theorem dX1_dearestIn_18 : decode cX1_dearestIn 18 = .ok (.ifCond .eq 25, 3) := by decide +kernel
theorem dX1_dearestIn_21 : decode cX1_dearestIn 21 = .ok (.iload_n 1, 1) := by decide +kernel
theorem dX1_dearestIn_22 : decode cX1_dearestIn 22 = .ok (.iconst (-1), 1) := by decide +kernel
theorem dX1_dearestIn_23 : decode cX1_dearestIn 23 = .ok (.if_icmp .eq 18, 3) := by decide +kernel
theorem dX1_dearestIn_26 : decode cX1_dearestIn 26 = .ok (.aload_n 0, 1) := by decide +kernel
theorem dX1_dearestIn_27 : decode cX1_dearestIn 27 = .ok (.getfield 24, 3) := by decide +kernel
theorem dX1_dearestIn_30 : decode cX1_dearestIn 30 = .ok (.iload_n 2, 1) := by decide +kernel
theorem dX1_dearestIn_31 : decode cX1_dearestIn 31 = .ok (.iaload, 1) := by decide +kernel
theorem dX1_dearestIn_32 : decode cX1_dearestIn 32 = .ok (.aload_n 0, 1) := by decide +kernel
theorem dX1_dearestIn_33 : decode cX1_dearestIn 33 = .ok (.getfield 24, 3) := by decide +kernel
theorem dX1_dearestIn_36 : decode cX1_dearestIn 36 = .ok (.iload_n 1, 1) := by decide +kernel
theorem dX1_dearestIn_37 : decode cX1_dearestIn 37 = .ok (.iaload, 1) := by decide +kernel
theorem dX1_dearestIn_38 : decode cX1_dearestIn 38 = .ok (.if_icmp .lt 5, 3) := by decide +kernel
theorem dX1_dearestIn_41 : decode cX1_dearestIn 41 = .ok (.iload_n 2, 1) := by decide +kernel
theorem dX1_dearestIn_42 : decode cX1_dearestIn 42 = .ok (.istore_n 1, 1) := by decide +kernel
theorem dX1_dearestIn_43 : decode cX1_dearestIn 43 = .ok (.iinc 2 1, 3) := by decide +kernel
theorem dX1_dearestIn_46 : decode cX1_dearestIn 46 = .ok (.goto (-42), 3) := by decide +kernel
theorem dX1_dearestIn_49 : decode cX1_dearestIn 49 = .ok (.iload_n 1, 1) := by decide +kernel
theorem dX1_dearestIn_50 : decode cX1_dearestIn 50 = .ok (.ireturn, 1) := by decide +kernel
theorem dX1_exitOf_0 : decode cX1_exitOf 0 = .ok (.iload_n 1, 1) := by decide +kernel
theorem dX1_exitOf_1 : decode cX1_exitOf 1 = .ok (.iconst (-1), 1) := by decide +kernel
theorem dX1_exitOf_2 : decode cX1_exitOf 2 = .ok (.if_icmp .ne 7, 3) := by decide +kernel
theorem dX1_exitOf_5 : decode cX1_exitOf 5 = .ok (.iconst 0, 1) := by decide +kernel
theorem dX1_exitOf_6 : decode cX1_exitOf 6 = .ok (.goto 9, 3) := by decide +kernel
theorem dX1_exitOf_9 : decode cX1_exitOf 9 = .ok (.aload_n 0, 1) := by decide +kernel
theorem dX1_exitOf_10 : decode cX1_exitOf 10 = .ok (.getfield 24, 3) := by decide +kernel
theorem dX1_exitOf_13 : decode cX1_exitOf 13 = .ok (.iload_n 1, 1) := by decide +kernel
theorem dX1_exitOf_14 : decode cX1_exitOf 14 = .ok (.iaload, 1) := by decide +kernel
theorem dX1_exitOf_15 : decode cX1_exitOf 15 = .ok (.ireturn, 1) := by decide +kernel
end
section
set_option maxRecDepth 20000 in
theorem ggX2_init_X0_init : GoodIn wsX2_init wsX0_init := goodIn_r _ [24, 25, 2, 3, 12, 26, 27, 28, 29, 6, 30, 31, 32, 33, 34, 35, 36, 37, 49, 50, 51, 52] (by decide +kernel) (by decide +kernel)
set_option maxRecDepth 20000 in
theorem gX2_init_X0_init : GoodIn wsX2_init (wsX0_init) := ggX2_init_X0_init
set_option maxRecDepth 20000 in
theorem ggX2_init_X1_init : GoodIn wsX2_init wsX1_init := goodIn_r _ [40, 41, 2, 3, 12, 42, 43, 44, 45, 46, 17, 47, 48, 63, 64, 65, 66, 67, 68, 69] (by decide +kernel) (by decide +kernel)
set_option maxRecDepth 20000 in
theorem gX2_init_X1_init : GoodIn wsX2_init (wsX1_init) := ggX2_init_X1_init
theorem dX2_init_0 : decode cX2_init 0 = .ok (.aload_n 0, 1) := by decide +kernel
theorem dX2_init_1 : decode cX2_init 1 = .ok (.invokespecial 1, 3) := by decide +kernel
theorem dX2_init_4 : decode cX2_init 4 = .ok (.aload_n 0, 1) := by decide +kernel
theorem dX2_init_5 : decode cX2_init 5 = .ok (.new 7, 3) := by decide +kernel
theorem dX2_init_8 : decode cX2_init 8 = .ok (.dup, 1) := by decide +kernel
theorem dX2_init_9 : decode cX2_init 9 = .ok (.invokespecial 9, 3) := by decide +kernel
theorem dX2_init_12 : decode cX2_init 12 = .ok (.putfield 10, 3) := by decide +kernel
theorem dX2_init_15 : decode cX2_init 15 = .ok (.aload_n 0, 1) := by decide +kernel
theorem dX2_init_16 : decode cX2_init 16 = .ok (.new 16, 3) := by decide +kernel
theorem dX2_init_19 : decode cX2_init 19 = .ok (.dup, 1) := by decide +kernel
theorem dX2_init_20 : decode cX2_init 20 = .ok (.invokespecial 18, 3) := by decide +kernel
theorem dX2_init_23 : decode cX2_init 23 = .ok (.putfield 19, 3) := by decide +kernel
theorem dX2_init_26 : decode cX2_init 26 = .ok (.aload_n 0, 1) := by decide +kernel
theorem dX2_init_27 : decode cX2_init 27 = .ok (.bipush 8, 2) := by decide +kernel
theorem dX2_init_29 : decode cX2_init 29 = .ok (.newarray .int, 2) := by decide +kernel
theorem dX2_init_31 : decode cX2_init 31 = .ok (.putfield 23, 3) := by decide +kernel
theorem dX2_init_34 : decode cX2_init 34 = .ok (.aload_n 0, 1) := by decide +kernel
theorem dX2_init_35 : decode cX2_init 35 = .ok (.bipush 40, 2) := by decide +kernel
theorem dX2_init_37 : decode cX2_init 37 = .ok (.newarray .int, 2) := by decide +kernel
theorem dX2_init_39 : decode cX2_init 39 = .ok (.putfield 27, 3) := by decide +kernel
theorem dX2_init_42 : decode cX2_init 42 = .ok (.aload_n 0, 1) := by decide +kernel
theorem dX2_init_43 : decode cX2_init 43 = .ok (.sipush 480, 3) := by decide +kernel
theorem dX2_init_46 : decode cX2_init 46 = .ok (.newarray .int, 2) := by decide +kernel
theorem dX2_init_48 : decode cX2_init 48 = .ok (.putfield 30, 3) := by decide +kernel
theorem dX2_init_51 : decode cX2_init 51 = .ok (.aload_n 0, 1) := by decide +kernel
theorem dX2_init_52 : decode cX2_init 52 = .ok (.sipush 480, 3) := by decide +kernel
theorem dX2_init_55 : decode cX2_init 55 = .ok (.newarray .int, 2) := by decide +kernel
theorem dX2_init_57 : decode cX2_init 57 = .ok (.putfield 33, 3) := by decide +kernel
theorem dX2_init_60 : decode cX2_init 60 = .ok (.aload_n 0, 1) := by decide +kernel
theorem dX2_init_61 : decode cX2_init 61 = .ok (.bipush 96, 2) := by decide +kernel
theorem dX2_init_63 : decode cX2_init 63 = .ok (.newarray .boolean, 2) := by decide +kernel
theorem dX2_init_65 : decode cX2_init 65 = .ok (.putfield 36, 3) := by decide +kernel
theorem dX2_init_68 : decode cX2_init 68 = .ok (.aload_n 0, 1) := by decide +kernel
theorem dX2_init_69 : decode cX2_init 69 = .ok (.iconst 0, 1) := by decide +kernel
theorem dX2_init_70 : decode cX2_init 70 = .ok (.putfield 40, 3) := by decide +kernel
theorem dX2_init_73 : decode cX2_init 73 = .ok (.aload_n 0, 1) := by decide +kernel
theorem dX2_init_74 : decode cX2_init 74 = .ok (.bipush 20, 2) := by decide +kernel
theorem dX2_init_76 : decode cX2_init 76 = .ok (.putfield 44, 3) := by decide +kernel
theorem dX2_init_79 : decode cX2_init 79 = .ok (.aload_n 0, 1) := by decide +kernel
theorem dX2_init_80 : decode cX2_init 80 = .ok (.bipush 50, 2) := by decide +kernel
theorem dX2_init_82 : decode cX2_init 82 = .ok (.putfield 47, 3) := by decide +kernel
theorem dX2_init_85 : decode cX2_init 85 = .ok (.return_, 1) := by decide +kernel
set_option maxRecDepth 20000 in
theorem ggX2_setDemand_X2_isWithin : GoodIn wsX2_setDemand wsX2_isWithin := goodIn_r _ [7] (by decide +kernel) (by decide +kernel)
set_option maxRecDepth 20000 in
theorem gX2_setDemand_X2_isWithin : GoodIn wsX2_setDemand (va_wsS RX2 50 yX2_isWithin wsX2_isWithin) := goodIn_app (goodIn_of _ (by decide +kernel)) ggX2_setDemand_X2_isWithin
set_option maxRecDepth 20000 in
theorem ggX2_setDemand_X0_change : GoodIn wsX2_setDemand wsX0_change := goodIn_r _ [12, 13, 14, 15, 16, 17, 18, 19, 11, 20, 31, 32, 33, 34] (by decide +kernel) (by decide +kernel)
set_option maxRecDepth 20000 in
theorem gX2_setDemand_X0_change : GoodIn wsX2_setDemand (wsV RX2 61 RX0 yX0_change wsX0_change) := goodIn_app (goodIn_of _ (by decide +kernel)) ggX2_setDemand_X0_change
theorem dX2_setDemand_0 : decode cX2_setDemand 0 = .ok (.iload_n 1, 1) := by decide +kernel
theorem dX2_setDemand_1 : decode cX2_setDemand 1 = .ok (.iconst 0, 1) := by decide +kernel
theorem dX2_setDemand_2 : decode cX2_setDemand 2 = .ok (.sipush 1000, 3) := by decide +kernel
theorem dX2_setDemand_5 : decode cX2_setDemand 5 = .ok (.invokestatic 50, 3) := by decide +kernel
theorem dX2_setDemand_8 : decode cX2_setDemand 8 = .ok (.ifCond .eq 27, 3) := by decide +kernel
theorem dX2_setDemand_11 : decode cX2_setDemand 11 = .ok (.iload_n 2, 1) := by decide +kernel
theorem dX2_setDemand_12 : decode cX2_setDemand 12 = .ok (.iload_n 1, 1) := by decide +kernel
theorem dX2_setDemand_13 : decode cX2_setDemand 13 = .ok (.iconst 1, 1) := by decide +kernel
theorem dX2_setDemand_14 : decode cX2_setDemand 14 = .ok (.iadd, 1) := by decide +kernel
theorem dX2_setDemand_15 : decode cX2_setDemand 15 = .ok (.sipush 1001, 3) := by decide +kernel
theorem dX2_setDemand_18 : decode cX2_setDemand 18 = .ok (.invokestatic 50, 3) := by decide +kernel
theorem dX2_setDemand_21 : decode cX2_setDemand 21 = .ok (.ifCond .eq 14, 3) := by decide +kernel
theorem dX2_setDemand_24 : decode cX2_setDemand 24 = .ok (.iload_n 3, 1) := by decide +kernel
theorem dX2_setDemand_25 : decode cX2_setDemand 25 = .ok (.iconst 1, 1) := by decide +kernel
theorem dX2_setDemand_26 : decode cX2_setDemand 26 = .ok (.sipush 1000, 3) := by decide +kernel
theorem dX2_setDemand_29 : decode cX2_setDemand 29 = .ok (.invokestatic 50, 3) := by decide +kernel
theorem dX2_setDemand_32 : decode cX2_setDemand 32 = .ok (.ifCond .ne 13, 3) := by decide +kernel
theorem dX2_setDemand_35 : decode cX2_setDemand 35 = .ok (.new 54, 3) := by decide +kernel
theorem dX2_setDemand_38 : decode cX2_setDemand 38 = .ok (.dup, 1) := by decide +kernel
theorem dX2_setDemand_39 : decode cX2_setDemand 39 = .ok (.ldc 56, 2) := by decide +kernel
theorem dX2_setDemand_41 : decode cX2_setDemand 41 = .ok (.invokespecial 58, 3) := by decide +kernel
theorem dX2_setDemand_44 : decode cX2_setDemand 44 = .ok (.athrow, 1) := by decide +kernel
theorem dX2_setDemand_45 : decode cX2_setDemand 45 = .ok (.aload_n 0, 1) := by decide +kernel
theorem dX2_setDemand_46 : decode cX2_setDemand 46 = .ok (.getfield 10, 3) := by decide +kernel
theorem dX2_setDemand_49 : decode cX2_setDemand 49 = .ok (.iload_n 1, 1) := by decide +kernel
theorem dX2_setDemand_50 : decode cX2_setDemand 50 = .ok (.iload_n 2, 1) := by decide +kernel
theorem dX2_setDemand_51 : decode cX2_setDemand 51 = .ok (.iload_n 3, 1) := by decide +kernel
theorem dX2_setDemand_52 : decode cX2_setDemand 52 = .ok (.invokevirtual 61, 3) := by decide +kernel
theorem dX2_setDemand_55 : decode cX2_setDemand 55 = .ok (.return_, 1) := by decide +kernel
set_option maxRecDepth 20000 in
theorem ggX2_value_X2_isWithin : GoodIn wsX2_value wsX2_isWithin := goodIn_r _ [7] (by decide +kernel) (by decide +kernel)
set_option maxRecDepth 20000 in
theorem gX2_value_X2_isWithin : GoodIn wsX2_value (va_wsS RX2 50 yX2_isWithin wsX2_isWithin) := goodIn_app (goodIn_of _ (by decide +kernel)) ggX2_value_X2_isWithin
set_option maxRecDepth 20000 in
theorem ggX2_value_X0_valueOf : GoodIn wsX2_value wsX0_valueOf := goodIn_r _ [12, 13, 14, 15, 26, 27, 28, 29] (by decide +kernel) (by decide +kernel)
set_option maxRecDepth 20000 in
theorem gX2_value_X0_valueOf : GoodIn wsX2_value (wsV RX2 67 RX0 yX0_valueOf wsX0_valueOf) := goodIn_app (goodIn_of _ (by decide +kernel)) ggX2_value_X0_valueOf
theorem dX2_value_0 : decode cX2_value 0 = .ok (.iload_n 1, 1) := by decide +kernel
theorem dX2_value_1 : decode cX2_value 1 = .ok (.iconst 1, 1) := by decide +kernel
theorem dX2_value_2 : decode cX2_value 2 = .ok (.sipush 10000, 3) := by decide +kernel
theorem dX2_value_5 : decode cX2_value 5 = .ok (.invokestatic 50, 3) := by decide +kernel
theorem dX2_value_8 : decode cX2_value 8 = .ok (.ifCond .ne 13, 3) := by decide +kernel
theorem dX2_value_11 : decode cX2_value 11 = .ok (.new 54, 3) := by decide +kernel
theorem dX2_value_14 : decode cX2_value 14 = .ok (.dup, 1) := by decide +kernel
theorem dX2_value_15 : decode cX2_value 15 = .ok (.ldc 65, 2) := by decide +kernel
theorem dX2_value_17 : decode cX2_value 17 = .ok (.invokespecial 58, 3) := by decide +kernel
theorem dX2_value_20 : decode cX2_value 20 = .ok (.athrow, 1) := by decide +kernel
theorem dX2_value_21 : decode cX2_value 21 = .ok (.aload_n 0, 1) := by decide +kernel
theorem dX2_value_22 : decode cX2_value 22 = .ok (.getfield 10, 3) := by decide +kernel
theorem dX2_value_25 : decode cX2_value 25 = .ok (.iload_n 1, 1) := by decide +kernel
theorem dX2_value_26 : decode cX2_value 26 = .ok (.invokevirtual 67, 3) := by decide +kernel
theorem dX2_value_29 : decode cX2_value 29 = .ok (.ireturn, 1) := by decide +kernel
set_option maxRecDepth 20000 in
theorem ggX2_worth_X2_isWithin : GoodIn wsX2_worth wsX2_isWithin := goodIn_r _ [7] (by decide +kernel) (by decide +kernel)
set_option maxRecDepth 20000 in
theorem gX2_worth_X2_isWithin : GoodIn wsX2_worth (va_wsS RX2 50 yX2_isWithin wsX2_isWithin) := goodIn_app (goodIn_of _ (by decide +kernel)) ggX2_worth_X2_isWithin
set_option maxRecDepth 20000 in
theorem ggX2_worth_X0_worthOf : GoodIn wsX2_worth wsX0_worthOf := goodIn_r _ [12, 13, 14, 15, 16, 17, 18, 19, 20, 31, 32, 33, 34] (by decide +kernel) (by decide +kernel)
set_option maxRecDepth 20000 in
theorem gX2_worth_X0_worthOf : GoodIn wsX2_worth (wsV RX2 73 RX0 yX0_worthOf wsX0_worthOf) := goodIn_app (goodIn_of _ (by decide +kernel)) ggX2_worth_X0_worthOf
theorem dX2_worth_0 : decode cX2_worth 0 = .ok (.iload_n 1, 1) := by decide +kernel
theorem dX2_worth_1 : decode cX2_worth 1 = .ok (.iconst 0, 1) := by decide +kernel
theorem dX2_worth_2 : decode cX2_worth 2 = .ok (.sipush 10000, 3) := by decide +kernel
theorem dX2_worth_5 : decode cX2_worth 5 = .ok (.invokestatic 50, 3) := by decide +kernel
theorem dX2_worth_8 : decode cX2_worth 8 = .ok (.ifCond .ne 13, 3) := by decide +kernel
theorem dX2_worth_11 : decode cX2_worth 11 = .ok (.new 54, 3) := by decide +kernel
theorem dX2_worth_14 : decode cX2_worth 14 = .ok (.dup, 1) := by decide +kernel
theorem dX2_worth_15 : decode cX2_worth 15 = .ok (.ldc 71, 2) := by decide +kernel
theorem dX2_worth_17 : decode cX2_worth 17 = .ok (.invokespecial 58, 3) := by decide +kernel
theorem dX2_worth_20 : decode cX2_worth 20 = .ok (.athrow, 1) := by decide +kernel
theorem dX2_worth_21 : decode cX2_worth 21 = .ok (.aload_n 0, 1) := by decide +kernel
theorem dX2_worth_22 : decode cX2_worth 22 = .ok (.getfield 10, 3) := by decide +kernel
theorem dX2_worth_25 : decode cX2_worth 25 = .ok (.iload_n 1, 1) := by decide +kernel
theorem dX2_worth_26 : decode cX2_worth 26 = .ok (.invokevirtual 73, 3) := by decide +kernel
theorem dX2_worth_29 : decode cX2_worth 29 = .ok (.ireturn, 1) := by decide +kernel
set_option maxRecDepth 20000 in
theorem ggX2_offer_X2_isParty : GoodIn wsX2_offer wsX2_isParty := goodIn_r _ [11, 12, 13, 10, 14] (by decide +kernel) (by decide +kernel)
set_option maxRecDepth 20000 in
theorem gX2_offer_X2_isParty : GoodIn wsX2_offer (va_wsS RX2 76 yX2_isParty wsX2_isParty) := goodIn_app (goodIn_of _ (by decide +kernel)) ggX2_offer_X2_isParty
set_option maxRecDepth 20000 in
theorem ggX2_offer_X2_isWithin : GoodIn wsX2_offer wsX2_isWithin := goodIn_r _ [14] (by decide +kernel) (by decide +kernel)
set_option maxRecDepth 20000 in
theorem gX2_offer_X2_isWithin : GoodIn wsX2_offer (va_wsS RX2 50 yX2_isWithin wsX2_isWithin) := goodIn_app (goodIn_of _ (by decide +kernel)) ggX2_offer_X2_isWithin
set_option maxRecDepth 20000 in
theorem ggX2_offer_X1_isFull : GoodIn wsX2_offer wsX1_isFull := goodIn_r _ [19, 20, 40, 41, 42, 43, 44, 45, 46] (by decide +kernel) (by decide +kernel)
set_option maxRecDepth 20000 in
theorem gX2_offer_X1_isFull : GoodIn wsX2_offer (wsV RX2 87 RX1 yX1_isFull wsX1_isFull) := goodIn_app (goodIn_of _ (by decide +kernel)) ggX2_offer_X1_isFull
set_option maxRecDepth 20000 in
theorem ggX2_offer_X1_add : GoodIn wsX2_offer wsX1_add := goodIn_r _ [24, 20, 25, 26, 27, 28, 29, 40, 41, 42, 43, 44, 45, 46] (by decide +kernel) (by decide +kernel)
set_option maxRecDepth 20000 in
theorem gX2_offer_X1_add : GoodIn wsX2_offer (wsV RX2 96 RX1 yX1_add wsX1_add) := goodIn_app (goodIn_of _ (by decide +kernel)) ggX2_offer_X1_add
theorem dX2_offer_0 : decode cX2_offer 0 = .ok (.iload_n 1, 1) := by decide +kernel
theorem dX2_offer_1 : decode cX2_offer 1 = .ok (.invokestatic 76, 3) := by decide +kernel
theorem dX2_offer_4 : decode cX2_offer 4 = .ok (.ifCond .ne 13, 3) := by decide +kernel
theorem dX2_offer_7 : decode cX2_offer 7 = .ok (.new 80, 3) := by decide +kernel
theorem dX2_offer_10 : decode cX2_offer 10 = .ok (.dup, 1) := by decide +kernel
theorem dX2_offer_11 : decode cX2_offer 11 = .ok (.ldc 82, 2) := by decide +kernel
theorem dX2_offer_13 : decode cX2_offer 13 = .ok (.invokespecial 84, 3) := by decide +kernel
theorem dX2_offer_16 : decode cX2_offer 16 = .ok (.athrow, 1) := by decide +kernel
theorem dX2_offer_17 : decode cX2_offer 17 = .ok (.iload_n 2, 1) := by decide +kernel
theorem dX2_offer_18 : decode cX2_offer 18 = .ok (.iconst 1, 1) := by decide +kernel
theorem dX2_offer_19 : decode cX2_offer 19 = .ok (.sipush 300, 3) := by decide +kernel
theorem dX2_offer_22 : decode cX2_offer 22 = .ok (.invokestatic 50, 3) := by decide +kernel
theorem dX2_offer_25 : decode cX2_offer 25 = .ok (.ifCond .eq 35, 3) := by decide +kernel
theorem dX2_offer_28 : decode cX2_offer 28 = .ok (.iload_n 3, 1) := by decide +kernel
theorem dX2_offer_29 : decode cX2_offer 29 = .ok (.iconst 0, 1) := by decide +kernel
theorem dX2_offer_30 : decode cX2_offer 30 = .ok (.bipush 100, 2) := by decide +kernel
theorem dX2_offer_32 : decode cX2_offer 32 = .ok (.invokestatic 50, 3) := by decide +kernel
theorem dX2_offer_35 : decode cX2_offer 35 = .ok (.ifCond .eq 25, 3) := by decide +kernel
theorem dX2_offer_38 : decode cX2_offer 38 = .ok (.iload 4, 2) := by decide +kernel
theorem dX2_offer_40 : decode cX2_offer 40 = .ok (.iconst 0, 1) := by decide +kernel
theorem dX2_offer_41 : decode cX2_offer 41 = .ok (.sipush 1000, 3) := by decide +kernel
theorem dX2_offer_44 : decode cX2_offer 44 = .ok (.invokestatic 50, 3) := by decide +kernel
theorem dX2_offer_47 : decode cX2_offer 47 = .ok (.ifCond .eq 13, 3) := by decide +kernel
theorem dX2_offer_50 : decode cX2_offer 50 = .ok (.iload 5, 2) := by decide +kernel
theorem dX2_offer_52 : decode cX2_offer 52 = .ok (.iconst 1, 1) := by decide +kernel
theorem dX2_offer_53 : decode cX2_offer 53 = .ok (.iconst 4, 1) := by decide +kernel
theorem dX2_offer_54 : decode cX2_offer 54 = .ok (.invokestatic 50, 3) := by decide +kernel
theorem dX2_offer_57 : decode cX2_offer 57 = .ok (.ifCond .ne 13, 3) := by decide +kernel
theorem dX2_offer_60 : decode cX2_offer 60 = .ok (.new 54, 3) := by decide +kernel
theorem dX2_offer_63 : decode cX2_offer 63 = .ok (.dup, 1) := by decide +kernel
theorem dX2_offer_64 : decode cX2_offer 64 = .ok (.ldc 85, 2) := by decide +kernel
theorem dX2_offer_66 : decode cX2_offer 66 = .ok (.invokespecial 58, 3) := by decide +kernel
theorem dX2_offer_69 : decode cX2_offer 69 = .ok (.athrow, 1) := by decide +kernel
theorem dX2_offer_70 : decode cX2_offer 70 = .ok (.aload_n 0, 1) := by decide +kernel
theorem dX2_offer_71 : decode cX2_offer 71 = .ok (.getfield 19, 3) := by decide +kernel
theorem dX2_offer_74 : decode cX2_offer 74 = .ok (.invokevirtual 87, 3) := by decide +kernel
theorem dX2_offer_77 : decode cX2_offer 77 = .ok (.ifCond .eq 13, 3) := by decide +kernel
theorem dX2_offer_80 : decode cX2_offer 80 = .ok (.new 91, 3) := by decide +kernel
theorem dX2_offer_83 : decode cX2_offer 83 = .ok (.dup, 1) := by decide +kernel
theorem dX2_offer_84 : decode cX2_offer 84 = .ok (.ldc 93, 2) := by decide +kernel
theorem dX2_offer_86 : decode cX2_offer 86 = .ok (.invokespecial 95, 3) := by decide +kernel
theorem dX2_offer_89 : decode cX2_offer 89 = .ok (.athrow, 1) := by decide +kernel
theorem dX2_offer_90 : decode cX2_offer 90 = .ok (.aload_n 0, 1) := by decide +kernel
theorem dX2_offer_91 : decode cX2_offer 91 = .ok (.getfield 19, 3) := by decide +kernel
theorem dX2_offer_94 : decode cX2_offer 94 = .ok (.iload_n 1, 1) := by decide +kernel
theorem dX2_offer_95 : decode cX2_offer 95 = .ok (.iload_n 2, 1) := by decide +kernel
theorem dX2_offer_96 : decode cX2_offer 96 = .ok (.iload_n 3, 1) := by decide +kernel
theorem dX2_offer_97 : decode cX2_offer 97 = .ok (.imul, 1) := by decide +kernel
theorem dX2_offer_98 : decode cX2_offer 98 = .ok (.bipush 100, 2) := by decide +kernel
theorem dX2_offer_100 : decode cX2_offer 100 = .ok (.idiv, 1) := by decide +kernel
theorem dX2_offer_101 : decode cX2_offer 101 = .ok (.iload 4, 2) := by decide +kernel
theorem dX2_offer_103 : decode cX2_offer 103 = .ok (.iload 5, 2) := by decide +kernel
theorem dX2_offer_105 : decode cX2_offer 105 = .ok (.invokevirtual 96, 3) := by decide +kernel
theorem dX2_offer_108 : decode cX2_offer 108 = .ok (.ireturn, 1) := by decide +kernel
theorem dX2_offers_0 : decode cX2_offers 0 = .ok (.aload_n 0, 1) := by decide +kernel
theorem dX2_offers_1 : decode cX2_offers 1 = .ok (.getfield 19, 3) := by decide +kernel
theorem dX2_offers_4 : decode cX2_offers 4 = .ok (.getfield 100, 3) := by decide +kernel
theorem dX2_offers_7 : decode cX2_offers 7 = .ok (.ireturn, 1) := by decide +kernel
set_option maxRecDepth 20000 in
theorem ggX2_supply_X2_isWithin : GoodIn wsX2_supply wsX2_isWithin := goodIn_r _ [7] (by decide +kernel) (by decide +kernel)
set_option maxRecDepth 20000 in
theorem gX2_supply_X2_isWithin : GoodIn wsX2_supply (va_wsS RX2 50 yX2_isWithin wsX2_isWithin) := goodIn_app (goodIn_of _ (by decide +kernel)) ggX2_supply_X2_isWithin
set_option maxRecDepth 20000 in
theorem ggX2_supply_X1_amountUpTo : GoodIn wsX2_supply wsX1_amountUpTo := goodIn_r _ [12, 13, 14, 15, 26, 27, 28, 29, 30, 31, 32] (by decide +kernel) (by decide +kernel)
set_option maxRecDepth 20000 in
theorem gX2_supply_X1_amountUpTo : GoodIn wsX2_supply (wsV RX2 105 RX1 yX1_amountUpTo wsX1_amountUpTo) := goodIn_app (goodIn_of _ (by decide +kernel)) ggX2_supply_X1_amountUpTo
theorem dX2_supply_0 : decode cX2_supply 0 = .ok (.iload_n 1, 1) := by decide +kernel
theorem dX2_supply_1 : decode cX2_supply 1 = .ok (.iconst 0, 1) := by decide +kernel
theorem dX2_supply_2 : decode cX2_supply 2 = .ok (.sipush 1000, 3) := by decide +kernel
theorem dX2_supply_5 : decode cX2_supply 5 = .ok (.invokestatic 50, 3) := by decide +kernel
theorem dX2_supply_8 : decode cX2_supply 8 = .ok (.ifCond .ne 13, 3) := by decide +kernel
theorem dX2_supply_11 : decode cX2_supply 11 = .ok (.new 54, 3) := by decide +kernel
theorem dX2_supply_14 : decode cX2_supply 14 = .ok (.dup, 1) := by decide +kernel
theorem dX2_supply_15 : decode cX2_supply 15 = .ok (.ldc 103, 2) := by decide +kernel
theorem dX2_supply_17 : decode cX2_supply 17 = .ok (.invokespecial 58, 3) := by decide +kernel
theorem dX2_supply_20 : decode cX2_supply 20 = .ok (.athrow, 1) := by decide +kernel
theorem dX2_supply_21 : decode cX2_supply 21 = .ok (.aload_n 0, 1) := by decide +kernel
theorem dX2_supply_22 : decode cX2_supply 22 = .ok (.getfield 19, 3) := by decide +kernel
theorem dX2_supply_25 : decode cX2_supply 25 = .ok (.iload_n 1, 1) := by decide +kernel
theorem dX2_supply_26 : decode cX2_supply 26 = .ok (.invokevirtual 105, 3) := by decide +kernel
theorem dX2_supply_29 : decode cX2_supply 29 = .ok (.ireturn, 1) := by decide +kernel
set_option maxRecDepth 20000 in
theorem ggX2_clearing_X2_isYear : GoodIn wsX2_clearing wsX2_isYear := goodIn_r _ [9, 10, 11, 8, 12] (by decide +kernel) (by decide +kernel)
set_option maxRecDepth 20000 in
theorem gX2_clearing_X2_isYear : GoodIn wsX2_clearing (va_wsS RX2 108 yX2_isYear wsX2_isYear) := goodIn_app (goodIn_of _ (by decide +kernel)) ggX2_clearing_X2_isYear
set_option maxRecDepth 20000 in
theorem ggX2_clearing_X1_bestFirst : GoodIn wsX2_clearing wsX1_bestFirst := goodIn_r _ [17, 18, 19, 20, 21, 22, 23, 24, 25, 26, 27, 28, 29, 30, 31, 32, 33, 34, 49, 50, 51, 52, 53, 54, 55, 56, 57, 58, 59] (by decide +kernel) (by decide +kernel)
set_option maxRecDepth 20000 in
theorem gX2_clearing_X1_bestFirst : GoodIn wsX2_clearing (wsV RX2 113 RX1 yX1_bestFirst wsX1_bestFirst) := goodIn_app (goodIn_of _ (by decide +kernel)) ggX2_clearing_X1_bestFirst
set_option maxRecDepth 20000 in
theorem ggX2_clearing_X1_priceOfFirst : GoodIn wsX2_clearing wsX1_priceOfFirst := goodIn_r _ [38, 18, 21, 19, 49, 50, 51, 52, 53, 54, 55] (by decide +kernel) (by decide +kernel)
set_option maxRecDepth 20000 in
theorem gX2_clearing_X1_priceOfFirst : GoodIn wsX2_clearing (wsV RX2 117 RX1 yX1_priceOfFirst wsX1_priceOfFirst) := goodIn_app (goodIn_of _ (by decide +kernel)) ggX2_clearing_X1_priceOfFirst
theorem dX2_clearing_0 : decode cX2_clearing 0 = .ok (.iload_n 1, 1) := by decide +kernel
theorem dX2_clearing_1 : decode cX2_clearing 1 = .ok (.invokestatic 108, 3) := by decide +kernel
theorem dX2_clearing_4 : decode cX2_clearing 4 = .ok (.ifCond .ne 13, 3) := by decide +kernel
theorem dX2_clearing_7 : decode cX2_clearing 7 = .ok (.new 80, 3) := by decide +kernel
theorem dX2_clearing_10 : decode cX2_clearing 10 = .ok (.dup, 1) := by decide +kernel
theorem dX2_clearing_11 : decode cX2_clearing 11 = .ok (.ldc 111, 2) := by decide +kernel
theorem dX2_clearing_13 : decode cX2_clearing 13 = .ok (.invokespecial 84, 3) := by decide +kernel
theorem dX2_clearing_16 : decode cX2_clearing 16 = .ok (.athrow, 1) := by decide +kernel
theorem dX2_clearing_17 : decode cX2_clearing 17 = .ok (.aload_n 0, 1) := by decide +kernel
theorem dX2_clearing_18 : decode cX2_clearing 18 = .ok (.getfield 19, 3) := by decide +kernel
theorem dX2_clearing_21 : decode cX2_clearing 21 = .ok (.aload_n 0, 1) := by decide +kernel
theorem dX2_clearing_22 : decode cX2_clearing 22 = .ok (.getfield 19, 3) := by decide +kernel
theorem dX2_clearing_25 : decode cX2_clearing 25 = .ok (.aload_n 0, 1) := by decide +kernel
theorem dX2_clearing_26 : decode cX2_clearing 26 = .ok (.getfield 10, 3) := by decide +kernel
theorem dX2_clearing_29 : decode cX2_clearing 29 = .ok (.aload_n 0, 1) := by decide +kernel
theorem dX2_clearing_30 : decode cX2_clearing 30 = .ok (.getfield 23, 3) := by decide +kernel
theorem dX2_clearing_33 : decode cX2_clearing 33 = .ok (.iload_n 1, 1) := by decide +kernel
theorem dX2_clearing_34 : decode cX2_clearing 34 = .ok (.iaload, 1) := by decide +kernel
theorem dX2_clearing_35 : decode cX2_clearing 35 = .ok (.invokevirtual 113, 3) := by decide +kernel
theorem dX2_clearing_38 : decode cX2_clearing 38 = .ok (.invokevirtual 117, 3) := by decide +kernel
theorem dX2_clearing_41 : decode cX2_clearing 41 = .ok (.ireturn, 1) := by decide +kernel
set_option maxRecDepth 20000 in
theorem ggX2_clearingByClock_X2_isYear : GoodIn wsX2_clearingByClock wsX2_isYear := goodIn_r _ [9, 10, 11, 8, 12] (by decide +kernel) (by decide +kernel)
set_option maxRecDepth 20000 in
theorem gX2_clearingByClock_X2_isYear : GoodIn wsX2_clearingByClock (va_wsS RX2 108 yX2_isYear wsX2_isYear) := goodIn_app (goodIn_of _ (by decide +kernel)) ggX2_clearingByClock_X2_isYear
set_option maxRecDepth 20000 in
theorem ggX2_clearingByClock_X1_priceByClock : GoodIn wsX2_clearingByClock wsX1_priceByClock := goodIn_r _ [17, 18, 19, 20, 21, 22, 23, 24, 25, 26, 27, 28, 29, 30, 31, 32, 33, 34, 35, 36, 37, 16, 38, 39, 40, 41, 42, 53, 54, 55, 56, 57, 58, 59, 60, 61, 62, 63] (by decide +kernel) (by decide +kernel)
set_option maxRecDepth 20000 in
theorem gX2_clearingByClock_X1_priceByClock : GoodIn wsX2_clearingByClock (wsV RX2 120 RX1 yX1_priceByClock wsX1_priceByClock) := goodIn_app (goodIn_of _ (by decide +kernel)) ggX2_clearingByClock_X1_priceByClock
theorem dX2_clearingByClock_0 : decode cX2_clearingByClock 0 = .ok (.iload_n 1, 1) := by decide +kernel
theorem dX2_clearingByClock_1 : decode cX2_clearingByClock 1 = .ok (.invokestatic 108, 3) := by decide +kernel
theorem dX2_clearingByClock_4 : decode cX2_clearingByClock 4 = .ok (.ifCond .ne 13, 3) := by decide +kernel
theorem dX2_clearingByClock_7 : decode cX2_clearingByClock 7 = .ok (.new 80, 3) := by decide +kernel
theorem dX2_clearingByClock_10 : decode cX2_clearingByClock 10 = .ok (.dup, 1) := by decide +kernel
theorem dX2_clearingByClock_11 : decode cX2_clearingByClock 11 = .ok (.ldc 111, 2) := by decide +kernel
theorem dX2_clearingByClock_13 : decode cX2_clearingByClock 13 = .ok (.invokespecial 84, 3) := by decide +kernel
theorem dX2_clearingByClock_16 : decode cX2_clearingByClock 16 = .ok (.athrow, 1) := by decide +kernel
theorem dX2_clearingByClock_17 : decode cX2_clearingByClock 17 = .ok (.aload_n 0, 1) := by decide +kernel
theorem dX2_clearingByClock_18 : decode cX2_clearingByClock 18 = .ok (.getfield 19, 3) := by decide +kernel
theorem dX2_clearingByClock_21 : decode cX2_clearingByClock 21 = .ok (.aload_n 0, 1) := by decide +kernel
theorem dX2_clearingByClock_22 : decode cX2_clearingByClock 22 = .ok (.getfield 10, 3) := by decide +kernel
theorem dX2_clearingByClock_25 : decode cX2_clearingByClock 25 = .ok (.aload_n 0, 1) := by decide +kernel
theorem dX2_clearingByClock_26 : decode cX2_clearingByClock 26 = .ok (.getfield 23, 3) := by decide +kernel
theorem dX2_clearingByClock_29 : decode cX2_clearingByClock 29 = .ok (.iload_n 1, 1) := by decide +kernel
theorem dX2_clearingByClock_30 : decode cX2_clearingByClock 30 = .ok (.iaload, 1) := by decide +kernel
theorem dX2_clearingByClock_31 : decode cX2_clearingByClock 31 = .ok (.invokevirtual 120, 3) := by decide +kernel
theorem dX2_clearingByClock_34 : decode cX2_clearingByClock 34 = .ok (.ireturn, 1) := by decide +kernel
set_option maxRecDepth 20000 in
theorem ggX2_wouldTake_X1_has : GoodIn wsX2_wouldTake wsX1_has := goodIn_r _ [10, 11, 53, 54, 55, 56, 57, 58, 59] (by decide +kernel) (by decide +kernel)
set_option maxRecDepth 20000 in
theorem gX2_wouldTake_X1_has : GoodIn wsX2_wouldTake (wsV RX2 123 RX1 yX1_has wsX1_has) := goodIn_app (goodIn_of _ (by decide +kernel)) ggX2_wouldTake_X1_has
set_option maxRecDepth 20000 in
theorem ggX2_wouldTake_X2_isYear : GoodIn wsX2_wouldTake wsX2_isYear := goodIn_r _ [15, 16, 17, 14, 18] (by decide +kernel) (by decide +kernel)
set_option maxRecDepth 20000 in
theorem gX2_wouldTake_X2_isYear : GoodIn wsX2_wouldTake (va_wsS RX2 108 yX2_isYear wsX2_isYear) := goodIn_app (goodIn_of _ (by decide +kernel)) ggX2_wouldTake_X2_isYear
set_option maxRecDepth 20000 in
theorem ggX2_wouldTake_X1_bestFirst : GoodIn wsX2_wouldTake wsX1_bestFirst := goodIn_r _ [22, 11, 23, 24, 25, 26, 27, 28, 29, 30, 31, 32, 33, 34, 35, 36, 37, 38, 53, 54, 55, 56, 57, 58, 59, 60, 61, 62, 63] (by decide +kernel) (by decide +kernel)
set_option maxRecDepth 20000 in
theorem gX2_wouldTake_X1_bestFirst : GoodIn wsX2_wouldTake (wsV RX2 113 RX1 yX1_bestFirst wsX1_bestFirst) := goodIn_app (goodIn_of _ (by decide +kernel)) ggX2_wouldTake_X1_bestFirst
set_option maxRecDepth 20000 in
theorem ggX2_wouldTake_X1_isAmongFirst : GoodIn wsX2_wouldTake wsX1_isAmongFirst := goodIn_r _ [42, 11, 23, 53, 54, 55, 56, 57, 58, 59] (by decide +kernel) (by decide +kernel)
set_option maxRecDepth 20000 in
theorem gX2_wouldTake_X1_isAmongFirst : GoodIn wsX2_wouldTake (wsV RX2 128 RX1 yX1_isAmongFirst wsX1_isAmongFirst) := goodIn_app (goodIn_of _ (by decide +kernel)) ggX2_wouldTake_X1_isAmongFirst
theorem dX2_wouldTake_0 : decode cX2_wouldTake 0 = .ok (.aload_n 0, 1) := by decide +kernel
theorem dX2_wouldTake_1 : decode cX2_wouldTake 1 = .ok (.getfield 19, 3) := by decide +kernel
theorem dX2_wouldTake_4 : decode cX2_wouldTake 4 = .ok (.iload_n 1, 1) := by decide +kernel
theorem dX2_wouldTake_5 : decode cX2_wouldTake 5 = .ok (.invokevirtual 123, 3) := by decide +kernel
theorem dX2_wouldTake_8 : decode cX2_wouldTake 8 = .ok (.ifCond .eq 10, 3) := by decide +kernel
theorem dX2_wouldTake_11 : decode cX2_wouldTake 11 = .ok (.iload_n 2, 1) := by decide +kernel
theorem dX2_wouldTake_12 : decode cX2_wouldTake 12 = .ok (.invokestatic 108, 3) := by decide +kernel
theorem dX2_wouldTake_15 : decode cX2_wouldTake 15 = .ok (.ifCond .ne 13, 3) := by decide +kernel
theorem dX2_wouldTake_18 : decode cX2_wouldTake 18 = .ok (.new 80, 3) := by decide +kernel
theorem dX2_wouldTake_21 : decode cX2_wouldTake 21 = .ok (.dup, 1) := by decide +kernel
theorem dX2_wouldTake_22 : decode cX2_wouldTake 22 = .ok (.ldc 126, 2) := by decide +kernel
theorem dX2_wouldTake_24 : decode cX2_wouldTake 24 = .ok (.invokespecial 84, 3) := by decide +kernel
theorem dX2_wouldTake_27 : decode cX2_wouldTake 27 = .ok (.athrow, 1) := by decide +kernel
theorem dX2_wouldTake_28 : decode cX2_wouldTake 28 = .ok (.aload_n 0, 1) := by decide +kernel
theorem dX2_wouldTake_29 : decode cX2_wouldTake 29 = .ok (.getfield 19, 3) := by decide +kernel
theorem dX2_wouldTake_32 : decode cX2_wouldTake 32 = .ok (.iload_n 1, 1) := by decide +kernel
theorem dX2_wouldTake_33 : decode cX2_wouldTake 33 = .ok (.aload_n 0, 1) := by decide +kernel
theorem dX2_wouldTake_34 : decode cX2_wouldTake 34 = .ok (.getfield 19, 3) := by decide +kernel
theorem dX2_wouldTake_37 : decode cX2_wouldTake 37 = .ok (.aload_n 0, 1) := by decide +kernel
theorem dX2_wouldTake_38 : decode cX2_wouldTake 38 = .ok (.getfield 10, 3) := by decide +kernel
theorem dX2_wouldTake_41 : decode cX2_wouldTake 41 = .ok (.aload_n 0, 1) := by decide +kernel
theorem dX2_wouldTake_42 : decode cX2_wouldTake 42 = .ok (.getfield 23, 3) := by decide +kernel
theorem dX2_wouldTake_45 : decode cX2_wouldTake 45 = .ok (.iload_n 2, 1) := by decide +kernel
theorem dX2_wouldTake_46 : decode cX2_wouldTake 46 = .ok (.iaload, 1) := by decide +kernel
theorem dX2_wouldTake_47 : decode cX2_wouldTake 47 = .ok (.invokevirtual 113, 3) := by decide +kernel
theorem dX2_wouldTake_50 : decode cX2_wouldTake 50 = .ok (.invokevirtual 128, 3) := by decide +kernel
theorem dX2_wouldTake_53 : decode cX2_wouldTake 53 = .ok (.ireturn, 1) := by decide +kernel
set_option maxRecDepth 20000 in
theorem ggX2_run_X2_isYear : GoodIn wsX2_run wsX2_isYear := goodIn_r _ [13, 14, 15, 12, 16] (by decide +kernel) (by decide +kernel)
set_option maxRecDepth 20000 in
theorem gX2_run_X2_isYear : GoodIn wsX2_run (va_wsS RX2 108 yX2_isYear wsX2_isYear) := goodIn_app (goodIn_of _ (by decide +kernel)) ggX2_run_X2_isYear
set_option maxRecDepth 20000 in
theorem ggX2_run_X1_bestFirst : GoodIn wsX2_run wsX1_bestFirst := goodIn_r _ [21, 22, 23, 24, 25, 26, 27, 28, 29, 30, 31, 32, 33, 34, 35, 36, 37, 38, 73, 74, 75, 76, 77, 78, 79, 80, 81, 82, 83] (by decide +kernel) (by decide +kernel)
set_option maxRecDepth 20000 in
theorem gX2_run_X1_bestFirst : GoodIn wsX2_run (wsV RX2 113 RX1 yX1_bestFirst wsX1_bestFirst) := goodIn_app (goodIn_of _ (by decide +kernel)) ggX2_run_X1_bestFirst
set_option maxRecDepth 20000 in
theorem ggX2_run_X1_priceOfFirst : GoodIn wsX2_run wsX1_priceOfFirst := goodIn_r _ [42, 22, 25, 23, 73, 74, 75, 76, 77, 78, 79] (by decide +kernel) (by decide +kernel)
set_option maxRecDepth 20000 in
theorem gX2_run_X1_priceOfFirst : GoodIn wsX2_run (wsV RX2 117 RX1 yX1_priceOfFirst wsX1_priceOfFirst) := goodIn_app (goodIn_of _ (by decide +kernel)) ggX2_run_X1_priceOfFirst
set_option maxRecDepth 20000 in
theorem ggX2_run_X2_take : GoodIn wsX2_run wsX2_take := goodIn_r _ [46, 5, 47, 48, 49, 50, 33, 34, 35, 8, 51, 52, 53, 54, 12, 55, 56, 57, 58, 63, 64, 65, 66, 67, 68, 69, 70, 71, 72, 73, 74, 75, 76, 77, 78, 79] (by decide +kernel) (by decide +kernel)
set_option maxRecDepth 20000 in
theorem gX2_run_X2_take : GoodIn wsX2_run (wsV RX2 137 RX2 yX2_take wsX2_take) := goodIn_app (goodIn_of _ (by decide +kernel)) ggX2_run_X2_take
set_option maxRecDepth 20000 in
theorem ggX2_run_X1_clear : GoodIn wsX2_run wsX1_clear := goodIn_r _ [62, 22, 73, 74, 75, 76, 77, 78, 79] (by decide +kernel) (by decide +kernel)
set_option maxRecDepth 20000 in
theorem gX2_run_X1_clear : GoodIn wsX2_run (wsV RX2 140 RX1 yX1_clear wsX1_clear) := goodIn_app (goodIn_of _ (by decide +kernel)) ggX2_run_X1_clear
theorem dX2_run_0 : decode cX2_run 0 = .ok (.iload_n 1, 1) := by decide +kernel
theorem dX2_run_1 : decode cX2_run 1 = .ok (.invokestatic 108, 3) := by decide +kernel
theorem dX2_run_4 : decode cX2_run 4 = .ok (.ifCond .ne 13, 3) := by decide +kernel
theorem dX2_run_7 : decode cX2_run 7 = .ok (.new 80, 3) := by decide +kernel
theorem dX2_run_10 : decode cX2_run 10 = .ok (.dup, 1) := by decide +kernel
theorem dX2_run_11 : decode cX2_run 11 = .ok (.ldc 111, 2) := by decide +kernel
theorem dX2_run_13 : decode cX2_run 13 = .ok (.invokespecial 84, 3) := by decide +kernel
theorem dX2_run_16 : decode cX2_run 16 = .ok (.athrow, 1) := by decide +kernel
theorem dX2_run_17 : decode cX2_run 17 = .ok (.aload_n 0, 1) := by decide +kernel
theorem dX2_run_18 : decode cX2_run 18 = .ok (.getfield 19, 3) := by decide +kernel
theorem dX2_run_21 : decode cX2_run 21 = .ok (.getfield 100, 3) := by decide +kernel
theorem dX2_run_24 : decode cX2_run 24 = .ok (.ifCond .ne 13, 3) := by decide +kernel
theorem dX2_run_27 : decode cX2_run 27 = .ok (.new 91, 3) := by decide +kernel
theorem dX2_run_30 : decode cX2_run 30 = .ok (.dup, 1) := by decide +kernel
theorem dX2_run_31 : decode cX2_run 31 = .ok (.ldc 132, 2) := by decide +kernel
theorem dX2_run_33 : decode cX2_run 33 = .ok (.invokespecial 95, 3) := by decide +kernel
theorem dX2_run_36 : decode cX2_run 36 = .ok (.athrow, 1) := by decide +kernel
theorem dX2_run_37 : decode cX2_run 37 = .ok (.aload_n 0, 1) := by decide +kernel
theorem dX2_run_38 : decode cX2_run 38 = .ok (.getfield 19, 3) := by decide +kernel
theorem dX2_run_41 : decode cX2_run 41 = .ok (.aload_n 0, 1) := by decide +kernel
theorem dX2_run_42 : decode cX2_run 42 = .ok (.getfield 10, 3) := by decide +kernel
theorem dX2_run_45 : decode cX2_run 45 = .ok (.aload_n 0, 1) := by decide +kernel
theorem dX2_run_46 : decode cX2_run 46 = .ok (.getfield 23, 3) := by decide +kernel
theorem dX2_run_49 : decode cX2_run 49 = .ok (.iload_n 1, 1) := by decide +kernel
theorem dX2_run_50 : decode cX2_run 50 = .ok (.iaload, 1) := by decide +kernel
theorem dX2_run_51 : decode cX2_run 51 = .ok (.invokevirtual 113, 3) := by decide +kernel
theorem dX2_run_54 : decode cX2_run 54 = .ok (.istore_n 2, 1) := by decide +kernel
theorem dX2_run_55 : decode cX2_run 55 = .ok (.aload_n 0, 1) := by decide +kernel
theorem dX2_run_56 : decode cX2_run 56 = .ok (.getfield 19, 3) := by decide +kernel
theorem dX2_run_59 : decode cX2_run 59 = .ok (.iload_n 2, 1) := by decide +kernel
theorem dX2_run_60 : decode cX2_run 60 = .ok (.invokevirtual 117, 3) := by decide +kernel
theorem dX2_run_63 : decode cX2_run 63 = .ok (.istore_n 3, 1) := by decide +kernel
theorem dX2_run_64 : decode cX2_run 64 = .ok (.iconst 0, 1) := by decide +kernel
theorem dX2_run_65 : decode cX2_run 65 = .ok (.istore 4, 2) := by decide +kernel
theorem dX2_run_67 : decode cX2_run 67 = .ok (.iload 4, 2) := by decide +kernel
theorem dX2_run_69 : decode cX2_run 69 = .ok (.iload_n 2, 1) := by decide +kernel
theorem dX2_run_70 : decode cX2_run 70 = .ok (.if_icmp .ge 25, 3) := by decide +kernel
theorem dX2_run_73 : decode cX2_run 73 = .ok (.aload_n 0, 1) := by decide +kernel
theorem dX2_run_74 : decode cX2_run 74 = .ok (.aload_n 0, 1) := by decide +kernel
theorem dX2_run_75 : decode cX2_run 75 = .ok (.getfield 19, 3) := by decide +kernel
theorem dX2_run_78 : decode cX2_run 78 = .ok (.getfield 134, 3) := by decide +kernel
theorem dX2_run_81 : decode cX2_run 81 = .ok (.iload 4, 2) := by decide +kernel
theorem dX2_run_83 : decode cX2_run 83 = .ok (.iaload, 1) := by decide +kernel
theorem dX2_run_84 : decode cX2_run 84 = .ok (.iload_n 1, 1) := by decide +kernel
theorem dX2_run_85 : decode cX2_run 85 = .ok (.iload_n 3, 1) := by decide +kernel
theorem dX2_run_86 : decode cX2_run 86 = .ok (.invokevirtual 137, 3) := by decide +kernel
theorem dX2_run_89 : decode cX2_run 89 = .ok (.iinc 4 1, 3) := by decide +kernel
theorem dX2_run_92 : decode cX2_run 92 = .ok (.goto (-25), 3) := by decide +kernel
theorem dX2_run_95 : decode cX2_run 95 = .ok (.aload_n 0, 1) := by decide +kernel
theorem dX2_run_96 : decode cX2_run 96 = .ok (.getfield 19, 3) := by decide +kernel
theorem dX2_run_99 : decode cX2_run 99 = .ok (.invokevirtual 140, 3) := by decide +kernel
theorem dX2_run_102 : decode cX2_run 102 = .ok (.iload_n 2, 1) := by decide +kernel
theorem dX2_run_103 : decode cX2_run 103 = .ok (.ireturn, 1) := by decide +kernel
set_option maxRecDepth 20000 in
theorem ggX2_bought_X2_isYear : GoodIn wsX2_bought wsX2_isYear := goodIn_r _ [7, 8, 9, 6, 10] (by decide +kernel) (by decide +kernel)
set_option maxRecDepth 20000 in
theorem gX2_bought_X2_isYear : GoodIn wsX2_bought (va_wsS RX2 108 yX2_isYear wsX2_isYear) := goodIn_app (goodIn_of _ (by decide +kernel)) ggX2_bought_X2_isYear
theorem dX2_bought_0 : decode cX2_bought 0 = .ok (.iload_n 1, 1) := by decide +kernel
theorem dX2_bought_1 : decode cX2_bought 1 = .ok (.invokestatic 108, 3) := by decide +kernel
theorem dX2_bought_4 : decode cX2_bought 4 = .ok (.ifCond .ne 13, 3) := by decide +kernel
theorem dX2_bought_7 : decode cX2_bought 7 = .ok (.new 80, 3) := by decide +kernel
theorem dX2_bought_10 : decode cX2_bought 10 = .ok (.dup, 1) := by decide +kernel
theorem dX2_bought_11 : decode cX2_bought 11 = .ok (.ldc 111, 2) := by decide +kernel
theorem dX2_bought_13 : decode cX2_bought 13 = .ok (.invokespecial 84, 3) := by decide +kernel
theorem dX2_bought_16 : decode cX2_bought 16 = .ok (.athrow, 1) := by decide +kernel
theorem dX2_bought_17 : decode cX2_bought 17 = .ok (.aload_n 0, 1) := by decide +kernel
theorem dX2_bought_18 : decode cX2_bought 18 = .ok (.getfield 23, 3) := by decide +kernel
theorem dX2_bought_21 : decode cX2_bought 21 = .ok (.iload_n 1, 1) := by decide +kernel
theorem dX2_bought_22 : decode cX2_bought 22 = .ok (.iaload, 1) := by decide +kernel
theorem dX2_bought_23 : decode cX2_bought 23 = .ok (.ireturn, 1) := by decide +kernel
set_option maxRecDepth 20000 in
theorem ggX2_income_X2_isParty : GoodIn wsX2_income wsX2_isParty := goodIn_r _ [7, 8, 9, 6, 10] (by decide +kernel) (by decide +kernel)
set_option maxRecDepth 20000 in
theorem gX2_income_X2_isParty : GoodIn wsX2_income (va_wsS RX2 76 yX2_isParty wsX2_isParty) := goodIn_app (goodIn_of _ (by decide +kernel)) ggX2_income_X2_isParty
set_option maxRecDepth 20000 in
theorem ggX2_income_X2_isYear : GoodIn wsX2_income wsX2_isYear := goodIn_r _ [13, 8, 9, 6, 10] (by decide +kernel) (by decide +kernel)
set_option maxRecDepth 20000 in
theorem gX2_income_X2_isYear : GoodIn wsX2_income (va_wsS RX2 108 yX2_isYear wsX2_isYear) := goodIn_app (goodIn_of _ (by decide +kernel)) ggX2_income_X2_isYear
set_option maxRecDepth 20000 in
theorem ggX2_income_X2_yearCell : GoodIn wsX2_income wsX2_yearCell := goodIn_r _ [16] (by decide +kernel) (by decide +kernel)
set_option maxRecDepth 20000 in
theorem gX2_income_X2_yearCell : GoodIn wsX2_income (va_wsS RX2 145 yX2_yearCell wsX2_yearCell) := goodIn_app (goodIn_of _ (by decide +kernel)) ggX2_income_X2_yearCell
theorem dX2_income_0 : decode cX2_income 0 = .ok (.iload_n 1, 1) := by decide +kernel
theorem dX2_income_1 : decode cX2_income 1 = .ok (.invokestatic 76, 3) := by decide +kernel
theorem dX2_income_4 : decode cX2_income 4 = .ok (.ifCond .eq 10, 3) := by decide +kernel
theorem dX2_income_7 : decode cX2_income 7 = .ok (.iload_n 2, 1) := by decide +kernel
theorem dX2_income_8 : decode cX2_income 8 = .ok (.invokestatic 108, 3) := by decide +kernel
theorem dX2_income_11 : decode cX2_income 11 = .ok (.ifCond .ne 13, 3) := by decide +kernel
theorem dX2_income_14 : decode cX2_income 14 = .ok (.new 80, 3) := by decide +kernel
theorem dX2_income_17 : decode cX2_income 17 = .ok (.dup, 1) := by decide +kernel
theorem dX2_income_18 : decode cX2_income 18 = .ok (.ldc 143, 2) := by decide +kernel
theorem dX2_income_20 : decode cX2_income 20 = .ok (.invokespecial 84, 3) := by decide +kernel
theorem dX2_income_23 : decode cX2_income 23 = .ok (.athrow, 1) := by decide +kernel
theorem dX2_income_24 : decode cX2_income 24 = .ok (.aload_n 0, 1) := by decide +kernel
theorem dX2_income_25 : decode cX2_income 25 = .ok (.getfield 27, 3) := by decide +kernel
theorem dX2_income_28 : decode cX2_income 28 = .ok (.iload_n 1, 1) := by decide +kernel
theorem dX2_income_29 : decode cX2_income 29 = .ok (.iload_n 2, 1) := by decide +kernel
theorem dX2_income_30 : decode cX2_income 30 = .ok (.invokestatic 145, 3) := by decide +kernel
theorem dX2_income_33 : decode cX2_income 33 = .ok (.iaload, 1) := by decide +kernel
theorem dX2_income_34 : decode cX2_income 34 = .ok (.ireturn, 1) := by decide +kernel
set_option maxRecDepth 20000 in
theorem ggX2_obligation_X2_isParty : GoodIn wsX2_obligation wsX2_isParty := goodIn_r _ [7, 8, 9, 6, 10] (by decide +kernel) (by decide +kernel)
set_option maxRecDepth 20000 in
theorem gX2_obligation_X2_isParty : GoodIn wsX2_obligation (va_wsS RX2 76 yX2_isParty wsX2_isParty) := goodIn_app (goodIn_of _ (by decide +kernel)) ggX2_obligation_X2_isParty
set_option maxRecDepth 20000 in
theorem ggX2_obligation_X2_isYear : GoodIn wsX2_obligation wsX2_isYear := goodIn_r _ [13, 8, 9, 6, 10] (by decide +kernel) (by decide +kernel)
set_option maxRecDepth 20000 in
theorem gX2_obligation_X2_isYear : GoodIn wsX2_obligation (va_wsS RX2 108 yX2_isYear wsX2_isYear) := goodIn_app (goodIn_of _ (by decide +kernel)) ggX2_obligation_X2_isYear
set_option maxRecDepth 20000 in
theorem ggX2_obligation_X2_isHour : GoodIn wsX2_obligation wsX2_isHour := goodIn_r _ [16, 8, 9, 6, 10] (by decide +kernel) (by decide +kernel)
set_option maxRecDepth 20000 in
theorem gX2_obligation_X2_isHour : GoodIn wsX2_obligation (va_wsS RX2 149 yX2_isHour wsX2_isHour) := goodIn_app (goodIn_of _ (by decide +kernel)) ggX2_obligation_X2_isHour
set_option maxRecDepth 20000 in
theorem ggX2_obligation_X2_hourCell : GoodIn wsX2_obligation wsX2_hourCell := goodIn_r _ [19, 20, 21, 6, 22] (by decide +kernel) (by decide +kernel)
set_option maxRecDepth 20000 in
theorem gX2_obligation_X2_hourCell : GoodIn wsX2_obligation (va_wsS RX2 154 yX2_hourCell wsX2_hourCell) := goodIn_app (goodIn_of _ (by decide +kernel)) ggX2_obligation_X2_hourCell
theorem dX2_obligation_0 : decode cX2_obligation 0 = .ok (.iload_n 1, 1) := by decide +kernel
theorem dX2_obligation_1 : decode cX2_obligation 1 = .ok (.invokestatic 76, 3) := by decide +kernel
theorem dX2_obligation_4 : decode cX2_obligation 4 = .ok (.ifCond .eq 17, 3) := by decide +kernel
theorem dX2_obligation_7 : decode cX2_obligation 7 = .ok (.iload_n 2, 1) := by decide +kernel
theorem dX2_obligation_8 : decode cX2_obligation 8 = .ok (.invokestatic 108, 3) := by decide +kernel
theorem dX2_obligation_11 : decode cX2_obligation 11 = .ok (.ifCond .eq 10, 3) := by decide +kernel
theorem dX2_obligation_14 : decode cX2_obligation 14 = .ok (.iload_n 3, 1) := by decide +kernel
theorem dX2_obligation_15 : decode cX2_obligation 15 = .ok (.invokestatic 149, 3) := by decide +kernel
theorem dX2_obligation_18 : decode cX2_obligation 18 = .ok (.ifCond .ne 13, 3) := by decide +kernel
theorem dX2_obligation_21 : decode cX2_obligation 21 = .ok (.new 80, 3) := by decide +kernel
theorem dX2_obligation_24 : decode cX2_obligation 24 = .ok (.dup, 1) := by decide +kernel
theorem dX2_obligation_25 : decode cX2_obligation 25 = .ok (.ldc 152, 2) := by decide +kernel
theorem dX2_obligation_27 : decode cX2_obligation 27 = .ok (.invokespecial 84, 3) := by decide +kernel
theorem dX2_obligation_30 : decode cX2_obligation 30 = .ok (.athrow, 1) := by decide +kernel
theorem dX2_obligation_31 : decode cX2_obligation 31 = .ok (.aload_n 0, 1) := by decide +kernel
theorem dX2_obligation_32 : decode cX2_obligation 32 = .ok (.getfield 30, 3) := by decide +kernel
theorem dX2_obligation_35 : decode cX2_obligation 35 = .ok (.iload_n 1, 1) := by decide +kernel
theorem dX2_obligation_36 : decode cX2_obligation 36 = .ok (.iload_n 2, 1) := by decide +kernel
theorem dX2_obligation_37 : decode cX2_obligation 37 = .ok (.iload_n 3, 1) := by decide +kernel
theorem dX2_obligation_38 : decode cX2_obligation 38 = .ok (.invokestatic 154, 3) := by decide +kernel
theorem dX2_obligation_41 : decode cX2_obligation 41 = .ok (.iaload, 1) := by decide +kernel
theorem dX2_obligation_42 : decode cX2_obligation 42 = .ok (.ireturn, 1) := by decide +kernel
set_option maxRecDepth 20000 in
theorem ggX2_trade_X2_isParty : GoodIn wsX2_trade wsX2_isParty := goodIn_r _ [12, 13, 14, 11, 15] (by decide +kernel) (by decide +kernel)
set_option maxRecDepth 20000 in
theorem gX2_trade_X2_isParty : GoodIn wsX2_trade (va_wsS RX2 76 yX2_isParty wsX2_isParty) := goodIn_app (goodIn_of _ (by decide +kernel)) ggX2_trade_X2_isParty
set_option maxRecDepth 20000 in
theorem ggX2_trade_X2_isYear : GoodIn wsX2_trade wsX2_isYear := goodIn_r _ [18, 13, 14, 11, 15] (by decide +kernel) (by decide +kernel)
set_option maxRecDepth 20000 in
theorem gX2_trade_X2_isYear : GoodIn wsX2_trade (va_wsS RX2 108 yX2_isYear wsX2_isYear) := goodIn_app (goodIn_of _ (by decide +kernel)) ggX2_trade_X2_isYear
set_option maxRecDepth 20000 in
theorem ggX2_trade_X2_isHour : GoodIn wsX2_trade wsX2_isHour := goodIn_r _ [21, 13, 14, 11, 15] (by decide +kernel) (by decide +kernel)
set_option maxRecDepth 20000 in
theorem gX2_trade_X2_isHour : GoodIn wsX2_trade (va_wsS RX2 149 yX2_isHour wsX2_isHour) := goodIn_app (goodIn_of _ (by decide +kernel)) ggX2_trade_X2_isHour
end
section
set_option maxRecDepth 20000 in
theorem ggX2_trade_X2_isWithin : GoodIn wsX2_trade wsX2_isWithin := goodIn_r _ [15] (by decide +kernel) (by decide +kernel)
set_option maxRecDepth 20000 in
theorem gX2_trade_X2_isWithin : GoodIn wsX2_trade (va_wsS RX2 50 yX2_isWithin wsX2_isWithin) := goodIn_app (goodIn_of _ (by decide +kernel)) ggX2_trade_X2_isWithin
set_option maxRecDepth 20000 in
theorem ggX2_trade_X2_leastObligation : GoodIn wsX2_trade wsX2_leastObligation := goodIn_r _ [25, 7, 26, 27, 28, 29, 30, 31, 11, 32, 33, 34, 35, 36, 37, 38, 39, 40, 41, 42, 43, 44, 45] (by decide +kernel) (by decide +kernel)
set_option maxRecDepth 20000 in
theorem gX2_trade_X2_leastObligation : GoodIn wsX2_trade (wsV RX2 160 RX2 yX2_leastObligation wsX2_leastObligation) := goodIn_app (goodIn_of _ (by decide +kernel)) ggX2_trade_X2_leastObligation
set_option maxRecDepth 20000 in
theorem ggX2_trade_X2_hourCell : GoodIn wsX2_trade wsX2_hourCell := goodIn_r _ [32, 33, 34, 11, 35] (by decide +kernel) (by decide +kernel)
set_option maxRecDepth 20000 in
theorem gX2_trade_X2_hourCell : GoodIn wsX2_trade (va_wsS RX2 154 yX2_hourCell wsX2_hourCell) := goodIn_app (goodIn_of _ (by decide +kernel)) ggX2_trade_X2_hourCell
theorem dX2_trade_0 : decode cX2_trade 0 = .ok (.iload_n 1, 1) := by decide +kernel
theorem dX2_trade_1 : decode cX2_trade 1 = .ok (.invokestatic 76, 3) := by decide +kernel
theorem dX2_trade_4 : decode cX2_trade 4 = .ok (.ifCond .eq 33, 3) := by decide +kernel
theorem dX2_trade_7 : decode cX2_trade 7 = .ok (.iload_n 2, 1) := by decide +kernel
theorem dX2_trade_8 : decode cX2_trade 8 = .ok (.invokestatic 76, 3) := by decide +kernel
theorem dX2_trade_11 : decode cX2_trade 11 = .ok (.ifCond .eq 26, 3) := by decide +kernel
theorem dX2_trade_14 : decode cX2_trade 14 = .ok (.iload_n 3, 1) := by decide +kernel
theorem dX2_trade_15 : decode cX2_trade 15 = .ok (.invokestatic 108, 3) := by decide +kernel
theorem dX2_trade_18 : decode cX2_trade 18 = .ok (.ifCond .eq 19, 3) := by decide +kernel
theorem dX2_trade_21 : decode cX2_trade 21 = .ok (.iload 4, 2) := by decide +kernel
theorem dX2_trade_23 : decode cX2_trade 23 = .ok (.invokestatic 149, 3) := by decide +kernel
theorem dX2_trade_26 : decode cX2_trade 26 = .ok (.ifCond .eq 11, 3) := by decide +kernel
theorem dX2_trade_29 : decode cX2_trade 29 = .ok (.iload 5, 2) := by decide +kernel
theorem dX2_trade_31 : decode cX2_trade 31 = .ok (.invokestatic 149, 3) := by decide +kernel
theorem dX2_trade_34 : decode cX2_trade 34 = .ok (.ifCond .ne 13, 3) := by decide +kernel
theorem dX2_trade_37 : decode cX2_trade 37 = .ok (.new 80, 3) := by decide +kernel
theorem dX2_trade_40 : decode cX2_trade 40 = .ok (.dup, 1) := by decide +kernel
theorem dX2_trade_41 : decode cX2_trade 41 = .ok (.ldc 152, 2) := by decide +kernel
theorem dX2_trade_43 : decode cX2_trade 43 = .ok (.invokespecial 84, 3) := by decide +kernel
theorem dX2_trade_46 : decode cX2_trade 46 = .ok (.athrow, 1) := by decide +kernel
theorem dX2_trade_47 : decode cX2_trade 47 = .ok (.iload_n 1, 1) := by decide +kernel
theorem dX2_trade_48 : decode cX2_trade 48 = .ok (.iload_n 2, 1) := by decide +kernel
theorem dX2_trade_49 : decode cX2_trade 49 = .ok (.if_icmp .eq 22, 3) := by decide +kernel
theorem dX2_trade_52 : decode cX2_trade 52 = .ok (.iload 5, 2) := by decide +kernel
theorem dX2_trade_54 : decode cX2_trade 54 = .ok (.iload 4, 2) := by decide +kernel
theorem dX2_trade_56 : decode cX2_trade 56 = .ok (.if_icmp .lt 15, 3) := by decide +kernel
theorem dX2_trade_59 : decode cX2_trade 59 = .ok (.iload 6, 2) := by decide +kernel
theorem dX2_trade_61 : decode cX2_trade 61 = .ok (.iconst 1, 1) := by decide +kernel
theorem dX2_trade_62 : decode cX2_trade 62 = .ok (.sipush 1000, 3) := by decide +kernel
theorem dX2_trade_65 : decode cX2_trade 65 = .ok (.invokestatic 50, 3) := by decide +kernel
theorem dX2_trade_68 : decode cX2_trade 68 = .ok (.ifCond .ne 13, 3) := by decide +kernel
theorem dX2_trade_71 : decode cX2_trade 71 = .ok (.new 54, 3) := by decide +kernel
theorem dX2_trade_74 : decode cX2_trade 74 = .ok (.dup, 1) := by decide +kernel
theorem dX2_trade_75 : decode cX2_trade 75 = .ok (.ldc 158, 2) := by decide +kernel
theorem dX2_trade_77 : decode cX2_trade 77 = .ok (.invokespecial 58, 3) := by decide +kernel
theorem dX2_trade_80 : decode cX2_trade 80 = .ok (.athrow, 1) := by decide +kernel
theorem dX2_trade_81 : decode cX2_trade 81 = .ok (.aload_n 0, 1) := by decide +kernel
theorem dX2_trade_82 : decode cX2_trade 82 = .ok (.iload_n 1, 1) := by decide +kernel
theorem dX2_trade_83 : decode cX2_trade 83 = .ok (.iload_n 3, 1) := by decide +kernel
theorem dX2_trade_84 : decode cX2_trade 84 = .ok (.iload 4, 2) := by decide +kernel
theorem dX2_trade_86 : decode cX2_trade 86 = .ok (.iload 5, 2) := by decide +kernel
theorem dX2_trade_88 : decode cX2_trade 88 = .ok (.invokevirtual 160, 3) := by decide +kernel
theorem dX2_trade_91 : decode cX2_trade 91 = .ok (.istore 7, 2) := by decide +kernel
theorem dX2_trade_93 : decode cX2_trade 93 = .ok (.iload 7, 2) := by decide +kernel
theorem dX2_trade_95 : decode cX2_trade 95 = .ok (.iload 6, 2) := by decide +kernel
theorem dX2_trade_97 : decode cX2_trade 97 = .ok (.if_icmp .ge 13, 3) := by decide +kernel
theorem dX2_trade_100 : decode cX2_trade 100 = .ok (.new 91, 3) := by decide +kernel
theorem dX2_trade_103 : decode cX2_trade 103 = .ok (.dup, 1) := by decide +kernel
theorem dX2_trade_104 : decode cX2_trade 104 = .ok (.ldc 163, 2) := by decide +kernel
theorem dX2_trade_106 : decode cX2_trade 106 = .ok (.invokespecial 95, 3) := by decide +kernel
theorem dX2_trade_109 : decode cX2_trade 109 = .ok (.athrow, 1) := by decide +kernel
theorem dX2_trade_110 : decode cX2_trade 110 = .ok (.iload 4, 2) := by decide +kernel
theorem dX2_trade_112 : decode cX2_trade 112 = .ok (.istore 8, 2) := by decide +kernel
theorem dX2_trade_114 : decode cX2_trade 114 = .ok (.iload 8, 2) := by decide +kernel
theorem dX2_trade_116 : decode cX2_trade 116 = .ok (.iload 5, 2) := by decide +kernel
theorem dX2_trade_118 : decode cX2_trade 118 = .ok (.if_icmp .gt 43, 3) := by decide +kernel
theorem dX2_trade_121 : decode cX2_trade 121 = .ok (.aload_n 0, 1) := by decide +kernel
theorem dX2_trade_122 : decode cX2_trade 122 = .ok (.getfield 30, 3) := by decide +kernel
theorem dX2_trade_125 : decode cX2_trade 125 = .ok (.iload_n 1, 1) := by decide +kernel
theorem dX2_trade_126 : decode cX2_trade 126 = .ok (.iload_n 3, 1) := by decide +kernel
theorem dX2_trade_127 : decode cX2_trade 127 = .ok (.iload 8, 2) := by decide +kernel
theorem dX2_trade_129 : decode cX2_trade 129 = .ok (.invokestatic 154, 3) := by decide +kernel
theorem dX2_trade_132 : decode cX2_trade 132 = .ok (.dup2, 1) := by decide +kernel
theorem dX2_trade_133 : decode cX2_trade 133 = .ok (.iaload, 1) := by decide +kernel
theorem dX2_trade_134 : decode cX2_trade 134 = .ok (.iload 6, 2) := by decide +kernel
theorem dX2_trade_136 : decode cX2_trade 136 = .ok (.isub, 1) := by decide +kernel
theorem dX2_trade_137 : decode cX2_trade 137 = .ok (.iastore, 1) := by decide +kernel
theorem dX2_trade_138 : decode cX2_trade 138 = .ok (.aload_n 0, 1) := by decide +kernel
theorem dX2_trade_139 : decode cX2_trade 139 = .ok (.getfield 30, 3) := by decide +kernel
theorem dX2_trade_142 : decode cX2_trade 142 = .ok (.iload_n 2, 1) := by decide +kernel
theorem dX2_trade_143 : decode cX2_trade 143 = .ok (.iload_n 3, 1) := by decide +kernel
theorem dX2_trade_144 : decode cX2_trade 144 = .ok (.iload 8, 2) := by decide +kernel
theorem dX2_trade_146 : decode cX2_trade 146 = .ok (.invokestatic 154, 3) := by decide +kernel
theorem dX2_trade_149 : decode cX2_trade 149 = .ok (.dup2, 1) := by decide +kernel
theorem dX2_trade_150 : decode cX2_trade 150 = .ok (.iaload, 1) := by decide +kernel
theorem dX2_trade_151 : decode cX2_trade 151 = .ok (.iload 6, 2) := by decide +kernel
theorem dX2_trade_153 : decode cX2_trade 153 = .ok (.iadd, 1) := by decide +kernel
theorem dX2_trade_154 : decode cX2_trade 154 = .ok (.iastore, 1) := by decide +kernel
theorem dX2_trade_155 : decode cX2_trade 155 = .ok (.iinc 8 1, 3) := by decide +kernel
theorem dX2_trade_158 : decode cX2_trade 158 = .ok (.goto (-44), 3) := by decide +kernel
theorem dX2_trade_161 : decode cX2_trade 161 = .ok (.aload_n 0, 1) := by decide +kernel
theorem dX2_trade_162 : decode cX2_trade 162 = .ok (.dup, 1) := by decide +kernel
theorem dX2_trade_163 : decode cX2_trade 163 = .ok (.getfield 40, 3) := by decide +kernel
theorem dX2_trade_166 : decode cX2_trade 166 = .ok (.iconst 1, 1) := by decide +kernel
theorem dX2_trade_167 : decode cX2_trade 167 = .ok (.iadd, 1) := by decide +kernel
theorem dX2_trade_168 : decode cX2_trade 168 = .ok (.putfield 40, 3) := by decide +kernel
theorem dX2_trade_171 : decode cX2_trade 171 = .ok (.iload 7, 2) := by decide +kernel
theorem dX2_trade_173 : decode cX2_trade 173 = .ok (.iload 6, 2) := by decide +kernel
theorem dX2_trade_175 : decode cX2_trade 175 = .ok (.isub, 1) := by decide +kernel
theorem dX2_trade_176 : decode cX2_trade 176 = .ok (.ireturn, 1) := by decide +kernel
theorem dX2_trades_0 : decode cX2_trades 0 = .ok (.aload_n 0, 1) := by decide +kernel
theorem dX2_trades_1 : decode cX2_trades 1 = .ok (.getfield 40, 3) := by decide +kernel
theorem dX2_trades_4 : decode cX2_trades 4 = .ok (.ireturn, 1) := by decide +kernel
set_option maxRecDepth 20000 in
theorem ggX2_stress_X2_isYear : GoodIn wsX2_stress wsX2_isYear := goodIn_r _ [7, 8, 9, 6, 10] (by decide +kernel) (by decide +kernel)
set_option maxRecDepth 20000 in
theorem gX2_stress_X2_isYear : GoodIn wsX2_stress (va_wsS RX2 108 yX2_isYear wsX2_isYear) := goodIn_app (goodIn_of _ (by decide +kernel)) ggX2_stress_X2_isYear
set_option maxRecDepth 20000 in
theorem ggX2_stress_X2_isHour : GoodIn wsX2_stress wsX2_isHour := goodIn_r _ [13, 8, 9, 6, 10] (by decide +kernel) (by decide +kernel)
set_option maxRecDepth 20000 in
theorem gX2_stress_X2_isHour : GoodIn wsX2_stress (va_wsS RX2 149 yX2_isHour wsX2_isHour) := goodIn_app (goodIn_of _ (by decide +kernel)) ggX2_stress_X2_isHour
theorem dX2_stress_0 : decode cX2_stress 0 = .ok (.iload_n 1, 1) := by decide +kernel
theorem dX2_stress_1 : decode cX2_stress 1 = .ok (.invokestatic 108, 3) := by decide +kernel
theorem dX2_stress_4 : decode cX2_stress 4 = .ok (.ifCond .eq 10, 3) := by decide +kernel
theorem dX2_stress_7 : decode cX2_stress 7 = .ok (.iload_n 2, 1) := by decide +kernel
theorem dX2_stress_8 : decode cX2_stress 8 = .ok (.invokestatic 149, 3) := by decide +kernel
theorem dX2_stress_11 : decode cX2_stress 11 = .ok (.ifCond .ne 13, 3) := by decide +kernel
theorem dX2_stress_14 : decode cX2_stress 14 = .ok (.new 80, 3) := by decide +kernel
theorem dX2_stress_17 : decode cX2_stress 17 = .ok (.dup, 1) := by decide +kernel
theorem dX2_stress_18 : decode cX2_stress 18 = .ok (.ldc 165, 2) := by decide +kernel
theorem dX2_stress_20 : decode cX2_stress 20 = .ok (.invokespecial 84, 3) := by decide +kernel
theorem dX2_stress_23 : decode cX2_stress 23 = .ok (.athrow, 1) := by decide +kernel
theorem dX2_stress_24 : decode cX2_stress 24 = .ok (.iload_n 1, 1) := by decide +kernel
theorem dX2_stress_25 : decode cX2_stress 25 = .ok (.bipush 12, 2) := by decide +kernel
theorem dX2_stress_27 : decode cX2_stress 27 = .ok (.imul, 1) := by decide +kernel
theorem dX2_stress_28 : decode cX2_stress 28 = .ok (.iload_n 2, 1) := by decide +kernel
theorem dX2_stress_29 : decode cX2_stress 29 = .ok (.iadd, 1) := by decide +kernel
theorem dX2_stress_30 : decode cX2_stress 30 = .ok (.istore_n 3, 1) := by decide +kernel
theorem dX2_stress_31 : decode cX2_stress 31 = .ok (.aload_n 0, 1) := by decide +kernel
theorem dX2_stress_32 : decode cX2_stress 32 = .ok (.getfield 36, 3) := by decide +kernel
theorem dX2_stress_35 : decode cX2_stress 35 = .ok (.iload_n 3, 1) := by decide +kernel
theorem dX2_stress_36 : decode cX2_stress 36 = .ok (.aload_n 0, 1) := by decide +kernel
theorem dX2_stress_37 : decode cX2_stress 37 = .ok (.getfield 36, 3) := by decide +kernel
theorem dX2_stress_40 : decode cX2_stress 40 = .ok (.iload_n 3, 1) := by decide +kernel
theorem dX2_stress_41 : decode cX2_stress 41 = .ok (.baload, 1) := by decide +kernel
theorem dX2_stress_42 : decode cX2_stress 42 = .ok (.ifCond .ne 7, 3) := by decide +kernel
theorem dX2_stress_45 : decode cX2_stress 45 = .ok (.iconst 1, 1) := by decide +kernel
theorem dX2_stress_46 : decode cX2_stress 46 = .ok (.goto 4, 3) := by decide +kernel
theorem dX2_stress_49 : decode cX2_stress 49 = .ok (.iconst 0, 1) := by decide +kernel
theorem dX2_stress_50 : decode cX2_stress 50 = .ok (.bastore, 1) := by decide +kernel
theorem dX2_stress_51 : decode cX2_stress 51 = .ok (.aload_n 0, 1) := by decide +kernel
theorem dX2_stress_52 : decode cX2_stress 52 = .ok (.getfield 36, 3) := by decide +kernel
theorem dX2_stress_55 : decode cX2_stress 55 = .ok (.iload_n 3, 1) := by decide +kernel
theorem dX2_stress_56 : decode cX2_stress 56 = .ok (.baload, 1) := by decide +kernel
theorem dX2_stress_57 : decode cX2_stress 57 = .ok (.ireturn, 1) := by decide +kernel
set_option maxRecDepth 20000 in
theorem ggX2_tell_X2_isParty : GoodIn wsX2_tell wsX2_isParty := goodIn_r _ [9, 10, 11, 8, 12] (by decide +kernel) (by decide +kernel)
set_option maxRecDepth 20000 in
theorem gX2_tell_X2_isParty : GoodIn wsX2_tell (va_wsS RX2 76 yX2_isParty wsX2_isParty) := goodIn_app (goodIn_of _ (by decide +kernel)) ggX2_tell_X2_isParty
set_option maxRecDepth 20000 in
theorem ggX2_tell_X2_isYear : GoodIn wsX2_tell wsX2_isYear := goodIn_r _ [15, 10, 11, 8, 12] (by decide +kernel) (by decide +kernel)
set_option maxRecDepth 20000 in
theorem gX2_tell_X2_isYear : GoodIn wsX2_tell (va_wsS RX2 108 yX2_isYear wsX2_isYear) := goodIn_app (goodIn_of _ (by decide +kernel)) ggX2_tell_X2_isYear
set_option maxRecDepth 20000 in
theorem ggX2_tell_X2_isHour : GoodIn wsX2_tell wsX2_isHour := goodIn_r _ [18, 10, 11, 8, 12] (by decide +kernel) (by decide +kernel)
set_option maxRecDepth 20000 in
theorem gX2_tell_X2_isHour : GoodIn wsX2_tell (va_wsS RX2 149 yX2_isHour wsX2_isHour) := goodIn_app (goodIn_of _ (by decide +kernel)) ggX2_tell_X2_isHour
set_option maxRecDepth 20000 in
theorem ggX2_tell_X2_isWithin : GoodIn wsX2_tell wsX2_isWithin := goodIn_r _ [12] (by decide +kernel) (by decide +kernel)
set_option maxRecDepth 20000 in
theorem gX2_tell_X2_isWithin : GoodIn wsX2_tell (va_wsS RX2 50 yX2_isWithin wsX2_isWithin) := goodIn_app (goodIn_of _ (by decide +kernel)) ggX2_tell_X2_isWithin
set_option maxRecDepth 20000 in
theorem ggX2_tell_X2_hourCell : GoodIn wsX2_tell wsX2_hourCell := goodIn_r _ [21, 22, 23, 8, 24] (by decide +kernel) (by decide +kernel)
set_option maxRecDepth 20000 in
theorem gX2_tell_X2_hourCell : GoodIn wsX2_tell (va_wsS RX2 154 yX2_hourCell wsX2_hourCell) := goodIn_app (goodIn_of _ (by decide +kernel)) ggX2_tell_X2_hourCell
theorem dX2_tell_0 : decode cX2_tell 0 = .ok (.iload_n 1, 1) := by decide +kernel
theorem dX2_tell_1 : decode cX2_tell 1 = .ok (.invokestatic 76, 3) := by decide +kernel
theorem dX2_tell_4 : decode cX2_tell 4 = .ok (.ifCond .eq 17, 3) := by decide +kernel
theorem dX2_tell_7 : decode cX2_tell 7 = .ok (.iload_n 2, 1) := by decide +kernel
theorem dX2_tell_8 : decode cX2_tell 8 = .ok (.invokestatic 108, 3) := by decide +kernel
theorem dX2_tell_11 : decode cX2_tell 11 = .ok (.ifCond .eq 10, 3) := by decide +kernel
theorem dX2_tell_14 : decode cX2_tell 14 = .ok (.iload_n 3, 1) := by decide +kernel
theorem dX2_tell_15 : decode cX2_tell 15 = .ok (.invokestatic 149, 3) := by decide +kernel
theorem dX2_tell_18 : decode cX2_tell 18 = .ok (.ifCond .ne 13, 3) := by decide +kernel
theorem dX2_tell_21 : decode cX2_tell 21 = .ok (.new 80, 3) := by decide +kernel
theorem dX2_tell_24 : decode cX2_tell 24 = .ok (.dup, 1) := by decide +kernel
theorem dX2_tell_25 : decode cX2_tell 25 = .ok (.ldc 152, 2) := by decide +kernel
theorem dX2_tell_27 : decode cX2_tell 27 = .ok (.invokespecial 84, 3) := by decide +kernel
theorem dX2_tell_30 : decode cX2_tell 30 = .ok (.athrow, 1) := by decide +kernel
theorem dX2_tell_31 : decode cX2_tell 31 = .ok (.iload 4, 2) := by decide +kernel
theorem dX2_tell_33 : decode cX2_tell 33 = .ok (.iconst 0, 1) := by decide +kernel
theorem dX2_tell_34 : decode cX2_tell 34 = .ok (.sipush 5000, 3) := by decide +kernel
theorem dX2_tell_37 : decode cX2_tell 37 = .ok (.invokestatic 50, 3) := by decide +kernel
theorem dX2_tell_40 : decode cX2_tell 40 = .ok (.ifCond .ne 13, 3) := by decide +kernel
theorem dX2_tell_43 : decode cX2_tell 43 = .ok (.new 54, 3) := by decide +kernel
theorem dX2_tell_46 : decode cX2_tell 46 = .ok (.dup, 1) := by decide +kernel
theorem dX2_tell_47 : decode cX2_tell 47 = .ok (.ldc 167, 2) := by decide +kernel
theorem dX2_tell_49 : decode cX2_tell 49 = .ok (.invokespecial 58, 3) := by decide +kernel
theorem dX2_tell_52 : decode cX2_tell 52 = .ok (.athrow, 1) := by decide +kernel
theorem dX2_tell_53 : decode cX2_tell 53 = .ok (.iload_n 1, 1) := by decide +kernel
theorem dX2_tell_54 : decode cX2_tell 54 = .ok (.iload_n 2, 1) := by decide +kernel
theorem dX2_tell_55 : decode cX2_tell 55 = .ok (.iload_n 3, 1) := by decide +kernel
theorem dX2_tell_56 : decode cX2_tell 56 = .ok (.invokestatic 154, 3) := by decide +kernel
theorem dX2_tell_59 : decode cX2_tell 59 = .ok (.istore 5, 2) := by decide +kernel
theorem dX2_tell_61 : decode cX2_tell 61 = .ok (.aload_n 0, 1) := by decide +kernel
theorem dX2_tell_62 : decode cX2_tell 62 = .ok (.getfield 33, 3) := by decide +kernel
theorem dX2_tell_65 : decode cX2_tell 65 = .ok (.iload 5, 2) := by decide +kernel
theorem dX2_tell_67 : decode cX2_tell 67 = .ok (.iaload, 1) := by decide +kernel
theorem dX2_tell_68 : decode cX2_tell 68 = .ok (.istore 6, 2) := by decide +kernel
theorem dX2_tell_70 : decode cX2_tell 70 = .ok (.aload_n 0, 1) := by decide +kernel
theorem dX2_tell_71 : decode cX2_tell 71 = .ok (.getfield 33, 3) := by decide +kernel
theorem dX2_tell_74 : decode cX2_tell 74 = .ok (.iload 5, 2) := by decide +kernel
theorem dX2_tell_76 : decode cX2_tell 76 = .ok (.iload 4, 2) := by decide +kernel
theorem dX2_tell_78 : decode cX2_tell 78 = .ok (.iastore, 1) := by decide +kernel
theorem dX2_tell_79 : decode cX2_tell 79 = .ok (.iload 6, 2) := by decide +kernel
theorem dX2_tell_81 : decode cX2_tell 81 = .ok (.ireturn, 1) := by decide +kernel
set_option maxRecDepth 20000 in
theorem ggX2_setPenalty_X2_isWithin : GoodIn wsX2_setPenalty wsX2_isWithin := goodIn_r _ [8] (by decide +kernel) (by decide +kernel)
set_option maxRecDepth 20000 in
theorem gX2_setPenalty_X2_isWithin : GoodIn wsX2_setPenalty (va_wsS RX2 50 yX2_isWithin wsX2_isWithin) := goodIn_app (goodIn_of _ (by decide +kernel)) ggX2_setPenalty_X2_isWithin
theorem dX2_setPenalty_0 : decode cX2_setPenalty 0 = .ok (.iload_n 1, 1) := by decide +kernel
theorem dX2_setPenalty_1 : decode cX2_setPenalty 1 = .ok (.iconst 0, 1) := by decide +kernel
theorem dX2_setPenalty_2 : decode cX2_setPenalty 2 = .ok (.sipush 1000, 3) := by decide +kernel
theorem dX2_setPenalty_5 : decode cX2_setPenalty 5 = .ok (.invokestatic 50, 3) := by decide +kernel
theorem dX2_setPenalty_8 : decode cX2_setPenalty 8 = .ok (.ifCond .eq 14, 3) := by decide +kernel
theorem dX2_setPenalty_11 : decode cX2_setPenalty 11 = .ok (.iload_n 2, 1) := by decide +kernel
theorem dX2_setPenalty_12 : decode cX2_setPenalty 12 = .ok (.iconst 0, 1) := by decide +kernel
theorem dX2_setPenalty_13 : decode cX2_setPenalty 13 = .ok (.sipush 200, 3) := by decide +kernel
theorem dX2_setPenalty_16 : decode cX2_setPenalty 16 = .ok (.invokestatic 50, 3) := by decide +kernel
theorem dX2_setPenalty_19 : decode cX2_setPenalty 19 = .ok (.ifCond .ne 13, 3) := by decide +kernel
theorem dX2_setPenalty_22 : decode cX2_setPenalty 22 = .ok (.new 54, 3) := by decide +kernel
theorem dX2_setPenalty_25 : decode cX2_setPenalty 25 = .ok (.dup, 1) := by decide +kernel
theorem dX2_setPenalty_26 : decode cX2_setPenalty 26 = .ok (.ldc 169, 2) := by decide +kernel
theorem dX2_setPenalty_28 : decode cX2_setPenalty 28 = .ok (.invokespecial 58, 3) := by decide +kernel
theorem dX2_setPenalty_31 : decode cX2_setPenalty 31 = .ok (.athrow, 1) := by decide +kernel
theorem dX2_setPenalty_32 : decode cX2_setPenalty 32 = .ok (.aload_n 0, 1) := by decide +kernel
theorem dX2_setPenalty_33 : decode cX2_setPenalty 33 = .ok (.iload_n 1, 1) := by decide +kernel
theorem dX2_setPenalty_34 : decode cX2_setPenalty 34 = .ok (.putfield 44, 3) := by decide +kernel
theorem dX2_setPenalty_37 : decode cX2_setPenalty 37 = .ok (.aload_n 0, 1) := by decide +kernel
theorem dX2_setPenalty_38 : decode cX2_setPenalty 38 = .ok (.iload_n 2, 1) := by decide +kernel
theorem dX2_setPenalty_39 : decode cX2_setPenalty 39 = .ok (.putfield 47, 3) := by decide +kernel
theorem dX2_setPenalty_42 : decode cX2_setPenalty 42 = .ok (.return_, 1) := by decide +kernel
set_option maxRecDepth 20000 in
theorem ggX2_lack_X2_isParty : GoodIn wsX2_lack wsX2_isParty := goodIn_r _ [6, 7, 8, 5, 9] (by decide +kernel) (by decide +kernel)
set_option maxRecDepth 20000 in
theorem gX2_lack_X2_isParty : GoodIn wsX2_lack (va_wsS RX2 76 yX2_isParty wsX2_isParty) := goodIn_app (goodIn_of _ (by decide +kernel)) ggX2_lack_X2_isParty
set_option maxRecDepth 20000 in
theorem ggX2_lack_X2_isYear : GoodIn wsX2_lack wsX2_isYear := goodIn_r _ [12, 7, 8, 5, 9] (by decide +kernel) (by decide +kernel)
set_option maxRecDepth 20000 in
theorem gX2_lack_X2_isYear : GoodIn wsX2_lack (va_wsS RX2 108 yX2_isYear wsX2_isYear) := goodIn_app (goodIn_of _ (by decide +kernel)) ggX2_lack_X2_isYear
set_option maxRecDepth 20000 in
theorem ggX2_lack_X2_lackOf : GoodIn wsX2_lack wsX2_lackOf := goodIn_r _ [16, 17, 18, 19, 20, 21, 5, 22, 23, 24, 25, 26, 27, 28, 29, 30, 31, 32, 33, 34, 35] (by decide +kernel) (by decide +kernel)
set_option maxRecDepth 20000 in
theorem gX2_lack_X2_lackOf : GoodIn wsX2_lack (wsV RX2 171 RX2 yX2_lackOf wsX2_lackOf) := goodIn_app (goodIn_of _ (by decide +kernel)) ggX2_lack_X2_lackOf
theorem dX2_lack_0 : decode cX2_lack 0 = .ok (.iload_n 1, 1) := by decide +kernel
theorem dX2_lack_1 : decode cX2_lack 1 = .ok (.invokestatic 76, 3) := by decide +kernel
theorem dX2_lack_4 : decode cX2_lack 4 = .ok (.ifCond .eq 10, 3) := by decide +kernel
theorem dX2_lack_7 : decode cX2_lack 7 = .ok (.iload_n 2, 1) := by decide +kernel
theorem dX2_lack_8 : decode cX2_lack 8 = .ok (.invokestatic 108, 3) := by decide +kernel
theorem dX2_lack_11 : decode cX2_lack 11 = .ok (.ifCond .ne 13, 3) := by decide +kernel
theorem dX2_lack_14 : decode cX2_lack 14 = .ok (.new 80, 3) := by decide +kernel
theorem dX2_lack_17 : decode cX2_lack 17 = .ok (.dup, 1) := by decide +kernel
theorem dX2_lack_18 : decode cX2_lack 18 = .ok (.ldc 143, 2) := by decide +kernel
theorem dX2_lack_20 : decode cX2_lack 20 = .ok (.invokespecial 84, 3) := by decide +kernel
theorem dX2_lack_23 : decode cX2_lack 23 = .ok (.athrow, 1) := by decide +kernel
theorem dX2_lack_24 : decode cX2_lack 24 = .ok (.aload_n 0, 1) := by decide +kernel
theorem dX2_lack_25 : decode cX2_lack 25 = .ok (.iload_n 1, 1) := by decide +kernel
theorem dX2_lack_26 : decode cX2_lack 26 = .ok (.iload_n 2, 1) := by decide +kernel
theorem dX2_lack_27 : decode cX2_lack 27 = .ok (.invokevirtual 171, 3) := by decide +kernel
theorem dX2_lack_30 : decode cX2_lack 30 = .ok (.ireturn, 1) := by decide +kernel
set_option maxRecDepth 20000 in
theorem ggX2_penalty_X2_isParty : GoodIn wsX2_penalty wsX2_isParty := goodIn_r _ [6, 7, 8, 5, 9] (by decide +kernel) (by decide +kernel)
set_option maxRecDepth 20000 in
theorem gX2_penalty_X2_isParty : GoodIn wsX2_penalty (va_wsS RX2 76 yX2_isParty wsX2_isParty) := goodIn_app (goodIn_of _ (by decide +kernel)) ggX2_penalty_X2_isParty
set_option maxRecDepth 20000 in
theorem ggX2_penalty_X2_isYear : GoodIn wsX2_penalty wsX2_isYear := goodIn_r _ [12, 7, 8, 5, 9] (by decide +kernel) (by decide +kernel)
set_option maxRecDepth 20000 in
theorem gX2_penalty_X2_isYear : GoodIn wsX2_penalty (va_wsS RX2 108 yX2_isYear wsX2_isYear) := goodIn_app (goodIn_of _ (by decide +kernel)) ggX2_penalty_X2_isYear
set_option maxRecDepth 20000 in
theorem ggX2_penalty_X2_penaltyOf : GoodIn wsX2_penalty wsX2_penaltyOf := goodIn_r _ [16, 17, 18, 19, 20, 21, 22, 23, 24, 25, 26, 27, 28, 29, 30, 5, 31, 32, 33, 34, 35, 36, 37, 38, 39, 40, 41, 42, 43, 44, 45, 46, 47, 48, 49, 50] (by decide +kernel) (by decide +kernel)
set_option maxRecDepth 20000 in
theorem gX2_penalty_X2_penaltyOf : GoodIn wsX2_penalty (wsV RX2 174 RX2 yX2_penaltyOf wsX2_penaltyOf) := goodIn_app (goodIn_of _ (by decide +kernel)) ggX2_penalty_X2_penaltyOf
theorem dX2_penalty_0 : decode cX2_penalty 0 = .ok (.iload_n 1, 1) := by decide +kernel
theorem dX2_penalty_1 : decode cX2_penalty 1 = .ok (.invokestatic 76, 3) := by decide +kernel
theorem dX2_penalty_4 : decode cX2_penalty 4 = .ok (.ifCond .eq 10, 3) := by decide +kernel
theorem dX2_penalty_7 : decode cX2_penalty 7 = .ok (.iload_n 2, 1) := by decide +kernel
theorem dX2_penalty_8 : decode cX2_penalty 8 = .ok (.invokestatic 108, 3) := by decide +kernel
theorem dX2_penalty_11 : decode cX2_penalty 11 = .ok (.ifCond .ne 13, 3) := by decide +kernel
theorem dX2_penalty_14 : decode cX2_penalty 14 = .ok (.new 80, 3) := by decide +kernel
theorem dX2_penalty_17 : decode cX2_penalty 17 = .ok (.dup, 1) := by decide +kernel
theorem dX2_penalty_18 : decode cX2_penalty 18 = .ok (.ldc 143, 2) := by decide +kernel
theorem dX2_penalty_20 : decode cX2_penalty 20 = .ok (.invokespecial 84, 3) := by decide +kernel
theorem dX2_penalty_23 : decode cX2_penalty 23 = .ok (.athrow, 1) := by decide +kernel
theorem dX2_penalty_24 : decode cX2_penalty 24 = .ok (.aload_n 0, 1) := by decide +kernel
theorem dX2_penalty_25 : decode cX2_penalty 25 = .ok (.iload_n 1, 1) := by decide +kernel
theorem dX2_penalty_26 : decode cX2_penalty 26 = .ok (.iload_n 2, 1) := by decide +kernel
theorem dX2_penalty_27 : decode cX2_penalty 27 = .ok (.invokevirtual 174, 3) := by decide +kernel
theorem dX2_penalty_30 : decode cX2_penalty 30 = .ok (.ireturn, 1) := by decide +kernel
set_option maxRecDepth 20000 in
theorem ggX2_penalties_X2_penaltyOf : GoodIn wsX2_penalties wsX2_penaltyOf := goodIn_r _ [5, 6, 7, 8, 9, 10, 11, 12, 13, 14, 15, 16, 17, 18, 19, 4, 20, 21, 22, 23, 24, 25, 26, 27, 28, 29, 30, 31, 32, 33, 34, 35, 36, 37, 38, 39] (by decide +kernel) (by decide +kernel)
set_option maxRecDepth 20000 in
theorem gX2_penalties_X2_penaltyOf : GoodIn wsX2_penalties (wsV RX2 174 RX2 yX2_penaltyOf wsX2_penaltyOf) := goodIn_app (goodIn_of _ (by decide +kernel)) ggX2_penalties_X2_penaltyOf
theorem dX2_penalties_0 : decode cX2_penalties 0 = .ok (.lconst 0, 1) := by decide +kernel
theorem dX2_penalties_1 : decode cX2_penalties 1 = .ok (.lstore_n 1, 1) := by decide +kernel
theorem dX2_penalties_2 : decode cX2_penalties 2 = .ok (.iconst 0, 1) := by decide +kernel
theorem dX2_penalties_3 : decode cX2_penalties 3 = .ok (.istore_n 3, 1) := by decide +kernel
theorem dX2_penalties_4 : decode cX2_penalties 4 = .ok (.iload_n 3, 1) := by decide +kernel
theorem dX2_penalties_5 : decode cX2_penalties 5 = .ok (.iconst 5, 1) := by decide +kernel
theorem dX2_penalties_6 : decode cX2_penalties 6 = .ok (.if_icmp .ge 36, 3) := by decide +kernel
theorem dX2_penalties_9 : decode cX2_penalties 9 = .ok (.iconst 0, 1) := by decide +kernel
theorem dX2_penalties_10 : decode cX2_penalties 10 = .ok (.istore 4, 2) := by decide +kernel
theorem dX2_penalties_12 : decode cX2_penalties 12 = .ok (.iload 4, 2) := by decide +kernel
theorem dX2_penalties_14 : decode cX2_penalties 14 = .ok (.bipush 8, 2) := by decide +kernel
theorem dX2_penalties_16 : decode cX2_penalties 16 = .ok (.if_icmp .ge 20, 3) := by decide +kernel
theorem dX2_penalties_19 : decode cX2_penalties 19 = .ok (.lload_n 1, 1) := by decide +kernel
theorem dX2_penalties_20 : decode cX2_penalties 20 = .ok (.aload_n 0, 1) := by decide +kernel
theorem dX2_penalties_21 : decode cX2_penalties 21 = .ok (.iload_n 3, 1) := by decide +kernel
theorem dX2_penalties_22 : decode cX2_penalties 22 = .ok (.iload 4, 2) := by decide +kernel
theorem dX2_penalties_24 : decode cX2_penalties 24 = .ok (.invokevirtual 174, 3) := by decide +kernel
theorem dX2_penalties_27 : decode cX2_penalties 27 = .ok (.i2l, 1) := by decide +kernel
theorem dX2_penalties_28 : decode cX2_penalties 28 = .ok (.ladd, 1) := by decide +kernel
theorem dX2_penalties_29 : decode cX2_penalties 29 = .ok (.lstore_n 1, 1) := by decide +kernel
theorem dX2_penalties_30 : decode cX2_penalties 30 = .ok (.iinc 4 1, 3) := by decide +kernel
theorem dX2_penalties_33 : decode cX2_penalties 33 = .ok (.goto (-21), 3) := by decide +kernel
theorem dX2_penalties_36 : decode cX2_penalties 36 = .ok (.iinc 3 1, 3) := by decide +kernel
theorem dX2_penalties_39 : decode cX2_penalties 39 = .ok (.goto (-35), 3) := by decide +kernel
theorem dX2_penalties_42 : decode cX2_penalties 42 = .ok (.lload_n 1, 1) := by decide +kernel
theorem dX2_penalties_43 : decode cX2_penalties 43 = .ok (.lreturn, 1) := by decide +kernel
theorem dX2_isWithin_0 : decode cX2_isWithin 0 = .ok (.iload_n 0, 1) := by decide +kernel
theorem dX2_isWithin_1 : decode cX2_isWithin 1 = .ok (.iload_n 1, 1) := by decide +kernel
theorem dX2_isWithin_2 : decode cX2_isWithin 2 = .ok (.if_icmp .lt 12, 3) := by decide +kernel
theorem dX2_isWithin_5 : decode cX2_isWithin 5 = .ok (.iload_n 0, 1) := by decide +kernel
theorem dX2_isWithin_6 : decode cX2_isWithin 6 = .ok (.iload_n 2, 1) := by decide +kernel
theorem dX2_isWithin_7 : decode cX2_isWithin 7 = .ok (.if_icmp .gt 7, 3) := by decide +kernel
theorem dX2_isWithin_10 : decode cX2_isWithin 10 = .ok (.iconst 1, 1) := by decide +kernel
theorem dX2_isWithin_11 : decode cX2_isWithin 11 = .ok (.goto 4, 3) := by decide +kernel
theorem dX2_isWithin_14 : decode cX2_isWithin 14 = .ok (.iconst 0, 1) := by decide +kernel
theorem dX2_isWithin_15 : decode cX2_isWithin 15 = .ok (.ireturn, 1) := by decide +kernel
set_option maxRecDepth 20000 in
theorem ggX2_isParty_X2_isWithin : GoodIn wsX2_isParty wsX2_isWithin := goodIn_r _ [4] (by decide +kernel) (by decide +kernel)
set_option maxRecDepth 20000 in
theorem gX2_isParty_X2_isWithin : GoodIn wsX2_isParty (va_wsS RX2 50 yX2_isWithin wsX2_isWithin) := goodIn_app (goodIn_of _ (by decide +kernel)) ggX2_isParty_X2_isWithin
theorem dX2_isParty_0 : decode cX2_isParty 0 = .ok (.iload_n 0, 1) := by decide +kernel
theorem dX2_isParty_1 : decode cX2_isParty 1 = .ok (.iconst 0, 1) := by decide +kernel
theorem dX2_isParty_2 : decode cX2_isParty 2 = .ok (.iconst 4, 1) := by decide +kernel
theorem dX2_isParty_3 : decode cX2_isParty 3 = .ok (.invokestatic 50, 3) := by decide +kernel
theorem dX2_isParty_6 : decode cX2_isParty 6 = .ok (.ireturn, 1) := by decide +kernel
set_option maxRecDepth 20000 in
theorem ggX2_isYear_X2_isWithin : GoodIn wsX2_isYear wsX2_isWithin := goodIn_r _ [4] (by decide +kernel) (by decide +kernel)
set_option maxRecDepth 20000 in
theorem gX2_isYear_X2_isWithin : GoodIn wsX2_isYear (va_wsS RX2 50 yX2_isWithin wsX2_isWithin) := goodIn_app (goodIn_of _ (by decide +kernel)) ggX2_isYear_X2_isWithin
theorem dX2_isYear_0 : decode cX2_isYear 0 = .ok (.iload_n 0, 1) := by decide +kernel
theorem dX2_isYear_1 : decode cX2_isYear 1 = .ok (.iconst 0, 1) := by decide +kernel
theorem dX2_isYear_2 : decode cX2_isYear 2 = .ok (.bipush 7, 2) := by decide +kernel
theorem dX2_isYear_4 : decode cX2_isYear 4 = .ok (.invokestatic 50, 3) := by decide +kernel
theorem dX2_isYear_7 : decode cX2_isYear 7 = .ok (.ireturn, 1) := by decide +kernel
set_option maxRecDepth 20000 in
theorem ggX2_isHour_X2_isWithin : GoodIn wsX2_isHour wsX2_isWithin := goodIn_r _ [4] (by decide +kernel) (by decide +kernel)
set_option maxRecDepth 20000 in
theorem gX2_isHour_X2_isWithin : GoodIn wsX2_isHour (va_wsS RX2 50 yX2_isWithin wsX2_isWithin) := goodIn_app (goodIn_of _ (by decide +kernel)) ggX2_isHour_X2_isWithin
theorem dX2_isHour_0 : decode cX2_isHour 0 = .ok (.iload_n 0, 1) := by decide +kernel
theorem dX2_isHour_1 : decode cX2_isHour 1 = .ok (.iconst 0, 1) := by decide +kernel
theorem dX2_isHour_2 : decode cX2_isHour 2 = .ok (.bipush 11, 2) := by decide +kernel
theorem dX2_isHour_4 : decode cX2_isHour 4 = .ok (.invokestatic 50, 3) := by decide +kernel
theorem dX2_isHour_7 : decode cX2_isHour 7 = .ok (.ireturn, 1) := by decide +kernel
theorem dX2_yearCell_0 : decode cX2_yearCell 0 = .ok (.iload_n 0, 1) := by decide +kernel
theorem dX2_yearCell_1 : decode cX2_yearCell 1 = .ok (.bipush 8, 2) := by decide +kernel
theorem dX2_yearCell_3 : decode cX2_yearCell 3 = .ok (.imul, 1) := by decide +kernel
theorem dX2_yearCell_4 : decode cX2_yearCell 4 = .ok (.iload_n 1, 1) := by decide +kernel
theorem dX2_yearCell_5 : decode cX2_yearCell 5 = .ok (.iadd, 1) := by decide +kernel
theorem dX2_yearCell_6 : decode cX2_yearCell 6 = .ok (.ireturn, 1) := by decide +kernel
set_option maxRecDepth 20000 in
theorem ggX2_hourCell_X2_yearCell : GoodIn wsX2_hourCell wsX2_yearCell := goodIn_r _ [4] (by decide +kernel) (by decide +kernel)
set_option maxRecDepth 20000 in
theorem gX2_hourCell_X2_yearCell : GoodIn wsX2_hourCell (va_wsS RX2 145 yX2_yearCell wsX2_yearCell) := goodIn_app (goodIn_of _ (by decide +kernel)) ggX2_hourCell_X2_yearCell
theorem dX2_hourCell_0 : decode cX2_hourCell 0 = .ok (.iload_n 0, 1) := by decide +kernel
theorem dX2_hourCell_1 : decode cX2_hourCell 1 = .ok (.iload_n 1, 1) := by decide +kernel
theorem dX2_hourCell_2 : decode cX2_hourCell 2 = .ok (.invokestatic 145, 3) := by decide +kernel
theorem dX2_hourCell_5 : decode cX2_hourCell 5 = .ok (.bipush 12, 2) := by decide +kernel
theorem dX2_hourCell_7 : decode cX2_hourCell 7 = .ok (.imul, 1) := by decide +kernel
theorem dX2_hourCell_8 : decode cX2_hourCell 8 = .ok (.iload_n 2, 1) := by decide +kernel
theorem dX2_hourCell_9 : decode cX2_hourCell 9 = .ok (.iadd, 1) := by decide +kernel
theorem dX2_hourCell_10 : decode cX2_hourCell 10 = .ok (.ireturn, 1) := by decide +kernel
set_option maxRecDepth 20000 in
theorem ggX2_take_X2_yearCell : GoodIn wsX2_take wsX2_yearCell := goodIn_r _ [15] (by decide +kernel) (by decide +kernel)
set_option maxRecDepth 20000 in
theorem gX2_take_X2_yearCell : GoodIn wsX2_take (va_wsS RX2 145 yX2_yearCell wsX2_yearCell) := goodIn_app (goodIn_of _ (by decide +kernel)) ggX2_take_X2_yearCell
set_option maxRecDepth 20000 in
theorem ggX2_take_X2_hourCell : GoodIn wsX2_take wsX2_hourCell := goodIn_r _ [18, 12, 13, 14, 15] (by decide +kernel) (by decide +kernel)
set_option maxRecDepth 20000 in
theorem gX2_take_X2_hourCell : GoodIn wsX2_take (va_wsS RX2 154 yX2_hourCell wsX2_hourCell) := goodIn_app (goodIn_of _ (by decide +kernel)) ggX2_take_X2_hourCell
theorem dX2_take_0 : decode cX2_take 0 = .ok (.aload_n 0, 1) := by decide +kernel
theorem dX2_take_1 : decode cX2_take 1 = .ok (.getfield 19, 3) := by decide +kernel
theorem dX2_take_4 : decode cX2_take 4 = .ok (.getfield 177, 3) := by decide +kernel
theorem dX2_take_7 : decode cX2_take 7 = .ok (.iload_n 1, 1) := by decide +kernel
theorem dX2_take_8 : decode cX2_take 8 = .ok (.iaload, 1) := by decide +kernel
theorem dX2_take_9 : decode cX2_take 9 = .ok (.istore 4, 2) := by decide +kernel
theorem dX2_take_11 : decode cX2_take 11 = .ok (.aload_n 0, 1) := by decide +kernel
theorem dX2_take_12 : decode cX2_take 12 = .ok (.getfield 19, 3) := by decide +kernel
theorem dX2_take_15 : decode cX2_take 15 = .ok (.getfield 180, 3) := by decide +kernel
theorem dX2_take_18 : decode cX2_take 18 = .ok (.iload_n 1, 1) := by decide +kernel
theorem dX2_take_19 : decode cX2_take 19 = .ok (.iaload, 1) := by decide +kernel
theorem dX2_take_20 : decode cX2_take 20 = .ok (.istore 5, 2) := by decide +kernel
theorem dX2_take_22 : decode cX2_take 22 = .ok (.iload_n 2, 1) := by decide +kernel
theorem dX2_take_23 : decode cX2_take 23 = .ok (.aload_n 0, 1) := by decide +kernel
theorem dX2_take_24 : decode cX2_take 24 = .ok (.getfield 19, 3) := by decide +kernel
theorem dX2_take_27 : decode cX2_take 27 = .ok (.getfield 183, 3) := by decide +kernel
theorem dX2_take_30 : decode cX2_take 30 = .ok (.iload_n 1, 1) := by decide +kernel
theorem dX2_take_31 : decode cX2_take 31 = .ok (.iaload, 1) := by decide +kernel
theorem dX2_take_32 : decode cX2_take 32 = .ok (.iadd, 1) := by decide +kernel
theorem dX2_take_33 : decode cX2_take 33 = .ok (.bipush 8, 2) := by decide +kernel
theorem dX2_take_35 : decode cX2_take 35 = .ok (.invokestatic 186, 3) := by decide +kernel
theorem dX2_take_38 : decode cX2_take 38 = .ok (.istore 6, 2) := by decide +kernel
theorem dX2_take_40 : decode cX2_take 40 = .ok (.iload_n 2, 1) := by decide +kernel
theorem dX2_take_41 : decode cX2_take 41 = .ok (.istore 7, 2) := by decide +kernel
theorem dX2_take_43 : decode cX2_take 43 = .ok (.iload 7, 2) := by decide +kernel
theorem dX2_take_45 : decode cX2_take 45 = .ok (.iload 6, 2) := by decide +kernel
theorem dX2_take_47 : decode cX2_take 47 = .ok (.if_icmp .ge 75, 3) := by decide +kernel
theorem dX2_take_50 : decode cX2_take 50 = .ok (.aload_n 0, 1) := by decide +kernel
theorem dX2_take_51 : decode cX2_take 51 = .ok (.getfield 23, 3) := by decide +kernel
theorem dX2_take_54 : decode cX2_take 54 = .ok (.iload 7, 2) := by decide +kernel
theorem dX2_take_56 : decode cX2_take 56 = .ok (.dup2, 1) := by decide +kernel
theorem dX2_take_57 : decode cX2_take 57 = .ok (.iaload, 1) := by decide +kernel
theorem dX2_take_58 : decode cX2_take 58 = .ok (.iload 5, 2) := by decide +kernel
theorem dX2_take_60 : decode cX2_take 60 = .ok (.iadd, 1) := by decide +kernel
theorem dX2_take_61 : decode cX2_take 61 = .ok (.iastore, 1) := by decide +kernel
theorem dX2_take_62 : decode cX2_take 62 = .ok (.aload_n 0, 1) := by decide +kernel
theorem dX2_take_63 : decode cX2_take 63 = .ok (.getfield 27, 3) := by decide +kernel
theorem dX2_take_66 : decode cX2_take 66 = .ok (.iload 4, 2) := by decide +kernel
theorem dX2_take_68 : decode cX2_take 68 = .ok (.iload 7, 2) := by decide +kernel
theorem dX2_take_70 : decode cX2_take 70 = .ok (.invokestatic 145, 3) := by decide +kernel
theorem dX2_take_73 : decode cX2_take 73 = .ok (.dup2, 1) := by decide +kernel
theorem dX2_take_74 : decode cX2_take 74 = .ok (.iaload, 1) := by decide +kernel
theorem dX2_take_75 : decode cX2_take 75 = .ok (.iload 5, 2) := by decide +kernel
theorem dX2_take_77 : decode cX2_take 77 = .ok (.iload_n 3, 1) := by decide +kernel
theorem dX2_take_78 : decode cX2_take 78 = .ok (.imul, 1) := by decide +kernel
theorem dX2_take_79 : decode cX2_take 79 = .ok (.iadd, 1) := by decide +kernel
theorem dX2_take_80 : decode cX2_take 80 = .ok (.iastore, 1) := by decide +kernel
theorem dX2_take_81 : decode cX2_take 81 = .ok (.iconst 0, 1) := by decide +kernel
theorem dX2_take_82 : decode cX2_take 82 = .ok (.istore 8, 2) := by decide +kernel
theorem dX2_take_84 : decode cX2_take 84 = .ok (.iload 8, 2) := by decide +kernel
theorem dX2_take_86 : decode cX2_take 86 = .ok (.bipush 12, 2) := by decide +kernel
theorem dX2_take_88 : decode cX2_take 88 = .ok (.if_icmp .ge 28, 3) := by decide +kernel
theorem dX2_take_91 : decode cX2_take 91 = .ok (.aload_n 0, 1) := by decide +kernel
theorem dX2_take_92 : decode cX2_take 92 = .ok (.getfield 30, 3) := by decide +kernel
theorem dX2_take_95 : decode cX2_take 95 = .ok (.iload 4, 2) := by decide +kernel
theorem dX2_take_97 : decode cX2_take 97 = .ok (.iload 7, 2) := by decide +kernel
theorem dX2_take_99 : decode cX2_take 99 = .ok (.iload 8, 2) := by decide +kernel
theorem dX2_take_101 : decode cX2_take 101 = .ok (.invokestatic 154, 3) := by decide +kernel
theorem dX2_take_104 : decode cX2_take 104 = .ok (.dup2, 1) := by decide +kernel
theorem dX2_take_105 : decode cX2_take 105 = .ok (.iaload, 1) := by decide +kernel
theorem dX2_take_106 : decode cX2_take 106 = .ok (.iload 5, 2) := by decide +kernel
theorem dX2_take_108 : decode cX2_take 108 = .ok (.iadd, 1) := by decide +kernel
theorem dX2_take_109 : decode cX2_take 109 = .ok (.iastore, 1) := by decide +kernel
theorem dX2_take_110 : decode cX2_take 110 = .ok (.iinc 8 1, 3) := by decide +kernel
theorem dX2_take_113 : decode cX2_take 113 = .ok (.goto (-29), 3) := by decide +kernel
theorem dX2_take_116 : decode cX2_take 116 = .ok (.iinc 7 1, 3) := by decide +kernel
theorem dX2_take_119 : decode cX2_take 119 = .ok (.goto (-76), 3) := by decide +kernel
theorem dX2_take_122 : decode cX2_take 122 = .ok (.return_, 1) := by decide +kernel
set_option maxRecDepth 20000 in
theorem ggX2_leastObligation_X2_hourCell : GoodIn wsX2_leastObligation wsX2_hourCell := goodIn_r _ [9, 10, 11, 8, 12] (by decide +kernel) (by decide +kernel)
set_option maxRecDepth 20000 in
theorem gX2_leastObligation_X2_hourCell : GoodIn wsX2_leastObligation (va_wsS RX2 154 yX2_hourCell wsX2_hourCell) := goodIn_app (goodIn_of _ (by decide +kernel)) ggX2_leastObligation_X2_hourCell
theorem dX2_leastObligation_0 : decode cX2_leastObligation 0 = .ok (.aload_n 0, 1) := by decide +kernel
theorem dX2_leastObligation_1 : decode cX2_leastObligation 1 = .ok (.getfield 30, 3) := by decide +kernel
theorem dX2_leastObligation_4 : decode cX2_leastObligation 4 = .ok (.iload_n 1, 1) := by decide +kernel
theorem dX2_leastObligation_5 : decode cX2_leastObligation 5 = .ok (.iload_n 2, 1) := by decide +kernel
theorem dX2_leastObligation_6 : decode cX2_leastObligation 6 = .ok (.iload_n 3, 1) := by decide +kernel
theorem dX2_leastObligation_7 : decode cX2_leastObligation 7 = .ok (.invokestatic 154, 3) := by decide +kernel
theorem dX2_leastObligation_10 : decode cX2_leastObligation 10 = .ok (.iaload, 1) := by decide +kernel
theorem dX2_leastObligation_11 : decode cX2_leastObligation 11 = .ok (.istore 5, 2) := by decide +kernel
theorem dX2_leastObligation_13 : decode cX2_leastObligation 13 = .ok (.iload_n 3, 1) := by decide +kernel
theorem dX2_leastObligation_14 : decode cX2_leastObligation 14 = .ok (.iconst 1, 1) := by decide +kernel
theorem dX2_leastObligation_15 : decode cX2_leastObligation 15 = .ok (.iadd, 1) := by decide +kernel
theorem dX2_leastObligation_16 : decode cX2_leastObligation 16 = .ok (.istore 6, 2) := by decide +kernel
theorem dX2_leastObligation_18 : decode cX2_leastObligation 18 = .ok (.iload 6, 2) := by decide +kernel
theorem dX2_leastObligation_20 : decode cX2_leastObligation 20 = .ok (.iload 4, 2) := by decide +kernel
theorem dX2_leastObligation_22 : decode cX2_leastObligation 22 = .ok (.if_icmp .gt 28, 3) := by decide +kernel
theorem dX2_leastObligation_25 : decode cX2_leastObligation 25 = .ok (.iload 5, 2) := by decide +kernel
theorem dX2_leastObligation_27 : decode cX2_leastObligation 27 = .ok (.aload_n 0, 1) := by decide +kernel
theorem dX2_leastObligation_28 : decode cX2_leastObligation 28 = .ok (.getfield 30, 3) := by decide +kernel
theorem dX2_leastObligation_31 : decode cX2_leastObligation 31 = .ok (.iload_n 1, 1) := by decide +kernel
theorem dX2_leastObligation_32 : decode cX2_leastObligation 32 = .ok (.iload_n 2, 1) := by decide +kernel
theorem dX2_leastObligation_33 : decode cX2_leastObligation 33 = .ok (.iload 6, 2) := by decide +kernel
theorem dX2_leastObligation_35 : decode cX2_leastObligation 35 = .ok (.invokestatic 154, 3) := by decide +kernel
theorem dX2_leastObligation_38 : decode cX2_leastObligation 38 = .ok (.iaload, 1) := by decide +kernel
theorem dX2_leastObligation_39 : decode cX2_leastObligation 39 = .ok (.invokestatic 186, 3) := by decide +kernel
theorem dX2_leastObligation_42 : decode cX2_leastObligation 42 = .ok (.istore 5, 2) := by decide +kernel
theorem dX2_leastObligation_44 : decode cX2_leastObligation 44 = .ok (.iinc 6 1, 3) := by decide +kernel
theorem dX2_leastObligation_47 : decode cX2_leastObligation 47 = .ok (.goto (-29), 3) := by decide +kernel
theorem dX2_leastObligation_50 : decode cX2_leastObligation 50 = .ok (.iload 5, 2) := by decide +kernel
theorem dX2_leastObligation_52 : decode cX2_leastObligation 52 = .ok (.ireturn, 1) := by decide +kernel
set_option maxRecDepth 20000 in
theorem ggX2_lackOf_X2_hourCell : GoodIn wsX2_lackOf wsX2_hourCell := goodIn_r _ [7, 8, 9, 6, 10] (by decide +kernel) (by decide +kernel)
set_option maxRecDepth 20000 in
theorem gX2_lackOf_X2_hourCell : GoodIn wsX2_lackOf (va_wsS RX2 154 yX2_hourCell wsX2_hourCell) := goodIn_app (goodIn_of _ (by decide +kernel)) ggX2_lackOf_X2_hourCell
theorem dX2_lackOf_0 : decode cX2_lackOf 0 = .ok (.iconst 0, 1) := by decide +kernel
theorem dX2_lackOf_1 : decode cX2_lackOf 1 = .ok (.istore_n 3, 1) := by decide +kernel
theorem dX2_lackOf_2 : decode cX2_lackOf 2 = .ok (.iconst 0, 1) := by decide +kernel
theorem dX2_lackOf_3 : decode cX2_lackOf 3 = .ok (.istore 4, 2) := by decide +kernel
theorem dX2_lackOf_5 : decode cX2_lackOf 5 = .ok (.iload 4, 2) := by decide +kernel
theorem dX2_lackOf_7 : decode cX2_lackOf 7 = .ok (.bipush 12, 2) := by decide +kernel
theorem dX2_lackOf_9 : decode cX2_lackOf 9 = .ok (.if_icmp .ge 51, 3) := by decide +kernel
theorem dX2_lackOf_12 : decode cX2_lackOf 12 = .ok (.aload_n 0, 1) := by decide +kernel
theorem dX2_lackOf_13 : decode cX2_lackOf 13 = .ok (.getfield 36, 3) := by decide +kernel
theorem dX2_lackOf_16 : decode cX2_lackOf 16 = .ok (.iload_n 2, 1) := by decide +kernel
theorem dX2_lackOf_17 : decode cX2_lackOf 17 = .ok (.bipush 12, 2) := by decide +kernel
theorem dX2_lackOf_19 : decode cX2_lackOf 19 = .ok (.imul, 1) := by decide +kernel
theorem dX2_lackOf_20 : decode cX2_lackOf 20 = .ok (.iload 4, 2) := by decide +kernel
theorem dX2_lackOf_22 : decode cX2_lackOf 22 = .ok (.iadd, 1) := by decide +kernel
theorem dX2_lackOf_23 : decode cX2_lackOf 23 = .ok (.baload, 1) := by decide +kernel
theorem dX2_lackOf_24 : decode cX2_lackOf 24 = .ok (.ifCond .eq 30, 3) := by decide +kernel
theorem dX2_lackOf_27 : decode cX2_lackOf 27 = .ok (.iload_n 1, 1) := by decide +kernel
theorem dX2_lackOf_28 : decode cX2_lackOf 28 = .ok (.iload_n 2, 1) := by decide +kernel
theorem dX2_lackOf_29 : decode cX2_lackOf 29 = .ok (.iload 4, 2) := by decide +kernel
theorem dX2_lackOf_31 : decode cX2_lackOf 31 = .ok (.invokestatic 154, 3) := by decide +kernel
theorem dX2_lackOf_34 : decode cX2_lackOf 34 = .ok (.istore 5, 2) := by decide +kernel
theorem dX2_lackOf_36 : decode cX2_lackOf 36 = .ok (.iload_n 3, 1) := by decide +kernel
theorem dX2_lackOf_37 : decode cX2_lackOf 37 = .ok (.aload_n 0, 1) := by decide +kernel
theorem dX2_lackOf_38 : decode cX2_lackOf 38 = .ok (.getfield 30, 3) := by decide +kernel
theorem dX2_lackOf_41 : decode cX2_lackOf 41 = .ok (.iload 5, 2) := by decide +kernel
theorem dX2_lackOf_43 : decode cX2_lackOf 43 = .ok (.iaload, 1) := by decide +kernel
theorem dX2_lackOf_44 : decode cX2_lackOf 44 = .ok (.aload_n 0, 1) := by decide +kernel
theorem dX2_lackOf_45 : decode cX2_lackOf 45 = .ok (.getfield 33, 3) := by decide +kernel
theorem dX2_lackOf_48 : decode cX2_lackOf 48 = .ok (.iload 5, 2) := by decide +kernel
theorem dX2_lackOf_50 : decode cX2_lackOf 50 = .ok (.iaload, 1) := by decide +kernel
theorem dX2_lackOf_51 : decode cX2_lackOf 51 = .ok (.isub, 1) := by decide +kernel
theorem dX2_lackOf_52 : decode cX2_lackOf 52 = .ok (.iadd, 1) := by decide +kernel
theorem dX2_lackOf_53 : decode cX2_lackOf 53 = .ok (.istore_n 3, 1) := by decide +kernel
theorem dX2_lackOf_54 : decode cX2_lackOf 54 = .ok (.iinc 4 1, 3) := by decide +kernel
theorem dX2_lackOf_57 : decode cX2_lackOf 57 = .ok (.goto (-52), 3) := by decide +kernel
theorem dX2_lackOf_60 : decode cX2_lackOf 60 = .ok (.iload_n 3, 1) := by decide +kernel
theorem dX2_lackOf_61 : decode cX2_lackOf 61 = .ok (.ireturn, 1) := by decide +kernel
set_option maxRecDepth 20000 in
theorem ggX2_penaltyOf_X2_lackOf : GoodIn wsX2_penaltyOf wsX2_lackOf := goodIn_r _ [16, 17, 18, 19, 20, 21, 15, 22, 23, 24, 25, 26, 27, 28, 29, 30, 31, 32, 33, 34, 35] (by decide +kernel) (by decide +kernel)
set_option maxRecDepth 20000 in
theorem gX2_penaltyOf_X2_lackOf : GoodIn wsX2_penaltyOf (wsV RX2 171 RX2 yX2_lackOf wsX2_lackOf) := goodIn_app (goodIn_of _ (by decide +kernel)) ggX2_penaltyOf_X2_lackOf
set_option maxRecDepth 20000 in
theorem ggX2_penaltyOf_X2_yearCell : GoodIn wsX2_penaltyOf wsX2_yearCell := goodIn_r _ [25] (by decide +kernel) (by decide +kernel)
set_option maxRecDepth 20000 in
theorem gX2_penaltyOf_X2_yearCell : GoodIn wsX2_penaltyOf (va_wsS RX2 145 yX2_yearCell wsX2_yearCell) := goodIn_app (goodIn_of _ (by decide +kernel)) ggX2_penaltyOf_X2_yearCell
theorem dX2_penaltyOf_0 : decode cX2_penaltyOf 0 = .ok (.aload_n 0, 1) := by decide +kernel
theorem dX2_penaltyOf_1 : decode cX2_penaltyOf 1 = .ok (.iload_n 1, 1) := by decide +kernel
theorem dX2_penaltyOf_2 : decode cX2_penaltyOf 2 = .ok (.iload_n 2, 1) := by decide +kernel
theorem dX2_penaltyOf_3 : decode cX2_penaltyOf 3 = .ok (.invokevirtual 171, 3) := by decide +kernel
theorem dX2_penaltyOf_6 : decode cX2_penaltyOf 6 = .ok (.i2l, 1) := by decide +kernel
theorem dX2_penaltyOf_7 : decode cX2_penaltyOf 7 = .ok (.aload_n 0, 1) := by decide +kernel
theorem dX2_penaltyOf_8 : decode cX2_penaltyOf 8 = .ok (.getfield 44, 3) := by decide +kernel
theorem dX2_penaltyOf_11 : decode cX2_penaltyOf 11 = .ok (.i2l, 1) := by decide +kernel
theorem dX2_penaltyOf_12 : decode cX2_penaltyOf 12 = .ok (.lmul, 1) := by decide +kernel
theorem dX2_penaltyOf_13 : decode cX2_penaltyOf 13 = .ok (.lstore_n 3, 1) := by decide +kernel
theorem dX2_penaltyOf_14 : decode cX2_penaltyOf 14 = .ok (.aload_n 0, 1) := by decide +kernel
theorem dX2_penaltyOf_15 : decode cX2_penaltyOf 15 = .ok (.getfield 27, 3) := by decide +kernel
theorem dX2_penaltyOf_18 : decode cX2_penaltyOf 18 = .ok (.iload_n 1, 1) := by decide +kernel
theorem dX2_penaltyOf_19 : decode cX2_penaltyOf 19 = .ok (.iload_n 2, 1) := by decide +kernel
theorem dX2_penaltyOf_20 : decode cX2_penaltyOf 20 = .ok (.invokestatic 145, 3) := by decide +kernel
theorem dX2_penaltyOf_23 : decode cX2_penaltyOf 23 = .ok (.iaload, 1) := by decide +kernel
theorem dX2_penaltyOf_24 : decode cX2_penaltyOf 24 = .ok (.i2l, 1) := by decide +kernel
theorem dX2_penaltyOf_25 : decode cX2_penaltyOf 25 = .ok (.aload_n 0, 1) := by decide +kernel
theorem dX2_penaltyOf_26 : decode cX2_penaltyOf 26 = .ok (.getfield 47, 3) := by decide +kernel
theorem dX2_penaltyOf_29 : decode cX2_penaltyOf 29 = .ok (.i2l, 1) := by decide +kernel
theorem dX2_penaltyOf_30 : decode cX2_penaltyOf 30 = .ok (.lmul, 1) := by decide +kernel
theorem dX2_penaltyOf_31 : decode cX2_penaltyOf 31 = .ok (.ldc2_w 191, 3) := by decide +kernel
theorem dX2_penaltyOf_34 : decode cX2_penaltyOf 34 = .ok (.ldiv, 1) := by decide +kernel
theorem dX2_penaltyOf_35 : decode cX2_penaltyOf 35 = .ok (.lstore 5, 2) := by decide +kernel
theorem dX2_penaltyOf_37 : decode cX2_penaltyOf 37 = .ok (.lconst 0, 1) := by decide +kernel
theorem dX2_penaltyOf_38 : decode cX2_penaltyOf 38 = .ok (.lload_n 3, 1) := by decide +kernel
theorem dX2_penaltyOf_39 : decode cX2_penaltyOf 39 = .ok (.lload 5, 2) := by decide +kernel
theorem dX2_penaltyOf_41 : decode cX2_penaltyOf 41 = .ok (.invokestatic 193, 3) := by decide +kernel
theorem dX2_penaltyOf_44 : decode cX2_penaltyOf 44 = .ok (.invokestatic 196, 3) := by decide +kernel
theorem dX2_penaltyOf_47 : decode cX2_penaltyOf 47 = .ok (.l2i, 1) := by decide +kernel
theorem dX2_penaltyOf_48 : decode cX2_penaltyOf 48 = .ok (.ireturn, 1) := by decide +kernel
theorem dJ9_max_7cf53_0 : decode cJ9_max_7cf53 0 = .ok (.iload_n 0, 1) := by decide +kernel
theorem dJ9_max_7cf53_1 : decode cJ9_max_7cf53 1 = .ok (.iload_n 1, 1) := by decide +kernel
theorem dJ9_max_7cf53_2 : decode cJ9_max_7cf53 2 = .ok (.if_icmp .lt 7, 3) := by decide +kernel
theorem dJ9_max_7cf53_5 : decode cJ9_max_7cf53 5 = .ok (.iload_n 0, 1) := by decide +kernel
theorem dJ9_max_7cf53_6 : decode cJ9_max_7cf53 6 = .ok (.goto 4, 3) := by decide +kernel
theorem dJ9_max_7cf53_9 : decode cJ9_max_7cf53 9 = .ok (.iload_n 1, 1) := by decide +kernel
theorem dJ9_max_7cf53_10 : decode cJ9_max_7cf53 10 = .ok (.ireturn, 1) := by decide +kernel
theorem dJ9_max_f86c9_0 : decode cJ9_max_f86c9 0 = .ok (.lload_n 0, 1) := by decide +kernel
theorem dJ9_max_f86c9_1 : decode cJ9_max_f86c9 1 = .ok (.lload_n 2, 1) := by decide +kernel
theorem dJ9_max_f86c9_2 : decode cJ9_max_f86c9 2 = .ok (.lcmp, 1) := by decide +kernel
theorem dJ9_max_f86c9_3 : decode cJ9_max_f86c9 3 = .ok (.ifCond .lt 7, 3) := by decide +kernel
theorem dJ9_max_f86c9_6 : decode cJ9_max_f86c9 6 = .ok (.lload_n 0, 1) := by decide +kernel
theorem dJ9_max_f86c9_7 : decode cJ9_max_f86c9 7 = .ok (.goto 4, 3) := by decide +kernel
theorem dJ9_max_f86c9_10 : decode cJ9_max_f86c9 10 = .ok (.lload_n 2, 1) := by decide +kernel
theorem dJ9_max_f86c9_11 : decode cJ9_max_f86c9 11 = .ok (.lreturn, 1) := by decide +kernel
theorem dJ9_min_7cf53_0 : decode cJ9_min_7cf53 0 = .ok (.iload_n 0, 1) := by decide +kernel
theorem dJ9_min_7cf53_1 : decode cJ9_min_7cf53 1 = .ok (.iload_n 1, 1) := by decide +kernel
theorem dJ9_min_7cf53_2 : decode cJ9_min_7cf53 2 = .ok (.if_icmp .gt 7, 3) := by decide +kernel
theorem dJ9_min_7cf53_5 : decode cJ9_min_7cf53 5 = .ok (.iload_n 0, 1) := by decide +kernel
theorem dJ9_min_7cf53_6 : decode cJ9_min_7cf53 6 = .ok (.goto 4, 3) := by decide +kernel
theorem dJ9_min_7cf53_9 : decode cJ9_min_7cf53 9 = .ok (.iload_n 1, 1) := by decide +kernel
theorem dJ9_min_7cf53_10 : decode cJ9_min_7cf53 10 = .ok (.ireturn, 1) := by decide +kernel
theorem dJ9_min_f86c9_0 : decode cJ9_min_f86c9 0 = .ok (.lload_n 0, 1) := by decide +kernel
theorem dJ9_min_f86c9_1 : decode cJ9_min_f86c9 1 = .ok (.lload_n 2, 1) := by decide +kernel
theorem dJ9_min_f86c9_2 : decode cJ9_min_f86c9 2 = .ok (.lcmp, 1) := by decide +kernel
theorem dJ9_min_f86c9_3 : decode cJ9_min_f86c9 3 = .ok (.ifCond .gt 7, 3) := by decide +kernel
theorem dJ9_min_f86c9_6 : decode cJ9_min_f86c9 6 = .ok (.lload_n 0, 1) := by decide +kernel
theorem dJ9_min_f86c9_7 : decode cJ9_min_f86c9 7 = .ok (.goto 4, 3) := by decide +kernel
theorem dJ9_min_f86c9_10 : decode cJ9_min_f86c9 10 = .ok (.lload_n 2, 1) := by decide +kernel
theorem dJ9_min_f86c9_11 : decode cJ9_min_f86c9 11 = .ok (.lreturn, 1) := by decide +kernel
end
section
theorem dL_cell_0 : decode cL_cell 0 = .ok (.iload_n 1, 1) := by decide +kernel
theorem dL_cell_1 : decode cL_cell 1 = .ok (.aload_n 0, 1) := by decide +kernel
theorem dL_cell_2 : decode cL_cell 2 = .ok (.arraylength, 1) := by decide +kernel
theorem dL_cell_3 : decode cL_cell 3 = .ok (.if_icmp .ge 9, 3) := by decide +kernel
theorem dL_cell_6 : decode cL_cell 6 = .ok (.aload_n 0, 1) := by decide +kernel
theorem dL_cell_7 : decode cL_cell 7 = .ok (.iload_n 1, 1) := by decide +kernel
theorem dL_cell_8 : decode cL_cell 8 = .ok (.iaload, 1) := by decide +kernel
theorem dL_cell_9 : decode cL_cell 9 = .ok (.goto 15, 3) := by decide +kernel
theorem dL_cell_12 : decode cL_cell 12 = .ok (.ldc 7, 2) := by decide +kernel
theorem dL_cell_14 : decode cL_cell 14 = .ok (.iload_n 1, 1) := by decide +kernel
theorem dL_cell_15 : decode cL_cell 15 = .ok (.sipush 6121, 3) := by decide +kernel
theorem dL_cell_18 : decode cL_cell 18 = .ok (.irem, 1) := by decide +kernel
theorem dL_cell_19 : decode cL_cell 19 = .ok (.imul, 1) := by decide +kernel
theorem dL_cell_20 : decode cL_cell 20 = .ok (.sipush 4007, 3) := by decide +kernel
theorem dL_cell_23 : decode cL_cell 23 = .ok (.iadd, 1) := by decide +kernel
theorem dL_cell_24 : decode cL_cell 24 = .ok (.ldc 8, 2) := by decide +kernel
theorem dL_cell_26 : decode cL_cell 26 = .ok (.iand, 1) := by decide +kernel
theorem dL_cell_27 : decode cL_cell 27 = .ok (.ireturn, 1) := by decide +kernel
set_option maxRecDepth 20000 in
theorem ggL_demand_X2_setDemand : GoodIn wsL_demand wsX2_setDemand := goodIn_ca (goodIn_r _ [6, 7, 8, 9, 10, 11, 5, 12, 13, 14, 15, 16, 17, 18, 19, 20, 21, 22, 23, 24, 25, 26, 27, 28, 29, 30, 31, 32, 33, 34, 35, 36, 37, 38, 39] (by decide +kernel) (by decide +kernel)) (goodIn_sub (fun _ h => List.mem_cons_of_mem _ (List.mem_append_right _ h)) (by decide +kernel))
set_option maxRecDepth 20000 in
theorem gL_demand_X2_setDemand : GoodIn wsL_demand (wsV RL 9 RX2 yX2_setDemand wsX2_setDemand) := goodIn_app (goodIn_of _ (by decide +kernel)) ggL_demand_X2_setDemand
theorem dL_demand_0 : decode cL_demand 0 = .ok (.aload_n 0, 1) := by decide +kernel
theorem dL_demand_1 : decode cL_demand 1 = .ok (.iload_n 1, 1) := by decide +kernel
theorem dL_demand_2 : decode cL_demand 2 = .ok (.iload_n 2, 1) := by decide +kernel
theorem dL_demand_3 : decode cL_demand 3 = .ok (.iload_n 3, 1) := by decide +kernel
theorem dL_demand_4 : decode cL_demand 4 = .ok (.invokevirtual 9, 3) := by decide +kernel
theorem dL_demand_7 : decode cL_demand 7 = .ok (.goto 8, 3) := by decide +kernel
theorem dL_demand_10 : decode cL_demand 10 = .ok (.astore 4, 2) := by decide +kernel
theorem dL_demand_12 : decode cL_demand 12 = .ok (.bipush (-102), 2) := by decide +kernel
theorem dL_demand_14 : decode cL_demand 14 = .ok (.ireturn, 1) := by decide +kernel
theorem dL_demand_15 : decode cL_demand 15 = .ok (.iconst 0, 1) := by decide +kernel
theorem dL_demand_16 : decode cL_demand 16 = .ok (.ireturn, 1) := by decide +kernel
set_option maxRecDepth 20000 in
theorem ggL_value_X2_value : GoodIn wsL_value wsX2_value := goodIn_ca (goodIn_r _ [6, 7, 8, 9, 10, 11, 5, 12, 13, 14, 15, 16, 17, 18, 19, 20, 21, 22, 23, 24, 25, 26, 27, 28, 29, 30, 31, 32, 33, 34] (by decide +kernel) (by decide +kernel)) (goodIn_sub (fun _ h => List.mem_cons_of_mem _ (List.mem_append_right _ h)) (by decide +kernel))
set_option maxRecDepth 20000 in
theorem gL_value_X2_value : GoodIn wsL_value (wsV RL 17 RX2 yX2_value wsX2_value) := goodIn_app (goodIn_of _ (by decide +kernel)) ggL_value_X2_value
theorem dL_value_0 : decode cL_value 0 = .ok (.aload_n 0, 1) := by decide +kernel
theorem dL_value_1 : decode cL_value 1 = .ok (.iload_n 1, 1) := by decide +kernel
theorem dL_value_2 : decode cL_value 2 = .ok (.invokevirtual 17, 3) := by decide +kernel
theorem dL_value_5 : decode cL_value 5 = .ok (.ireturn, 1) := by decide +kernel
theorem dL_value_6 : decode cL_value 6 = .ok (.astore_n 2, 1) := by decide +kernel
theorem dL_value_7 : decode cL_value 7 = .ok (.bipush (-102), 2) := by decide +kernel
theorem dL_value_9 : decode cL_value 9 = .ok (.ireturn, 1) := by decide +kernel
set_option maxRecDepth 20000 in
theorem ggL_worth_X2_worth : GoodIn wsL_worth wsX2_worth := goodIn_ca (goodIn_r _ [6, 7, 8, 9, 10, 11, 5, 12, 13, 14, 15, 16, 17, 18, 19, 20, 21, 22, 23, 24, 25, 26, 27, 28, 29, 30, 31, 32, 33, 34, 35, 36, 37, 38, 39] (by decide +kernel) (by decide +kernel)) (goodIn_sub (fun _ h => List.mem_cons_of_mem _ (List.mem_append_right _ h)) (by decide +kernel))
set_option maxRecDepth 20000 in
theorem gL_worth_X2_worth : GoodIn wsL_worth (wsV RL 21 RX2 yX2_worth wsX2_worth) := goodIn_app (goodIn_of _ (by decide +kernel)) ggL_worth_X2_worth
theorem dL_worth_0 : decode cL_worth 0 = .ok (.aload_n 0, 1) := by decide +kernel
theorem dL_worth_1 : decode cL_worth 1 = .ok (.iload_n 1, 1) := by decide +kernel
theorem dL_worth_2 : decode cL_worth 2 = .ok (.invokevirtual 21, 3) := by decide +kernel
theorem dL_worth_5 : decode cL_worth 5 = .ok (.ireturn, 1) := by decide +kernel
theorem dL_worth_6 : decode cL_worth 6 = .ok (.astore_n 2, 1) := by decide +kernel
theorem dL_worth_7 : decode cL_worth 7 = .ok (.bipush (-102), 2) := by decide +kernel
theorem dL_worth_9 : decode cL_worth 9 = .ok (.ireturn, 1) := by decide +kernel
set_option maxRecDepth 20000 in
theorem ggL_offer_X2_offer : GoodIn wsL_offer wsX2_offer := goodIn_ca (goodIn_ca (goodIn_ca (goodIn_r _ [8, 9, 10, 11, 12, 13, 14, 15, 16, 17, 7, 18, 19, 20, 21, 22, 23, 24, 25, 26, 27, 28, 29, 30, 31, 32, 33, 34, 35, 36, 37, 38, 39, 40, 41, 42, 43, 44, 45, 46, 47, 48, 49, 50, 51, 52, 53] (by decide +kernel) (by decide +kernel)) (goodIn_sub (fun _ h => List.mem_cons_of_mem _ (List.mem_append_left _ (List.mem_append_left _ (List.mem_append_right _ h)))) (by decide +kernel))) (goodIn_sub (fun _ h => List.mem_cons_of_mem _ (List.mem_append_left _ (List.mem_append_right _ h))) (by decide +kernel))) (goodIn_sub (fun _ h => List.mem_cons_of_mem _ (List.mem_append_right _ h)) (by decide +kernel))
set_option maxRecDepth 20000 in
theorem gL_offer_X2_offer : GoodIn wsL_offer (wsV RL 24 RX2 yX2_offer wsX2_offer) := goodIn_app (goodIn_of _ (by decide +kernel)) ggL_offer_X2_offer
theorem dL_offer_0 : decode cL_offer 0 = .ok (.aload_n 0, 1) := by decide +kernel
theorem dL_offer_1 : decode cL_offer 1 = .ok (.iload_n 1, 1) := by decide +kernel
theorem dL_offer_2 : decode cL_offer 2 = .ok (.iload_n 2, 1) := by decide +kernel
theorem dL_offer_3 : decode cL_offer 3 = .ok (.iload_n 3, 1) := by decide +kernel
theorem dL_offer_4 : decode cL_offer 4 = .ok (.iload 4, 2) := by decide +kernel
theorem dL_offer_6 : decode cL_offer 6 = .ok (.iload 5, 2) := by decide +kernel
theorem dL_offer_8 : decode cL_offer 8 = .ok (.invokevirtual 24, 3) := by decide +kernel
theorem dL_offer_11 : decode cL_offer 11 = .ok (.ireturn, 1) := by decide +kernel
theorem dL_offer_12 : decode cL_offer 12 = .ok (.astore 6, 2) := by decide +kernel
theorem dL_offer_14 : decode cL_offer 14 = .ok (.bipush (-101), 2) := by decide +kernel
theorem dL_offer_16 : decode cL_offer 16 = .ok (.ireturn, 1) := by decide +kernel
theorem dL_offer_17 : decode cL_offer 17 = .ok (.astore 6, 2) := by decide +kernel
theorem dL_offer_19 : decode cL_offer 19 = .ok (.bipush (-102), 2) := by decide +kernel
theorem dL_offer_21 : decode cL_offer 21 = .ok (.ireturn, 1) := by decide +kernel
theorem dL_offer_22 : decode cL_offer 22 = .ok (.astore 6, 2) := by decide +kernel
theorem dL_offer_24 : decode cL_offer 24 = .ok (.bipush (-103), 2) := by decide +kernel
theorem dL_offer_26 : decode cL_offer 26 = .ok (.ireturn, 1) := by decide +kernel
set_option maxRecDepth 20000 in
theorem ggL_supply_X2_supply : GoodIn wsL_supply wsX2_supply := goodIn_ca (goodIn_r _ [6, 7, 8, 9, 10, 11, 5, 12, 13, 14, 15, 16, 17, 18, 19, 20, 21, 22, 23, 24, 25, 26, 27, 28, 29, 30, 31, 32, 33, 34, 35, 36, 37] (by decide +kernel) (by decide +kernel)) (goodIn_sub (fun _ h => List.mem_cons_of_mem _ (List.mem_append_right _ h)) (by decide +kernel))
set_option maxRecDepth 20000 in
theorem gL_supply_X2_supply : GoodIn wsL_supply (wsV RL 32 RX2 yX2_supply wsX2_supply) := goodIn_app (goodIn_of _ (by decide +kernel)) ggL_supply_X2_supply
theorem dL_supply_0 : decode cL_supply 0 = .ok (.aload_n 0, 1) := by decide +kernel
theorem dL_supply_1 : decode cL_supply 1 = .ok (.iload_n 1, 1) := by decide +kernel
theorem dL_supply_2 : decode cL_supply 2 = .ok (.invokevirtual 32, 3) := by decide +kernel
theorem dL_supply_5 : decode cL_supply 5 = .ok (.ireturn, 1) := by decide +kernel
theorem dL_supply_6 : decode cL_supply 6 = .ok (.astore_n 2, 1) := by decide +kernel
theorem dL_supply_7 : decode cL_supply 7 = .ok (.bipush (-102), 2) := by decide +kernel
theorem dL_supply_9 : decode cL_supply 9 = .ok (.ireturn, 1) := by decide +kernel
set_option maxRecDepth 20000 in
theorem ggL_clearing_X2_clearing : GoodIn wsL_clearing wsX2_clearing := goodIn_ca (goodIn_r _ [6, 7, 8, 9, 10, 11, 12, 13, 5, 14, 15, 16, 17, 18, 19, 20, 21, 22, 23, 24, 25, 26, 27, 28, 29, 30, 31, 32, 33, 34, 35, 36, 37, 38, 39, 40, 41, 42, 43, 44, 45, 46, 47, 48, 49, 50, 51, 52, 53, 54, 55, 56, 57, 58, 59, 60, 61, 62, 63, 64] (by decide +kernel) (by decide +kernel)) (goodIn_sub (fun _ h => List.mem_cons_of_mem _ (List.mem_append_right _ h)) (by decide +kernel))
set_option maxRecDepth 20000 in
theorem gL_clearing_X2_clearing : GoodIn wsL_clearing (wsV RL 35 RX2 yX2_clearing wsX2_clearing) := goodIn_app (goodIn_of _ (by decide +kernel)) ggL_clearing_X2_clearing
theorem dL_clearing_0 : decode cL_clearing 0 = .ok (.aload_n 0, 1) := by decide +kernel
theorem dL_clearing_1 : decode cL_clearing 1 = .ok (.iload_n 1, 1) := by decide +kernel
theorem dL_clearing_2 : decode cL_clearing 2 = .ok (.invokevirtual 35, 3) := by decide +kernel
theorem dL_clearing_5 : decode cL_clearing 5 = .ok (.ireturn, 1) := by decide +kernel
theorem dL_clearing_6 : decode cL_clearing 6 = .ok (.astore_n 2, 1) := by decide +kernel
theorem dL_clearing_7 : decode cL_clearing 7 = .ok (.bipush (-101), 2) := by decide +kernel
theorem dL_clearing_9 : decode cL_clearing 9 = .ok (.ireturn, 1) := by decide +kernel
set_option maxRecDepth 20000 in
theorem ggL_clock_X2_clearingByClock : GoodIn wsL_clock wsX2_clearingByClock := goodIn_ca (goodIn_r _ [6, 7, 8, 9, 10, 11, 12, 13, 5, 14, 15, 16, 17, 18, 19, 20, 21, 22, 23, 24, 25, 26, 27, 28, 29, 30, 31, 32, 33, 34, 35, 36, 37, 38, 39, 40, 41, 42, 43, 44, 45, 46, 47, 48, 49, 50, 51, 52, 53, 54, 55, 56, 57, 58, 59, 60, 61, 62, 63, 64, 65, 66, 67, 68] (by decide +kernel) (by decide +kernel)) (goodIn_sub (fun _ h => List.mem_cons_of_mem _ (List.mem_append_right _ h)) (by decide +kernel))
set_option maxRecDepth 20000 in
theorem gL_clock_X2_clearingByClock : GoodIn wsL_clock (wsV RL 38 RX2 yX2_clearingByClock wsX2_clearingByClock) := goodIn_app (goodIn_of _ (by decide +kernel)) ggL_clock_X2_clearingByClock
theorem dL_clock_0 : decode cL_clock 0 = .ok (.aload_n 0, 1) := by decide +kernel
theorem dL_clock_1 : decode cL_clock 1 = .ok (.iload_n 1, 1) := by decide +kernel
theorem dL_clock_2 : decode cL_clock 2 = .ok (.invokevirtual 38, 3) := by decide +kernel
theorem dL_clock_5 : decode cL_clock 5 = .ok (.ireturn, 1) := by decide +kernel
theorem dL_clock_6 : decode cL_clock 6 = .ok (.astore_n 2, 1) := by decide +kernel
theorem dL_clock_7 : decode cL_clock 7 = .ok (.bipush (-101), 2) := by decide +kernel
theorem dL_clock_9 : decode cL_clock 9 = .ok (.ireturn, 1) := by decide +kernel
set_option maxRecDepth 20000 in
theorem ggL_would_X2_wouldTake : GoodIn wsL_would wsX2_wouldTake := goodIn_ca (goodIn_r _ [6, 7, 8, 9, 10, 11, 12, 13, 14, 15, 16, 17, 18, 19, 5, 20, 21, 22, 23, 24, 25, 26, 27, 28, 29, 30, 31, 32, 33, 34, 35, 36, 37, 38, 39, 40, 41, 42, 43, 44, 45, 46, 47, 48, 49, 50, 51, 52, 53, 54, 55, 56, 57, 58, 59, 60, 61, 62, 63, 64, 65, 66, 67, 68] (by decide +kernel) (by decide +kernel)) (goodIn_sub (fun _ h => List.mem_cons_of_mem _ (List.mem_append_right _ h)) (by decide +kernel))
set_option maxRecDepth 20000 in
theorem gL_would_X2_wouldTake : GoodIn wsL_would (wsV RL 41 RX2 yX2_wouldTake wsX2_wouldTake) := goodIn_app (goodIn_of _ (by decide +kernel)) ggL_would_X2_wouldTake
theorem dL_would_0 : decode cL_would 0 = .ok (.aload_n 0, 1) := by decide +kernel
theorem dL_would_1 : decode cL_would 1 = .ok (.iload_n 1, 1) := by decide +kernel
theorem dL_would_2 : decode cL_would 2 = .ok (.iload_n 2, 1) := by decide +kernel
theorem dL_would_3 : decode cL_would 3 = .ok (.invokevirtual 41, 3) := by decide +kernel
theorem dL_would_6 : decode cL_would 6 = .ok (.ifCond .eq 7, 3) := by decide +kernel
theorem dL_would_9 : decode cL_would 9 = .ok (.iconst 1, 1) := by decide +kernel
theorem dL_would_10 : decode cL_would 10 = .ok (.goto 4, 3) := by decide +kernel
theorem dL_would_13 : decode cL_would 13 = .ok (.iconst 0, 1) := by decide +kernel
theorem dL_would_14 : decode cL_would 14 = .ok (.ireturn, 1) := by decide +kernel
theorem dL_would_15 : decode cL_would 15 = .ok (.astore_n 3, 1) := by decide +kernel
theorem dL_would_16 : decode cL_would 16 = .ok (.bipush (-101), 2) := by decide +kernel
theorem dL_would_18 : decode cL_would 18 = .ok (.ireturn, 1) := by decide +kernel
set_option maxRecDepth 20000 in
theorem ggL_run_X2_run : GoodIn wsL_run wsX2_run := goodIn_ca (goodIn_ca (goodIn_r _ [7, 8, 9, 10, 11, 12, 13, 14, 15, 16, 17, 18, 6, 19, 20, 21, 22, 23, 24, 25, 26, 27, 28, 29, 30, 31, 32, 33, 34, 35, 36, 37, 38, 39, 40, 41, 42, 43, 44, 45, 46, 47, 48, 49, 50, 51, 52, 53, 54, 55, 56, 57, 58, 59, 60, 61, 62, 63, 64, 65, 66, 67, 68, 69, 70, 71, 72, 73, 74, 75, 76, 77, 78, 79, 80, 81, 82, 83, 84, 85, 86, 87, 88, 89] (by decide +kernel) (by decide +kernel)) (goodIn_sub (fun _ h => List.mem_cons_of_mem _ (List.mem_append_left _ (List.mem_append_right _ h))) (by decide +kernel))) (goodIn_sub (fun _ h => List.mem_cons_of_mem _ (List.mem_append_right _ h)) (by decide +kernel))
set_option maxRecDepth 20000 in
theorem gL_run_X2_run : GoodIn wsL_run (wsV RL 45 RX2 yX2_run wsX2_run) := goodIn_app (goodIn_of _ (by decide +kernel)) ggL_run_X2_run
theorem dL_run_0 : decode cL_run 0 = .ok (.aload_n 0, 1) := by decide +kernel
theorem dL_run_1 : decode cL_run 1 = .ok (.iload_n 1, 1) := by decide +kernel
theorem dL_run_2 : decode cL_run 2 = .ok (.invokevirtual 45, 3) := by decide +kernel
theorem dL_run_5 : decode cL_run 5 = .ok (.ireturn, 1) := by decide +kernel
theorem dL_run_6 : decode cL_run 6 = .ok (.astore_n 2, 1) := by decide +kernel
theorem dL_run_7 : decode cL_run 7 = .ok (.bipush (-101), 2) := by decide +kernel
theorem dL_run_9 : decode cL_run 9 = .ok (.ireturn, 1) := by decide +kernel
theorem dL_run_10 : decode cL_run 10 = .ok (.astore_n 2, 1) := by decide +kernel
theorem dL_run_11 : decode cL_run 11 = .ok (.bipush (-103), 2) := by decide +kernel
theorem dL_run_13 : decode cL_run 13 = .ok (.ireturn, 1) := by decide +kernel
set_option maxRecDepth 20000 in
theorem ggL_bought_X2_bought : GoodIn wsL_bought wsX2_bought := goodIn_ca (goodIn_r _ [6, 7, 8, 9, 10, 11, 5, 12, 13, 14, 15, 16, 17, 18, 19, 20, 21, 22, 23, 24, 25] (by decide +kernel) (by decide +kernel)) (goodIn_sub (fun _ h => List.mem_cons_of_mem _ (List.mem_append_right _ h)) (by decide +kernel))
set_option maxRecDepth 20000 in
theorem gL_bought_X2_bought : GoodIn wsL_bought (wsV RL 48 RX2 yX2_bought wsX2_bought) := goodIn_app (goodIn_of _ (by decide +kernel)) ggL_bought_X2_bought
theorem dL_bought_0 : decode cL_bought 0 = .ok (.aload_n 0, 1) := by decide +kernel
theorem dL_bought_1 : decode cL_bought 1 = .ok (.iload_n 1, 1) := by decide +kernel
theorem dL_bought_2 : decode cL_bought 2 = .ok (.invokevirtual 48, 3) := by decide +kernel
theorem dL_bought_5 : decode cL_bought 5 = .ok (.ireturn, 1) := by decide +kernel
theorem dL_bought_6 : decode cL_bought 6 = .ok (.astore_n 2, 1) := by decide +kernel
theorem dL_bought_7 : decode cL_bought 7 = .ok (.bipush (-101), 2) := by decide +kernel
theorem dL_bought_9 : decode cL_bought 9 = .ok (.ireturn, 1) := by decide +kernel
set_option maxRecDepth 20000 in
theorem ggL_income_X2_income : GoodIn wsL_income wsX2_income := goodIn_ca (goodIn_r _ [6, 7, 8, 9, 10, 11, 5, 12, 13, 14, 15, 16, 17, 18, 19, 20, 21, 22, 23, 24, 25, 26, 27, 28, 29, 30, 31] (by decide +kernel) (by decide +kernel)) (goodIn_sub (fun _ h => List.mem_cons_of_mem _ (List.mem_append_right _ h)) (by decide +kernel))
set_option maxRecDepth 20000 in
theorem gL_income_X2_income : GoodIn wsL_income (wsV RL 51 RX2 yX2_income wsX2_income) := goodIn_app (goodIn_of _ (by decide +kernel)) ggL_income_X2_income
theorem dL_income_0 : decode cL_income 0 = .ok (.aload_n 0, 1) := by decide +kernel
theorem dL_income_1 : decode cL_income 1 = .ok (.iload_n 1, 1) := by decide +kernel
theorem dL_income_2 : decode cL_income 2 = .ok (.iload_n 2, 1) := by decide +kernel
theorem dL_income_3 : decode cL_income 3 = .ok (.invokevirtual 51, 3) := by decide +kernel
theorem dL_income_6 : decode cL_income 6 = .ok (.ireturn, 1) := by decide +kernel
theorem dL_income_7 : decode cL_income 7 = .ok (.astore_n 3, 1) := by decide +kernel
theorem dL_income_8 : decode cL_income 8 = .ok (.bipush (-101), 2) := by decide +kernel
theorem dL_income_10 : decode cL_income 10 = .ok (.ireturn, 1) := by decide +kernel
set_option maxRecDepth 20000 in
theorem ggL_obliged_X2_obligation : GoodIn wsL_obliged wsX2_obligation := goodIn_ca (goodIn_r _ [6, 7, 8, 9, 10, 11, 5, 12, 13, 14, 15, 16, 17, 18, 19, 20, 21, 22, 23, 24, 25, 26, 27, 28, 29, 30, 31, 32, 33, 34, 35, 36, 37] (by decide +kernel) (by decide +kernel)) (goodIn_sub (fun _ h => List.mem_cons_of_mem _ (List.mem_append_right _ h)) (by decide +kernel))
set_option maxRecDepth 20000 in
theorem gL_obliged_X2_obligation : GoodIn wsL_obliged (wsV RL 55 RX2 yX2_obligation wsX2_obligation) := goodIn_app (goodIn_of _ (by decide +kernel)) ggL_obliged_X2_obligation
theorem dL_obliged_0 : decode cL_obliged 0 = .ok (.aload_n 0, 1) := by decide +kernel
theorem dL_obliged_1 : decode cL_obliged 1 = .ok (.iload_n 1, 1) := by decide +kernel
theorem dL_obliged_2 : decode cL_obliged 2 = .ok (.iload_n 2, 1) := by decide +kernel
theorem dL_obliged_3 : decode cL_obliged 3 = .ok (.iload_n 3, 1) := by decide +kernel
theorem dL_obliged_4 : decode cL_obliged 4 = .ok (.invokevirtual 55, 3) := by decide +kernel
theorem dL_obliged_7 : decode cL_obliged 7 = .ok (.ireturn, 1) := by decide +kernel
theorem dL_obliged_8 : decode cL_obliged 8 = .ok (.astore 4, 2) := by decide +kernel
theorem dL_obliged_10 : decode cL_obliged 10 = .ok (.bipush (-101), 2) := by decide +kernel
theorem dL_obliged_12 : decode cL_obliged 12 = .ok (.ireturn, 1) := by decide +kernel
set_option maxRecDepth 20000 in
theorem ggL_trade_X2_trade : GoodIn wsL_trade wsX2_trade := goodIn_ca (goodIn_ca (goodIn_ca (goodIn_r _ [8, 9, 10, 11, 12, 13, 14, 15, 16, 17, 18, 7, 19, 20, 21, 22, 23, 24, 25, 26, 27, 28, 29, 30, 31, 32, 33, 34, 35, 36, 37, 38, 39, 40, 41, 42, 43, 44, 45, 46, 47, 48, 49, 50, 51, 52] (by decide +kernel) (by decide +kernel)) (goodIn_sub (fun _ h => List.mem_cons_of_mem _ (List.mem_append_left _ (List.mem_append_left _ (List.mem_append_right _ h)))) (by decide +kernel))) (goodIn_sub (fun _ h => List.mem_cons_of_mem _ (List.mem_append_left _ (List.mem_append_right _ h))) (by decide +kernel))) (goodIn_sub (fun _ h => List.mem_cons_of_mem _ (List.mem_append_right _ h)) (by decide +kernel))
set_option maxRecDepth 20000 in
theorem gL_trade_X2_trade : GoodIn wsL_trade (wsV RL 59 RX2 yX2_trade wsX2_trade) := goodIn_app (goodIn_of _ (by decide +kernel)) ggL_trade_X2_trade
theorem dL_trade_0 : decode cL_trade 0 = .ok (.aload_n 0, 1) := by decide +kernel
theorem dL_trade_1 : decode cL_trade 1 = .ok (.iload_n 1, 1) := by decide +kernel
theorem dL_trade_2 : decode cL_trade 2 = .ok (.iload_n 2, 1) := by decide +kernel
theorem dL_trade_3 : decode cL_trade 3 = .ok (.iload_n 3, 1) := by decide +kernel
theorem dL_trade_4 : decode cL_trade 4 = .ok (.iload 4, 2) := by decide +kernel
theorem dL_trade_6 : decode cL_trade 6 = .ok (.iload 5, 2) := by decide +kernel
theorem dL_trade_8 : decode cL_trade 8 = .ok (.iload 6, 2) := by decide +kernel
theorem dL_trade_10 : decode cL_trade 10 = .ok (.invokevirtual 59, 3) := by decide +kernel
theorem dL_trade_13 : decode cL_trade 13 = .ok (.ireturn, 1) := by decide +kernel
theorem dL_trade_14 : decode cL_trade 14 = .ok (.astore 7, 2) := by decide +kernel
theorem dL_trade_16 : decode cL_trade 16 = .ok (.bipush (-101), 2) := by decide +kernel
theorem dL_trade_18 : decode cL_trade 18 = .ok (.ireturn, 1) := by decide +kernel
theorem dL_trade_19 : decode cL_trade 19 = .ok (.astore 7, 2) := by decide +kernel
theorem dL_trade_21 : decode cL_trade 21 = .ok (.bipush (-102), 2) := by decide +kernel
theorem dL_trade_23 : decode cL_trade 23 = .ok (.ireturn, 1) := by decide +kernel
theorem dL_trade_24 : decode cL_trade 24 = .ok (.astore 7, 2) := by decide +kernel
theorem dL_trade_26 : decode cL_trade 26 = .ok (.bipush (-103), 2) := by decide +kernel
theorem dL_trade_28 : decode cL_trade 28 = .ok (.ireturn, 1) := by decide +kernel
set_option maxRecDepth 20000 in
theorem ggL_stress_X2_stress : GoodIn wsL_stress wsX2_stress := goodIn_ca (goodIn_r _ [6, 7, 8, 9, 10, 11, 5, 12, 13, 14, 15, 16, 17, 18, 19, 20, 21, 22, 23, 24, 25, 26, 27, 28] (by decide +kernel) (by decide +kernel)) (goodIn_sub (fun _ h => List.mem_cons_of_mem _ (List.mem_append_right _ h)) (by decide +kernel))
set_option maxRecDepth 20000 in
theorem gL_stress_X2_stress : GoodIn wsL_stress (wsV RL 63 RX2 yX2_stress wsX2_stress) := goodIn_app (goodIn_of _ (by decide +kernel)) ggL_stress_X2_stress
theorem dL_stress_0 : decode cL_stress 0 = .ok (.aload_n 0, 1) := by decide +kernel
theorem dL_stress_1 : decode cL_stress 1 = .ok (.iload_n 1, 1) := by decide +kernel
theorem dL_stress_2 : decode cL_stress 2 = .ok (.iload_n 2, 1) := by decide +kernel
theorem dL_stress_3 : decode cL_stress 3 = .ok (.invokevirtual 63, 3) := by decide +kernel
theorem dL_stress_6 : decode cL_stress 6 = .ok (.ifCond .eq 7, 3) := by decide +kernel
theorem dL_stress_9 : decode cL_stress 9 = .ok (.iconst 1, 1) := by decide +kernel
theorem dL_stress_10 : decode cL_stress 10 = .ok (.goto 4, 3) := by decide +kernel
theorem dL_stress_13 : decode cL_stress 13 = .ok (.iconst 0, 1) := by decide +kernel
theorem dL_stress_14 : decode cL_stress 14 = .ok (.ireturn, 1) := by decide +kernel
theorem dL_stress_15 : decode cL_stress 15 = .ok (.astore_n 3, 1) := by decide +kernel
theorem dL_stress_16 : decode cL_stress 16 = .ok (.bipush (-101), 2) := by decide +kernel
theorem dL_stress_18 : decode cL_stress 18 = .ok (.ireturn, 1) := by decide +kernel
set_option maxRecDepth 20000 in
theorem ggL_tell_X2_tell : GoodIn wsL_tell wsX2_tell := goodIn_ca (goodIn_ca (goodIn_r _ [7, 8, 9, 10, 11, 12, 13, 14, 6, 15, 16, 17, 18, 19, 20, 21, 22, 23, 24, 25, 26, 27, 28, 29, 30, 31, 32, 33, 34, 35, 36, 37, 38, 39, 40] (by decide +kernel) (by decide +kernel)) (goodIn_sub (fun _ h => List.mem_cons_of_mem _ (List.mem_append_left _ (List.mem_append_right _ h))) (by decide +kernel))) (goodIn_sub (fun _ h => List.mem_cons_of_mem _ (List.mem_append_right _ h)) (by decide +kernel))
set_option maxRecDepth 20000 in
theorem gL_tell_X2_tell : GoodIn wsL_tell (wsV RL 66 RX2 yX2_tell wsX2_tell) := goodIn_app (goodIn_of _ (by decide +kernel)) ggL_tell_X2_tell
theorem dL_tell_0 : decode cL_tell 0 = .ok (.aload_n 0, 1) := by decide +kernel
theorem dL_tell_1 : decode cL_tell 1 = .ok (.iload_n 1, 1) := by decide +kernel
theorem dL_tell_2 : decode cL_tell 2 = .ok (.iload_n 2, 1) := by decide +kernel
theorem dL_tell_3 : decode cL_tell 3 = .ok (.iload_n 3, 1) := by decide +kernel
theorem dL_tell_4 : decode cL_tell 4 = .ok (.iload 4, 2) := by decide +kernel
theorem dL_tell_6 : decode cL_tell 6 = .ok (.invokevirtual 66, 3) := by decide +kernel
theorem dL_tell_9 : decode cL_tell 9 = .ok (.ireturn, 1) := by decide +kernel
theorem dL_tell_10 : decode cL_tell 10 = .ok (.astore 5, 2) := by decide +kernel
theorem dL_tell_12 : decode cL_tell 12 = .ok (.bipush (-101), 2) := by decide +kernel
theorem dL_tell_14 : decode cL_tell 14 = .ok (.ireturn, 1) := by decide +kernel
theorem dL_tell_15 : decode cL_tell 15 = .ok (.astore 5, 2) := by decide +kernel
theorem dL_tell_17 : decode cL_tell 17 = .ok (.bipush (-102), 2) := by decide +kernel
theorem dL_tell_19 : decode cL_tell 19 = .ok (.ireturn, 1) := by decide +kernel
set_option maxRecDepth 20000 in
theorem ggL_setPenalty_X2_setPenalty : GoodIn wsL_setPenalty wsX2_setPenalty := goodIn_ca (goodIn_r _ [6, 7, 8, 9, 10, 11, 12, 5, 13, 14, 15, 16, 17, 18, 19, 20, 21, 22, 23] (by decide +kernel) (by decide +kernel)) (goodIn_sub (fun _ h => List.mem_cons_of_mem _ (List.mem_append_right _ h)) (by decide +kernel))
set_option maxRecDepth 20000 in
theorem gL_setPenalty_X2_setPenalty : GoodIn wsL_setPenalty (wsV RL 70 RX2 yX2_setPenalty wsX2_setPenalty) := goodIn_app (goodIn_of _ (by decide +kernel)) ggL_setPenalty_X2_setPenalty
theorem dL_setPenalty_0 : decode cL_setPenalty 0 = .ok (.aload_n 0, 1) := by decide +kernel
theorem dL_setPenalty_1 : decode cL_setPenalty 1 = .ok (.iload_n 1, 1) := by decide +kernel
theorem dL_setPenalty_2 : decode cL_setPenalty 2 = .ok (.iload_n 2, 1) := by decide +kernel
theorem dL_setPenalty_3 : decode cL_setPenalty 3 = .ok (.invokevirtual 70, 3) := by decide +kernel
theorem dL_setPenalty_6 : decode cL_setPenalty 6 = .ok (.goto 7, 3) := by decide +kernel
theorem dL_setPenalty_9 : decode cL_setPenalty 9 = .ok (.astore_n 3, 1) := by decide +kernel
theorem dL_setPenalty_10 : decode cL_setPenalty 10 = .ok (.bipush (-102), 2) := by decide +kernel
theorem dL_setPenalty_12 : decode cL_setPenalty 12 = .ok (.ireturn, 1) := by decide +kernel
theorem dL_setPenalty_13 : decode cL_setPenalty 13 = .ok (.iconst 0, 1) := by decide +kernel
theorem dL_setPenalty_14 : decode cL_setPenalty 14 = .ok (.ireturn, 1) := by decide +kernel
set_option maxRecDepth 20000 in
theorem ggL_lack_X2_lack : GoodIn wsL_lack wsX2_lack := goodIn_ca (goodIn_r _ [7, 8, 9, 10, 11, 6, 12, 13, 14, 15, 16, 17, 18, 19, 20, 21, 22, 23, 24, 25, 26, 27, 28, 29, 30, 31, 32, 33, 34, 35, 36, 37, 38, 39, 40, 41] (by decide +kernel) (by decide +kernel)) (goodIn_sub (fun _ h => List.mem_cons_of_mem _ (List.mem_append_right _ h)) (by decide +kernel))
set_option maxRecDepth 20000 in
theorem gL_lack_X2_lack : GoodIn wsL_lack (wsV RL 74 RX2 yX2_lack wsX2_lack) := goodIn_app (goodIn_of _ (by decide +kernel)) ggL_lack_X2_lack
theorem dL_lack_0 : decode cL_lack 0 = .ok (.aload_n 0, 1) := by decide +kernel
theorem dL_lack_1 : decode cL_lack 1 = .ok (.iload_n 1, 1) := by decide +kernel
theorem dL_lack_2 : decode cL_lack 2 = .ok (.iload_n 2, 1) := by decide +kernel
theorem dL_lack_3 : decode cL_lack 3 = .ok (.invokevirtual 74, 3) := by decide +kernel
theorem dL_lack_6 : decode cL_lack 6 = .ok (.ireturn, 1) := by decide +kernel
theorem dL_lack_7 : decode cL_lack 7 = .ok (.astore_n 3, 1) := by decide +kernel
theorem dL_lack_8 : decode cL_lack 8 = .ok (.ldc 77, 2) := by decide +kernel
theorem dL_lack_10 : decode cL_lack 10 = .ok (.ireturn, 1) := by decide +kernel
set_option maxRecDepth 20000 in
theorem ggL_penalty_X2_penalty : GoodIn wsL_penalty wsX2_penalty := goodIn_ca (goodIn_r _ [6, 7, 8, 9, 10, 5, 11, 12, 13, 14, 15, 16, 17, 18, 19, 20, 21, 22, 23, 24, 25, 26, 27, 28, 29, 30, 31, 32, 33, 34, 35, 36, 37, 38, 39, 40, 41, 42, 43, 44, 45, 46, 47, 48, 49, 50, 51, 52, 53, 54, 55] (by decide +kernel) (by decide +kernel)) (goodIn_sub (fun _ h => List.mem_cons_of_mem _ (List.mem_append_right _ h)) (by decide +kernel))
set_option maxRecDepth 20000 in
theorem gL_penalty_X2_penalty : GoodIn wsL_penalty (wsV RL 78 RX2 yX2_penalty wsX2_penalty) := goodIn_app (goodIn_of _ (by decide +kernel)) ggL_penalty_X2_penalty
theorem dL_penalty_0 : decode cL_penalty 0 = .ok (.aload_n 0, 1) := by decide +kernel
theorem dL_penalty_1 : decode cL_penalty 1 = .ok (.iload_n 1, 1) := by decide +kernel
theorem dL_penalty_2 : decode cL_penalty 2 = .ok (.iload_n 2, 1) := by decide +kernel
theorem dL_penalty_3 : decode cL_penalty 3 = .ok (.invokevirtual 78, 3) := by decide +kernel
theorem dL_penalty_6 : decode cL_penalty 6 = .ok (.ireturn, 1) := by decide +kernel
theorem dL_penalty_7 : decode cL_penalty 7 = .ok (.astore_n 3, 1) := by decide +kernel
theorem dL_penalty_8 : decode cL_penalty 8 = .ok (.bipush (-101), 2) := by decide +kernel
theorem dL_penalty_10 : decode cL_penalty 10 = .ok (.ireturn, 1) := by decide +kernel
set_option maxRecDepth 20000 in
theorem ggL_isFalling_L_value : GoodIn wsL_isFalling wsL_value := goodIn_ca (goodIn_r _ [4, 5, 6, 7, 8, 9, 10, 11, 12, 13, 14, 15, 16, 17, 18, 19, 20, 21, 22, 23, 24, 44, 45, 46, 47, 48, 49, 50, 51, 52, 53, 54, 55, 56, 57] (by decide +kernel) (by decide +kernel)) (goodIn_sub (fun _ h => List.mem_cons_of_mem _ (List.mem_append_right _ h)) (by decide +kernel))
set_option maxRecDepth 20000 in
theorem gL_isFalling_L_value : GoodIn wsL_isFalling (va_wsS RL 81 yL_value wsL_value) := goodIn_app (goodIn_of _ (by decide +kernel)) ggL_isFalling_L_value
set_option maxRecDepth 20000 in
theorem ggL_isFalling_L_worth : GoodIn wsL_isFalling wsL_worth := goodIn_ca (goodIn_r _ [27, 5, 28, 29, 30, 9, 31, 11, 12, 13, 14, 15, 16, 32, 33, 34, 20, 35, 36, 37, 38, 39, 40, 41, 42, 43, 44, 45, 46, 47, 48, 49, 50, 51, 52, 53, 54, 55, 56, 57] (by decide +kernel) (by decide +kernel)) (goodIn_sub (fun _ h => List.mem_cons_of_mem _ (List.mem_append_right _ h)) (by decide +kernel))
set_option maxRecDepth 20000 in
theorem gL_isFalling_L_worth : GoodIn wsL_isFalling (va_wsS RL 86 yL_worth wsL_worth) := goodIn_app (goodIn_of _ (by decide +kernel)) ggL_isFalling_L_worth
theorem dL_isFalling_0 : decode cL_isFalling 0 = .ok (.aload_n 0, 1) := by decide +kernel
theorem dL_isFalling_1 : decode cL_isFalling 1 = .ok (.iload_n 1, 1) := by decide +kernel
theorem dL_isFalling_2 : decode cL_isFalling 2 = .ok (.invokestatic 81, 3) := by decide +kernel
theorem dL_isFalling_5 : decode cL_isFalling 5 = .ok (.aload_n 0, 1) := by decide +kernel
theorem dL_isFalling_6 : decode cL_isFalling 6 = .ok (.iload_n 1, 1) := by decide +kernel
theorem dL_isFalling_7 : decode cL_isFalling 7 = .ok (.iconst 1, 1) := by decide +kernel
theorem dL_isFalling_8 : decode cL_isFalling 8 = .ok (.iadd, 1) := by decide +kernel
theorem dL_isFalling_9 : decode cL_isFalling 9 = .ok (.invokestatic 81, 3) := by decide +kernel
theorem dL_isFalling_12 : decode cL_isFalling 12 = .ok (.if_icmp .lt 36, 3) := by decide +kernel
theorem dL_isFalling_15 : decode cL_isFalling 15 = .ok (.aload_n 0, 1) := by decide +kernel
theorem dL_isFalling_16 : decode cL_isFalling 16 = .ok (.iload_n 1, 1) := by decide +kernel
theorem dL_isFalling_17 : decode cL_isFalling 17 = .ok (.invokestatic 81, 3) := by decide +kernel
theorem dL_isFalling_20 : decode cL_isFalling 20 = .ok (.ifCond .lt 28, 3) := by decide +kernel
theorem dL_isFalling_23 : decode cL_isFalling 23 = .ok (.aload_n 0, 1) := by decide +kernel
theorem dL_isFalling_24 : decode cL_isFalling 24 = .ok (.iload_n 1, 1) := by decide +kernel
theorem dL_isFalling_25 : decode cL_isFalling 25 = .ok (.invokestatic 86, 3) := by decide +kernel
theorem dL_isFalling_28 : decode cL_isFalling 28 = .ok (.aload_n 0, 1) := by decide +kernel
theorem dL_isFalling_29 : decode cL_isFalling 29 = .ok (.iload_n 1, 1) := by decide +kernel
theorem dL_isFalling_30 : decode cL_isFalling 30 = .ok (.iconst 1, 1) := by decide +kernel
theorem dL_isFalling_31 : decode cL_isFalling 31 = .ok (.isub, 1) := by decide +kernel
theorem dL_isFalling_32 : decode cL_isFalling 32 = .ok (.invokestatic 86, 3) := by decide +kernel
theorem dL_isFalling_35 : decode cL_isFalling 35 = .ok (.aload_n 0, 1) := by decide +kernel
theorem dL_isFalling_36 : decode cL_isFalling 36 = .ok (.iload_n 1, 1) := by decide +kernel
theorem dL_isFalling_37 : decode cL_isFalling 37 = .ok (.invokestatic 81, 3) := by decide +kernel
theorem dL_isFalling_40 : decode cL_isFalling 40 = .ok (.iadd, 1) := by decide +kernel
theorem dL_isFalling_41 : decode cL_isFalling 41 = .ok (.if_icmp .ne 7, 3) := by decide +kernel
theorem dL_isFalling_44 : decode cL_isFalling 44 = .ok (.iconst 1, 1) := by decide +kernel
theorem dL_isFalling_45 : decode cL_isFalling 45 = .ok (.goto 4, 3) := by decide +kernel
theorem dL_isFalling_48 : decode cL_isFalling 48 = .ok (.iconst 0, 1) := by decide +kernel
theorem dL_isFalling_49 : decode cL_isFalling 49 = .ok (.ireturn, 1) := by decide +kernel
set_option maxRecDepth 20000 in
theorem ggL_clears_X2_offers : GoodIn wsL_clears wsX2_offers := goodIn_r _ [5, 6, 7, 106, 107, 108, 109, 110, 111, 112, 113, 114, 115, 116, 117, 118, 119, 120, 121, 122] (by decide +kernel) (by decide +kernel)
set_option maxRecDepth 20000 in
theorem gL_clears_X2_offers : GoodIn wsL_clears (wsV RL 88 RX2 yX2_offers wsX2_offers) := goodIn_app (goodIn_of _ (by decide +kernel)) ggL_clears_X2_offers
set_option maxRecDepth 20000 in
theorem ggL_clears_L_clearing : GoodIn wsL_clears wsL_clearing := goodIn_ca (goodIn_r _ [11, 12, 13, 14, 15, 4, 16, 17, 18, 6, 19, 20, 21, 22, 23, 24, 25, 26, 27, 28, 29, 30, 31, 32, 33, 34, 35, 36, 37, 38, 39, 40, 41, 42, 43, 44, 45, 46, 47, 48, 49, 50, 51, 52, 106, 107, 108, 109, 110, 111, 112, 113, 114, 115, 116, 117, 118, 119, 120, 121, 122, 123, 124, 125, 126] (by decide +kernel) (by decide +kernel)) (goodIn_sub (fun _ h => List.mem_cons_of_mem _ (List.mem_append_left _ (List.mem_append_right _ h))) (by decide +kernel))
set_option maxRecDepth 20000 in
theorem gL_clears_L_clearing : GoodIn wsL_clears (va_wsS RL 92 yL_clearing wsL_clearing) := goodIn_app (goodIn_of _ (by decide +kernel)) ggL_clears_L_clearing
set_option maxRecDepth 20000 in
theorem ggL_clears_L_clock : GoodIn wsL_clears wsL_clock := goodIn_ca (goodIn_r _ [55, 12, 56, 57, 58, 4, 59, 17, 18, 6, 19, 20, 21, 22, 23, 24, 25, 26, 60, 61, 62, 30, 63, 32, 64, 34, 35, 36, 37, 38, 39, 40, 41, 42, 43, 44, 45, 46, 47, 48, 65, 66, 67, 68, 69, 70, 71, 72, 106, 107, 108, 109, 110, 111, 112, 113, 114, 115, 116, 117, 118, 119, 120, 121, 122, 123, 124, 125, 126] (by decide +kernel) (by decide +kernel)) (goodIn_sub (fun _ h => List.mem_cons_of_mem _ (List.mem_append_left _ (List.mem_append_right _ h))) (by decide +kernel))
set_option maxRecDepth 20000 in
theorem gL_clears_L_clock : GoodIn wsL_clears (va_wsS RL 94 yL_clock wsL_clock) := goodIn_app (goodIn_of _ (by decide +kernel)) ggL_clears_L_clock
set_option maxRecDepth 20000 in
theorem ggL_clears_L_bought : GoodIn wsL_clears wsL_bought := goodIn_ca (goodIn_r _ [75, 12, 76, 77, 78, 4, 79, 17, 18, 20, 21, 22, 23, 24, 25, 26, 106, 107, 108, 109, 110, 111, 112, 113, 114, 115] (by decide +kernel) (by decide +kernel)) (goodIn_sub (fun _ h => List.mem_cons_of_mem _ (List.mem_append_left _ (List.mem_append_right _ h))) (by decide +kernel))
set_option maxRecDepth 20000 in
theorem gL_clears_L_bought : GoodIn wsL_clears (va_wsS RL 97 yL_bought wsL_bought) := goodIn_app (goodIn_of _ (by decide +kernel)) ggL_clears_L_bought
set_option maxRecDepth 20000 in
theorem ggL_clears_L_worth : GoodIn wsL_clears wsL_worth := goodIn_ca (goodIn_r _ [82, 83, 84, 85, 86, 4, 87, 88, 89, 19, 24, 25, 26, 90, 37, 38, 39, 40, 41, 42, 43, 44, 45, 46, 47, 48, 106, 107, 108, 109, 110, 111, 112, 113, 114, 115, 123, 124, 125, 126] (by decide +kernel) (by decide +kernel)) (goodIn_sub (fun _ h => List.mem_cons_of_mem _ (List.mem_append_right _ h)) (by decide +kernel))
set_option maxRecDepth 20000 in
theorem gL_clears_L_worth : GoodIn wsL_clears (va_wsS RL 86 yL_worth wsL_worth) := goodIn_app (goodIn_of _ (by decide +kernel)) ggL_clears_L_worth
set_option maxRecDepth 20000 in
theorem ggL_clears_L_would : GoodIn wsL_clears wsL_would := goodIn_ca (goodIn_r _ [93, 12, 94, 95, 96, 4, 97, 17, 18, 6, 19, 20, 98, 99, 100, 30, 101, 32, 21, 22, 23, 24, 25, 26, 27, 28, 29, 31, 33, 34, 35, 36, 37, 38, 39, 40, 41, 42, 43, 44, 45, 46, 47, 48, 102, 103, 104, 105, 106, 107, 108, 109, 110, 111, 112, 113, 114, 115, 116, 117, 118, 119, 120, 121, 122, 123, 124, 125, 126] (by decide +kernel) (by decide +kernel)) (goodIn_sub (fun _ h => List.mem_cons_of_mem _ (List.mem_append_left _ (List.mem_append_right _ h))) (by decide +kernel))
set_option maxRecDepth 20000 in
theorem gL_clears_L_would : GoodIn wsL_clears (va_wsS RL 99 yL_would wsL_would) := goodIn_app (goodIn_of _ (by decide +kernel)) ggL_clears_L_would
theorem dL_clears_0 : decode cL_clears 0 = .ok (.aload_n 0, 1) := by decide +kernel
theorem dL_clears_1 : decode cL_clears 1 = .ok (.invokevirtual 88, 3) := by decide +kernel
theorem dL_clears_4 : decode cL_clears 4 = .ok (.istore 4, 2) := by decide +kernel
theorem dL_clears_6 : decode cL_clears 6 = .ok (.aload_n 0, 1) := by decide +kernel
theorem dL_clears_7 : decode cL_clears 7 = .ok (.iload_n 1, 1) := by decide +kernel
theorem dL_clears_8 : decode cL_clears 8 = .ok (.invokestatic 92, 3) := by decide +kernel
theorem dL_clears_11 : decode cL_clears 11 = .ok (.istore 5, 2) := by decide +kernel
theorem dL_clears_13 : decode cL_clears 13 = .ok (.aload_n 0, 1) := by decide +kernel
theorem dL_clears_14 : decode cL_clears 14 = .ok (.iload_n 1, 1) := by decide +kernel
theorem dL_clears_15 : decode cL_clears 15 = .ok (.invokestatic 94, 3) := by decide +kernel
theorem dL_clears_18 : decode cL_clears 18 = .ok (.iload 5, 2) := by decide +kernel
theorem dL_clears_20 : decode cL_clears 20 = .ok (.if_icmp .ne 7, 3) := by decide +kernel
theorem dL_clears_23 : decode cL_clears 23 = .ok (.iconst 1, 1) := by decide +kernel
theorem dL_clears_24 : decode cL_clears 24 = .ok (.goto 4, 3) := by decide +kernel
theorem dL_clears_27 : decode cL_clears 27 = .ok (.iconst 0, 1) := by decide +kernel
theorem dL_clears_28 : decode cL_clears 28 = .ok (.istore 6, 2) := by decide +kernel
theorem dL_clears_30 : decode cL_clears 30 = .ok (.aload_n 0, 1) := by decide +kernel
theorem dL_clears_31 : decode cL_clears 31 = .ok (.iload_n 1, 1) := by decide +kernel
theorem dL_clears_32 : decode cL_clears 32 = .ok (.invokestatic 97, 3) := by decide +kernel
theorem dL_clears_35 : decode cL_clears 35 = .ok (.istore 7, 2) := by decide +kernel
theorem dL_clears_37 : decode cL_clears 37 = .ok (.aload_n 0, 1) := by decide +kernel
theorem dL_clears_38 : decode cL_clears 38 = .ok (.iload 7, 2) := by decide +kernel
theorem dL_clears_40 : decode cL_clears 40 = .ok (.invokestatic 86, 3) := by decide +kernel
theorem dL_clears_43 : decode cL_clears 43 = .ok (.istore 8, 2) := by decide +kernel
theorem dL_clears_45 : decode cL_clears 45 = .ok (.iconst 0, 1) := by decide +kernel
theorem dL_clears_46 : decode cL_clears 46 = .ok (.istore 9, 2) := by decide +kernel
theorem dL_clears_48 : decode cL_clears 48 = .ok (.iconst 0, 1) := by decide +kernel
theorem dL_clears_49 : decode cL_clears 49 = .ok (.istore 10, 2) := by decide +kernel
theorem dL_clears_51 : decode cL_clears 51 = .ok (.iconst 0, 1) := by decide +kernel
theorem dL_clears_52 : decode cL_clears 52 = .ok (.istore 11, 2) := by decide +kernel
theorem dL_clears_54 : decode cL_clears 54 = .ok (.iload 11, 2) := by decide +kernel
theorem dL_clears_56 : decode cL_clears 56 = .ok (.iload 4, 2) := by decide +kernel
theorem dL_clears_58 : decode cL_clears 58 = .ok (.if_icmp .ge 205, 3) := by decide +kernel
theorem dL_clears_61 : decode cL_clears 61 = .ok (.iload 6, 2) := by decide +kernel
theorem dL_clears_63 : decode cL_clears 63 = .ok (.ifCond .eq 200, 3) := by decide +kernel
theorem dL_clears_66 : decode cL_clears 66 = .ok (.aload_n 0, 1) := by decide +kernel
theorem dL_clears_67 : decode cL_clears 67 = .ok (.iload 11, 2) := by decide +kernel
theorem dL_clears_69 : decode cL_clears 69 = .ok (.iload_n 1, 1) := by decide +kernel
theorem dL_clears_70 : decode cL_clears 70 = .ok (.invokestatic 99, 3) := by decide +kernel
theorem dL_clears_73 : decode cL_clears 73 = .ok (.iconst 1, 1) := by decide +kernel
theorem dL_clears_74 : decode cL_clears 74 = .ok (.if_icmp .ne 7, 3) := by decide +kernel
theorem dL_clears_77 : decode cL_clears 77 = .ok (.iconst 1, 1) := by decide +kernel
theorem dL_clears_78 : decode cL_clears 78 = .ok (.goto 4, 3) := by decide +kernel
theorem dL_clears_81 : decode cL_clears 81 = .ok (.iconst 0, 1) := by decide +kernel
theorem dL_clears_82 : decode cL_clears 82 = .ok (.istore 12, 2) := by decide +kernel
theorem dL_clears_84 : decode cL_clears 84 = .ok (.iload 10, 2) := by decide +kernel
theorem dL_clears_86 : decode cL_clears 86 = .ok (.ifCond .ne 17, 3) := by decide +kernel
theorem dL_clears_89 : decode cL_clears 89 = .ok (.iload 12, 2) := by decide +kernel
theorem dL_clears_91 : decode cL_clears 91 = .ok (.ifCond .eq 16, 3) := by decide +kernel
theorem dL_clears_94 : decode cL_clears 94 = .ok (.aload_n 3, 1) := by decide +kernel
theorem dL_clears_95 : decode cL_clears 95 = .ok (.iload 11, 2) := by decide +kernel
theorem dL_clears_97 : decode cL_clears 97 = .ok (.iaload, 1) := by decide +kernel
theorem dL_clears_98 : decode cL_clears 98 = .ok (.iload 5, 2) := by decide +kernel
theorem dL_clears_100 : decode cL_clears 100 = .ok (.if_icmp .ne 7, 3) := by decide +kernel
theorem dL_clears_103 : decode cL_clears 103 = .ok (.iconst 1, 1) := by decide +kernel
theorem dL_clears_104 : decode cL_clears 104 = .ok (.goto 4, 3) := by decide +kernel
theorem dL_clears_107 : decode cL_clears 107 = .ok (.iconst 0, 1) := by decide +kernel
theorem dL_clears_108 : decode cL_clears 108 = .ok (.istore 10, 2) := by decide +kernel
theorem dL_clears_110 : decode cL_clears 110 = .ok (.iload 12, 2) := by decide +kernel
theorem dL_clears_112 : decode cL_clears 112 = .ok (.ifCond .eq 12, 3) := by decide +kernel
theorem dL_clears_115 : decode cL_clears 115 = .ok (.aload_n 3, 1) := by decide +kernel
theorem dL_clears_116 : decode cL_clears 116 = .ok (.iload 11, 2) := by decide +kernel
theorem dL_clears_118 : decode cL_clears 118 = .ok (.iaload, 1) := by decide +kernel
theorem dL_clears_119 : decode cL_clears 119 = .ok (.iload 5, 2) := by decide +kernel
theorem dL_clears_121 : decode cL_clears 121 = .ok (.if_icmp .gt 7, 3) := by decide +kernel
theorem dL_clears_124 : decode cL_clears 124 = .ok (.iconst 1, 1) := by decide +kernel
theorem dL_clears_125 : decode cL_clears 125 = .ok (.goto 4, 3) := by decide +kernel
theorem dL_clears_128 : decode cL_clears 128 = .ok (.iconst 0, 1) := by decide +kernel
theorem dL_clears_129 : decode cL_clears 129 = .ok (.istore 6, 2) := by decide +kernel
theorem dL_clears_131 : decode cL_clears 131 = .ok (.iload 7, 2) := by decide +kernel
theorem dL_clears_133 : decode cL_clears 133 = .ok (.iload 12, 2) := by decide +kernel
theorem dL_clears_135 : decode cL_clears 135 = .ok (.ifCond .eq 10, 3) := by decide +kernel
theorem dL_clears_138 : decode cL_clears 138 = .ok (.aload_n 2, 1) := by decide +kernel
theorem dL_clears_139 : decode cL_clears 139 = .ok (.iload 11, 2) := by decide +kernel
theorem dL_clears_141 : decode cL_clears 141 = .ok (.iaload, 1) := by decide +kernel
theorem dL_clears_142 : decode cL_clears 142 = .ok (.goto 4, 3) := by decide +kernel
theorem dL_clears_145 : decode cL_clears 145 = .ok (.iconst 0, 1) := by decide +kernel
theorem dL_clears_146 : decode cL_clears 146 = .ok (.iadd, 1) := by decide +kernel
theorem dL_clears_147 : decode cL_clears 147 = .ok (.istore 7, 2) := by decide +kernel
theorem dL_clears_149 : decode cL_clears 149 = .ok (.iload 9, 2) := by decide +kernel
theorem dL_clears_151 : decode cL_clears 151 = .ok (.iload 12, 2) := by decide +kernel
theorem dL_clears_153 : decode cL_clears 153 = .ok (.ifCond .eq 15, 3) := by decide +kernel
theorem dL_clears_156 : decode cL_clears 156 = .ok (.aload_n 2, 1) := by decide +kernel
theorem dL_clears_157 : decode cL_clears 157 = .ok (.iload 11, 2) := by decide +kernel
theorem dL_clears_159 : decode cL_clears 159 = .ok (.iaload, 1) := by decide +kernel
theorem dL_clears_160 : decode cL_clears 160 = .ok (.aload_n 3, 1) := by decide +kernel
theorem dL_clears_161 : decode cL_clears 161 = .ok (.iload 11, 2) := by decide +kernel
theorem dL_clears_163 : decode cL_clears 163 = .ok (.iaload, 1) := by decide +kernel
theorem dL_clears_164 : decode cL_clears 164 = .ok (.imul, 1) := by decide +kernel
theorem dL_clears_165 : decode cL_clears 165 = .ok (.goto 4, 3) := by decide +kernel
theorem dL_clears_168 : decode cL_clears 168 = .ok (.iconst 0, 1) := by decide +kernel
theorem dL_clears_169 : decode cL_clears 169 = .ok (.iadd, 1) := by decide +kernel
theorem dL_clears_170 : decode cL_clears 170 = .ok (.istore 9, 2) := by decide +kernel
theorem dL_clears_172 : decode cL_clears 172 = .ok (.iconst 0, 1) := by decide +kernel
theorem dL_clears_173 : decode cL_clears 173 = .ok (.istore 13, 2) := by decide +kernel
theorem dL_clears_175 : decode cL_clears 175 = .ok (.iload 13, 2) := by decide +kernel
theorem dL_clears_177 : decode cL_clears 177 = .ok (.iload 4, 2) := by decide +kernel
theorem dL_clears_179 : decode cL_clears 179 = .ok (.if_icmp .ge 78, 3) := by decide +kernel
theorem dL_clears_182 : decode cL_clears 182 = .ok (.iload 6, 2) := by decide +kernel
theorem dL_clears_184 : decode cL_clears 184 = .ok (.ifCond .eq 73, 3) := by decide +kernel
theorem dL_clears_187 : decode cL_clears 187 = .ok (.aload_n 3, 1) := by decide +kernel
theorem dL_clears_188 : decode cL_clears 188 = .ok (.iload 13, 2) := by decide +kernel
theorem dL_clears_190 : decode cL_clears 190 = .ok (.iaload, 1) := by decide +kernel
theorem dL_clears_191 : decode cL_clears 191 = .ok (.aload_n 3, 1) := by decide +kernel
theorem dL_clears_192 : decode cL_clears 192 = .ok (.iload 11, 2) := by decide +kernel
theorem dL_clears_194 : decode cL_clears 194 = .ok (.iaload, 1) := by decide +kernel
theorem dL_clears_195 : decode cL_clears 195 = .ok (.if_icmp .lt 21, 3) := by decide +kernel
theorem dL_clears_198 : decode cL_clears 198 = .ok (.aload_n 3, 1) := by decide +kernel
theorem dL_clears_199 : decode cL_clears 199 = .ok (.iload 13, 2) := by decide +kernel
theorem dL_clears_201 : decode cL_clears 201 = .ok (.iaload, 1) := by decide +kernel
theorem dL_clears_202 : decode cL_clears 202 = .ok (.aload_n 3, 1) := by decide +kernel
theorem dL_clears_203 : decode cL_clears 203 = .ok (.iload 11, 2) := by decide +kernel
theorem dL_clears_205 : decode cL_clears 205 = .ok (.iaload, 1) := by decide +kernel
theorem dL_clears_206 : decode cL_clears 206 = .ok (.if_icmp .ne 14, 3) := by decide +kernel
theorem dL_clears_209 : decode cL_clears 209 = .ok (.iload 13, 2) := by decide +kernel
theorem dL_clears_211 : decode cL_clears 211 = .ok (.iload 11, 2) := by decide +kernel
theorem dL_clears_213 : decode cL_clears 213 = .ok (.if_icmp .ge 7, 3) := by decide +kernel
theorem dL_clears_216 : decode cL_clears 216 = .ok (.iconst 1, 1) := by decide +kernel
theorem dL_clears_217 : decode cL_clears 217 = .ok (.goto 4, 3) := by decide +kernel
theorem dL_clears_220 : decode cL_clears 220 = .ok (.iconst 0, 1) := by decide +kernel
theorem dL_clears_221 : decode cL_clears 221 = .ok (.istore 14, 2) := by decide +kernel
theorem dL_clears_223 : decode cL_clears 223 = .ok (.iload 12, 2) := by decide +kernel
theorem dL_clears_225 : decode cL_clears 225 = .ok (.ifCond .eq 19, 3) := by decide +kernel
theorem dL_clears_228 : decode cL_clears 228 = .ok (.iload 14, 2) := by decide +kernel
theorem dL_clears_230 : decode cL_clears 230 = .ok (.ifCond .eq 14, 3) := by decide +kernel
theorem dL_clears_233 : decode cL_clears 233 = .ok (.aload_n 0, 1) := by decide +kernel
theorem dL_clears_234 : decode cL_clears 234 = .ok (.iload 13, 2) := by decide +kernel
theorem dL_clears_236 : decode cL_clears 236 = .ok (.iload_n 1, 1) := by decide +kernel
theorem dL_clears_237 : decode cL_clears 237 = .ok (.invokestatic 99, 3) := by decide +kernel
theorem dL_clears_240 : decode cL_clears 240 = .ok (.iconst 1, 1) := by decide +kernel
theorem dL_clears_241 : decode cL_clears 241 = .ok (.if_icmp .ne 7, 3) := by decide +kernel
theorem dL_clears_244 : decode cL_clears 244 = .ok (.iconst 1, 1) := by decide +kernel
theorem dL_clears_245 : decode cL_clears 245 = .ok (.goto 4, 3) := by decide +kernel
theorem dL_clears_248 : decode cL_clears 248 = .ok (.iconst 0, 1) := by decide +kernel
theorem dL_clears_249 : decode cL_clears 249 = .ok (.istore 6, 2) := by decide +kernel
theorem dL_clears_251 : decode cL_clears 251 = .ok (.iinc 13 1, 3) := by decide +kernel
theorem dL_clears_254 : decode cL_clears 254 = .ok (.goto (-79), 3) := by decide +kernel
theorem dL_clears_257 : decode cL_clears 257 = .ok (.iinc 11 1, 3) := by decide +kernel
theorem dL_clears_260 : decode cL_clears 260 = .ok (.goto (-206), 3) := by decide +kernel
theorem dL_clears_263 : decode cL_clears 263 = .ok (.aload_n 0, 1) := by decide +kernel
theorem dL_clears_264 : decode cL_clears 264 = .ok (.iload 7, 2) := by decide +kernel
theorem dL_clears_266 : decode cL_clears 266 = .ok (.invokestatic 86, 3) := by decide +kernel
theorem dL_clears_269 : decode cL_clears 269 = .ok (.iload 9, 2) := by decide +kernel
theorem dL_clears_271 : decode cL_clears 271 = .ok (.isub, 1) := by decide +kernel
theorem dL_clears_272 : decode cL_clears 272 = .ok (.istore 11, 2) := by decide +kernel
theorem dL_clears_274 : decode cL_clears 274 = .ok (.iload 6, 2) := by decide +kernel
theorem dL_clears_276 : decode cL_clears 276 = .ok (.ifCond .eq 24, 3) := by decide +kernel
theorem dL_clears_279 : decode cL_clears 279 = .ok (.iload 11, 2) := by decide +kernel
theorem dL_clears_281 : decode cL_clears 281 = .ok (.iload 8, 2) := by decide +kernel
theorem dL_clears_283 : decode cL_clears 283 = .ok (.if_icmp .lt 17, 3) := by decide +kernel
theorem dL_clears_286 : decode cL_clears 286 = .ok (.iload 10, 2) := by decide +kernel
theorem dL_clears_288 : decode cL_clears 288 = .ok (.ifCond .ne 8, 3) := by decide +kernel
theorem dL_clears_291 : decode cL_clears 291 = .ok (.iload 5, 2) := by decide +kernel
theorem dL_clears_293 : decode cL_clears 293 = .ok (.ifCond .ne 7, 3) := by decide +kernel
theorem dL_clears_296 : decode cL_clears 296 = .ok (.iconst 1, 1) := by decide +kernel
theorem dL_clears_297 : decode cL_clears 297 = .ok (.goto 4, 3) := by decide +kernel
theorem dL_clears_300 : decode cL_clears 300 = .ok (.iconst 0, 1) := by decide +kernel
theorem dL_clears_301 : decode cL_clears 301 = .ok (.istore 6, 2) := by decide +kernel
theorem dL_clears_303 : decode cL_clears 303 = .ok (.iconst 0, 1) := by decide +kernel
theorem dL_clears_304 : decode cL_clears 304 = .ok (.istore 12, 2) := by decide +kernel
theorem dL_clears_306 : decode cL_clears 306 = .ok (.iload 12, 2) := by decide +kernel
theorem dL_clears_308 : decode cL_clears 308 = .ok (.iload 4, 2) := by decide +kernel
theorem dL_clears_310 : decode cL_clears 310 = .ok (.if_icmp .ge 138, 3) := by decide +kernel
theorem dL_clears_313 : decode cL_clears 313 = .ok (.iload 6, 2) := by decide +kernel
theorem dL_clears_315 : decode cL_clears 315 = .ok (.ifCond .eq 133, 3) := by decide +kernel
theorem dL_clears_318 : decode cL_clears 318 = .ok (.aload_n 0, 1) := by decide +kernel
theorem dL_clears_319 : decode cL_clears 319 = .ok (.iload_n 1, 1) := by decide +kernel
theorem dL_clears_320 : decode cL_clears 320 = .ok (.invokestatic 97, 3) := by decide +kernel
theorem dL_clears_323 : decode cL_clears 323 = .ok (.istore 13, 2) := by decide +kernel
theorem dL_clears_325 : decode cL_clears 325 = .ok (.iconst 0, 1) := by decide +kernel
theorem dL_clears_326 : decode cL_clears 326 = .ok (.istore 14, 2) := by decide +kernel
theorem dL_clears_328 : decode cL_clears 328 = .ok (.iconst 0, 1) := by decide +kernel
theorem dL_clears_329 : decode cL_clears 329 = .ok (.istore 15, 2) := by decide +kernel
theorem dL_clears_331 : decode cL_clears 331 = .ok (.iload 15, 2) := by decide +kernel
theorem dL_clears_333 : decode cL_clears 333 = .ok (.iload 4, 2) := by decide +kernel
theorem dL_clears_335 : decode cL_clears 335 = .ok (.if_icmp .ge 86, 3) := by decide +kernel
theorem dL_clears_338 : decode cL_clears 338 = .ok (.aload_n 3, 1) := by decide +kernel
theorem dL_clears_339 : decode cL_clears 339 = .ok (.iload 15, 2) := by decide +kernel
theorem dL_clears_341 : decode cL_clears 341 = .ok (.iaload, 1) := by decide +kernel
theorem dL_clears_342 : decode cL_clears 342 = .ok (.aload_n 3, 1) := by decide +kernel
theorem dL_clears_343 : decode cL_clears 343 = .ok (.iload 12, 2) := by decide +kernel
theorem dL_clears_345 : decode cL_clears 345 = .ok (.iaload, 1) := by decide +kernel
theorem dL_clears_346 : decode cL_clears 346 = .ok (.if_icmp .lt 21, 3) := by decide +kernel
theorem dL_clears_349 : decode cL_clears 349 = .ok (.aload_n 3, 1) := by decide +kernel
theorem dL_clears_350 : decode cL_clears 350 = .ok (.iload 15, 2) := by decide +kernel
theorem dL_clears_352 : decode cL_clears 352 = .ok (.iaload, 1) := by decide +kernel
theorem dL_clears_353 : decode cL_clears 353 = .ok (.aload_n 3, 1) := by decide +kernel
theorem dL_clears_354 : decode cL_clears 354 = .ok (.iload 12, 2) := by decide +kernel
theorem dL_clears_356 : decode cL_clears 356 = .ok (.iaload, 1) := by decide +kernel
theorem dL_clears_357 : decode cL_clears 357 = .ok (.if_icmp .ne 14, 3) := by decide +kernel
theorem dL_clears_360 : decode cL_clears 360 = .ok (.iload 15, 2) := by decide +kernel
theorem dL_clears_362 : decode cL_clears 362 = .ok (.iload 12, 2) := by decide +kernel
theorem dL_clears_364 : decode cL_clears 364 = .ok (.if_icmp .gt 7, 3) := by decide +kernel
theorem dL_clears_367 : decode cL_clears 367 = .ok (.iconst 1, 1) := by decide +kernel
theorem dL_clears_368 : decode cL_clears 368 = .ok (.goto 4, 3) := by decide +kernel
theorem dL_clears_371 : decode cL_clears 371 = .ok (.iconst 0, 1) := by decide +kernel
theorem dL_clears_372 : decode cL_clears 372 = .ok (.istore 16, 2) := by decide +kernel
theorem dL_clears_374 : decode cL_clears 374 = .ok (.iload 13, 2) := by decide +kernel
theorem dL_clears_376 : decode cL_clears 376 = .ok (.iload 16, 2) := by decide +kernel
theorem dL_clears_378 : decode cL_clears 378 = .ok (.ifCond .eq 10, 3) := by decide +kernel
theorem dL_clears_381 : decode cL_clears 381 = .ok (.aload_n 2, 1) := by decide +kernel
theorem dL_clears_382 : decode cL_clears 382 = .ok (.iload 15, 2) := by decide +kernel
theorem dL_clears_384 : decode cL_clears 384 = .ok (.iaload, 1) := by decide +kernel
theorem dL_clears_385 : decode cL_clears 385 = .ok (.goto 4, 3) := by decide +kernel
theorem dL_clears_388 : decode cL_clears 388 = .ok (.iconst 0, 1) := by decide +kernel
theorem dL_clears_389 : decode cL_clears 389 = .ok (.iadd, 1) := by decide +kernel
theorem dL_clears_390 : decode cL_clears 390 = .ok (.istore 13, 2) := by decide +kernel
theorem dL_clears_392 : decode cL_clears 392 = .ok (.iload 14, 2) := by decide +kernel
theorem dL_clears_394 : decode cL_clears 394 = .ok (.iload 16, 2) := by decide +kernel
theorem dL_clears_396 : decode cL_clears 396 = .ok (.ifCond .eq 15, 3) := by decide +kernel
theorem dL_clears_399 : decode cL_clears 399 = .ok (.aload_n 2, 1) := by decide +kernel
theorem dL_clears_400 : decode cL_clears 400 = .ok (.iload 15, 2) := by decide +kernel
theorem dL_clears_402 : decode cL_clears 402 = .ok (.iaload, 1) := by decide +kernel
theorem dL_clears_403 : decode cL_clears 403 = .ok (.aload_n 3, 1) := by decide +kernel
theorem dL_clears_404 : decode cL_clears 404 = .ok (.iload 15, 2) := by decide +kernel
theorem dL_clears_406 : decode cL_clears 406 = .ok (.iaload, 1) := by decide +kernel
theorem dL_clears_407 : decode cL_clears 407 = .ok (.imul, 1) := by decide +kernel
theorem dL_clears_408 : decode cL_clears 408 = .ok (.goto 4, 3) := by decide +kernel
theorem dL_clears_411 : decode cL_clears 411 = .ok (.iconst 0, 1) := by decide +kernel
theorem dL_clears_412 : decode cL_clears 412 = .ok (.iadd, 1) := by decide +kernel
theorem dL_clears_413 : decode cL_clears 413 = .ok (.istore 14, 2) := by decide +kernel
theorem dL_clears_415 : decode cL_clears 415 = .ok (.iinc 15 1, 3) := by decide +kernel
theorem dL_clears_418 : decode cL_clears 418 = .ok (.goto (-87), 3) := by decide +kernel
theorem dL_clears_421 : decode cL_clears 421 = .ok (.aload_n 0, 1) := by decide +kernel
theorem dL_clears_422 : decode cL_clears 422 = .ok (.iload 13, 2) := by decide +kernel
theorem dL_clears_424 : decode cL_clears 424 = .ok (.invokestatic 86, 3) := by decide +kernel
theorem dL_clears_427 : decode cL_clears 427 = .ok (.iload 14, 2) := by decide +kernel
theorem dL_clears_429 : decode cL_clears 429 = .ok (.isub, 1) := by decide +kernel
theorem dL_clears_430 : decode cL_clears 430 = .ok (.iload 11, 2) := by decide +kernel
theorem dL_clears_432 : decode cL_clears 432 = .ok (.if_icmp .gt 7, 3) := by decide +kernel
theorem dL_clears_435 : decode cL_clears 435 = .ok (.iconst 1, 1) := by decide +kernel
theorem dL_clears_436 : decode cL_clears 436 = .ok (.goto 4, 3) := by decide +kernel
theorem dL_clears_439 : decode cL_clears 439 = .ok (.iconst 0, 1) := by decide +kernel
theorem dL_clears_440 : decode cL_clears 440 = .ok (.istore 6, 2) := by decide +kernel
theorem dL_clears_442 : decode cL_clears 442 = .ok (.iinc 12 1, 3) := by decide +kernel
theorem dL_clears_445 : decode cL_clears 445 = .ok (.goto (-139), 3) := by decide +kernel
theorem dL_clears_448 : decode cL_clears 448 = .ok (.iload 6, 2) := by decide +kernel
theorem dL_clears_450 : decode cL_clears 450 = .ok (.ireturn, 1) := by decide +kernel
end
section
/-! Rows of calls in a form that fits this system: methods that only read, methods that write their own world, methods that throw before they write. -/
def q_R (D : va_G) (cl : List vw_C) (tys : List (ClassId × FieldType)) (ws : va_W) : State → Prop := fun U => va_P D cl ws U.heap ∧ va_K D cl tys U
def q_M (D : va_G) (cl : List vw_C) (tys : List (ClassId × FieldType)) (ws : va_W) : State → Prop := fun U => va_P D cl ws U.heap ∧ va_K D cl tys U ∧ va_D (fun _ => True) ws
def q_B (ws : va_W) : Nat → Prop := fun q => ∃ (k : Nat) (e : va_E), ws[k]? = some (q, e)
def q_W (v : Option Value) (D : va_G) (cl : List vw_C) (ws' : va_W) (A : Nat → Prop) : Array Value → State → Outcome → State → Prop := fun _ st o t => o = .returned v ∧ va_P D cl ws' t.heap ∧ va_F A st t
def q_V (cond : Prop) (v : Option Value) (D : va_G) (cl : List vw_C) (ws' : va_W) (A : Nat → Prop) : Array Value → State → Outcome → State → Prop := fun _ st o t => cond ∧ o = .returned v ∧ va_P D cl ws' t.heap ∧ va_F A st t
def q_X (px : String → Prop) : String → State → State → Prop := fun E st t => px E ∧ va_F (fun _ => False) st t
def q_RL (r : Int64) : Array Value → State → Outcome → State → Prop := fun _ st o t => o = .returned (some (.long r)) ∧ t.heap = st.heap
theorem q_Rb {D : va_G} {cl : List vw_C} {tys : List (ClassId × FieldType)} {ws : va_W} {av : List Value} : FrameBlind (va_Pc av (q_R D cl tys ws)) := fun a U g mk q => ⟨q.1, q.2.1, va_K.moved (u := U) (U := U.calling g mk a) (Vm.Alike.refl U.vm) q.2.2⟩
theorem q_Mb {D : va_G} {cl : List vw_C} {tys : List (ClassId × FieldType)} {ws : va_W} {av : List Value} : FrameBlind (va_Pc av (q_M D cl tys ws)) := fun a U g mk q => ⟨q.1, q.2.1, va_K.moved (u := U) (U := U.calling g mk a) (Vm.Alike.refl U.vm) q.2.2.1, q.2.2.2⟩
theorem q_Bself {ws : va_W} {A : Nat → Prop} (h : va_D A ws) : va_D (q_B ws) ws := ⟨h.1, fun k q hk => ⟨k, q.2, hk⟩⟩
theorem q_Dall {ws : va_W} {A : Nat → Prop} (h : va_D A ws) : va_D (fun _ => True) ws := ⟨h.1, fun _ _ _ => trivial⟩
/-- a world of the same addresses is apart as well -/
theorem q_Dsame {A : Nat → Prop} {ws ws' : va_W} (h : va_D A ws) (e : ws'.map Prod.fst = ws.map Prod.fst) : va_D A ws' := by
  have key : ∀ (k : Nat) (q : Nat × va_E), ws'[k]? = some q → ∃ q0, ws[k]? = some q0 ∧ q0.1 = q.1 := by
    intro k q hk
    have h1 : (ws'.map Prod.fst)[k]? = some q.1 := by rw [List.getElem?_map, hk]; rfl
    rw [e, List.getElem?_map] at h1
    cases hq : ws[k]? with
    | none => rw [hq] at h1; cases h1
    | some q0 => rw [hq] at h1; exact ⟨q0, rfl, Option.some.inj h1⟩
  refine ⟨fun i j x y hi hj hxy => ?_, fun k q hk => ?_⟩
  · obtain ⟨x0, h1, h2⟩ := key i x hi
    obtain ⟨y0, h3, h4⟩ := key j y hj
    exact h.1 i j x0 y0 h1 h3 (h2.trans (hxy.trans h4.symm))
  · obtain ⟨q0, h1, h2⟩ := key k q hk
    rw [← h2]
    exact h.2 k q0 h1
/-- what a callee's part of the world became, put back into the whole -/
theorem q_join {A A0 : Nat → Prop} {D : va_G} {cl : List vw_C} {ws wc wc' ws' : va_W} {H H1 : Heap} (hP : va_P D cl ws H) (hD : va_D A0 ws) (isC : List Nat) (hC : isC.map (fun i => ws[i]?) = wc.map some)
    (src : List (Bool × Nat)) (h' : src.map (fun q => if q.1 then wc'[q.2]? else ws[q.2]?) = ws'.map some) (hn : src.all (fun q => q.1 || !(isC.contains q.2)) = true) (ha : ws'.map Prod.fst = ws.map Prod.fst)
    (hA : ∀ q, A q → q_B wc q) (hk : ∀ q : Nat, q < H.size → ¬ A q → H1[q]? = H[q]?) (hP1 : va_P D cl wc' H1) : va_P D cl ws' H1 ∧ va_D A0 ws' := by
  refine ⟨fun k q hq => ?_, q_Dsame hD ha⟩
  have h1 : (src.map (fun q => if q.1 then wc'[q.2]? else ws[q.2]?))[k]? = some (some q) := by rw [h', List.getElem?_map, hq]; rfl
  rw [List.getElem?_map] at h1
  cases hs : src[k]? with
  | none => rw [hs] at h1; cases h1
  | some z =>
    rw [hs] at h1
    have h2 := Option.some.inj h1
    have h3 := List.all_eq_true.mp hn z (List.mem_of_getElem? hs)
    obtain ⟨b, i⟩ := z
    cases b with
    | true => exact hP1 i q h2
    | false =>
      have h2 : ws[i]? = some q := h2
      have h3 : i ∉ isC := by simpa using h3
      refine (hP i q h2).kept (hk q.1 (hP i q h2).lt fun hAq => ?_)
      obtain ⟨k2, e2, h4⟩ := hA q.1 hAq
      have h5 : (isC.map (fun i => ws[i]?))[k2]? = some (some (q.1, e2)) := by rw [hC, List.getElem?_map, h4]; rfl
      rw [List.getElem?_map] at h5
      cases hi : isC[k2]? with
      | none => rw [hi] at h5; cases h5
      | some j =>
        rw [hi] at h5
        have hij := hD.1 i j q (q.1, e2) h2 (Option.some.inj h5) rfl
        subst hij
        exact h3 (List.mem_of_getElem? hi)
theorem q_Bin {A0 : Nat → Prop} {ws wc : va_W} (hD : va_D A0 ws) (isC : List Nat) (hC : isC.map (fun i => ws[i]?) = wc.map some) : ∀ q, q_B wc q → A0 q := by
  rintro q ⟨k, e, h⟩
  have h1 : (isC.map (fun i => ws[i]?))[k]? = some (some (q, e)) := by rw [hC, List.getElem?_map, h]; rfl
  rw [List.getElem?_map] at h1
  cases hi : isC[k]? with
  | none => rw [hi] at h1; cases h1
  | some i => rw [hi] at h1; exact hD.2 i (q, e) (Option.some.inj h1)
section QCA
variable {p : Program} {l : Launch} {e : Env} {R : Room} {s : State} {m : MethodId} {args : Array Value} {below : List Frame} {meth : Method} {c : Code} {H : Heap} {locs : List Loc} {cells slots : Nat} {Q : State → Prop}
variable {pc : Nat} {ls : Array Slot} {rest st0 : List Value}
variable {y : MethodName} {bytes cc : ByteArray} {maxL nL n index mc ms : Nat} {ret : Option FieldType} {wsy : List Cond} {rm : Room} {Ts : List Cond} {own C : String} {b : Addr} {As : List Value}
variable {D : va_G} {cl : List vw_C} {tys : List (ClassId × FieldType)} {ws wc wc' ws' : va_W} {A A0 : Nat → Prop} {H0 : Heap}
/-- a method of an object, that only reads: an int -/
theorem q_rV {r : Int32} (S : CallFix p m c cc nL s args Ts own) (hM : Met l y wsy rm (va_Pc (.ref b :: As) (q_R D cl tys wc)) (QcRead r) 0 0 (fun _ => False)) (cw : CallW R s args own C index y bytes maxL ret wsy rm 0 0 n)
    (hK : va_K D cl tys s) (hP : va_P D cl wc H) (ci q0 : Nat) {q : vw_C} {fs : List Value} (hc : cl[ci]? = some q) (hC : q.1 = C) (he : wc[q0]? = some (b, .inr (ci, fs))) (hn : As.length = n) (hsize : ls.size = nL) (hst : st0 = As.reverse ++ .ref b :: rest)
    (hW : (rest.map fun v => v.category).sum ≤ 8) (hdg : decode cc pc = .ok (.invokevirtual index, 3)) (hf : cells + 0 ≤ R.cells ∧ slots + 0 ≤ R.slots)
    (kk : W p l e R s m args below meth c H locs cells slots Q (F0 m (pc + 3) ls (.int r :: rest))) : W p l e R s m args below meth c H locs cells slots Q (F0 m pc ls st0) := by
  subst hC
  exact W.callR (W.runV (rest := rest) S hM cw ⟨q_Rb, va_recv hK hP hc he, fun U hU hW => ⟨rfl, by rw [hU]; exact hP, va_K.moved hW.alike hK⟩⟩ rfl hn hsize hst (lv_room hW) hdg hf) kk
/-- .. a static one -/
theorem q_rS {r : Int32} (S : CallFix p m c cc nL s args Ts own) (hM : Met l y wsy rm (va_Pc As (q_R D cl tys wc)) (QcRead r) 0 0 (fun _ => False)) (cw : CallB R s args own index y bytes maxL ret wsy rm 0 0 n ∧ (Cond.static y).before args s = true)
    (hK : va_K D cl tys s) (hP : va_P D cl wc H) (hn : As.length = n) (hsize : ls.size = nL) (hst : st0 = As.reverse ++ rest)
    (hW : (rest.map fun v => v.category).sum ≤ 8) (hdg : decode cc pc = .ok (.invokestatic index, 3)) (hf : cells + 0 ≤ R.cells ∧ slots + 0 ≤ R.slots)
    (kk : W p l e R s m args below meth c H locs cells slots Q (F0 m (pc + 3) ls (.int r :: rest))) : W p l e R s m args below meth c H locs cells slots Q (F0 m pc ls st0) := by
  exact W.callR (W.runS (rest := rest) S hM cw ⟨q_Rb, fun U hU hW => ⟨rfl, by rw [hU]; exact hP, va_K.moved hW.alike hK⟩⟩ rfl hn hsize hst (lv_room hW) hdg hf) kk
/-- a method of an object, that only reads: a long -/
theorem q_rVl {r : Int64} (S : CallFix p m c cc nL s args Ts own) (hM : Met l y wsy rm (va_Pc (.ref b :: As) (q_R D cl tys wc)) (q_RL r) 0 0 (fun _ => False)) (cw : CallW R s args own C index y bytes maxL ret wsy rm 0 0 n)
    (hK : va_K D cl tys s) (hP : va_P D cl wc H) (ci q0 : Nat) {q : vw_C} {fs : List Value} (hc : cl[ci]? = some q) (hC : q.1 = C) (he : wc[q0]? = some (b, .inr (ci, fs))) (hn : As.length = n) (hsize : ls.size = nL) (hst : st0 = As.reverse ++ .ref b :: rest)
    (hW : (rest.map fun v => v.category).sum ≤ 8) (hdg : decode cc pc = .ok (.invokevirtual index, 3)) (hf : cells + 0 ≤ R.cells ∧ slots + 0 ≤ R.slots)
    (kk : W p l e R s m args below meth c H locs cells slots Q (F0 m (pc + 3) ls (.long r :: rest))) : W p l e R s m args below meth c H locs cells slots Q (F0 m pc ls st0) := by
  subst hC
  have hr : CallRun p l e R s m args below meth c H locs cells slots 0 0 (F0 m pc ls st0) rest (q_RL r (Value.ref b :: As).toArray) (fun _ => False) := W.runV S hM cw ⟨q_Rb, va_recv hK hP hc he, fun U hU hW => ⟨rfl, by rw [hU]; exact hP, va_K.moved hW.alike hK⟩⟩ rfl hn hsize hst (lv_room (m := m) (pc := pc) (ls := ls) (rest := st0) hW) hdg hf
  intro T hT X
  obtain ⟨v, st₀, t, T', L, h0, X', hL, e1, ⟨hv, hh⟩, st⟩ := hr T hT X
  cases hv
  obtain ⟨t2, a1, b1⟩ := kk T' (by rw [e1, hh, h0]) (Stand.forget X' (fun q h => (hL q h).elim))
  exact ⟨t2, st t2 a1, b1⟩
/-- a method of an object, that writes its world -/
theorem q_wV {v : Option Value} (S : CallFix p m c cc nL s args Ts own) (hM : Met l y wsy rm (va_Pc (.ref b :: As) (q_M D cl tys wc)) (q_W v D cl wc' (q_B wc)) 0 0 (q_B wc)) (cw : CallW R s args own C index y bytes maxL ret wsy rm 0 0 n)
    (hK : va_K D cl tys s) (hP : va_P D cl ws H) (hD : va_D A0 ws) (hS : va_S A0 H0 H locs) (isC : List Nat) (hCs : isC.map (fun i => ws[i]?) = wc.map some) (hnd : va_nd isC = true)
    (src : List (Bool × Nat)) (h' : src.map (fun q => if q.1 then wc'[q.2]? else ws[q.2]?) = ws'.map some) (hsn : src.all (fun q => q.1 || !(isC.contains q.2)) = true) (ha : ws'.map Prod.fst = ws.map Prod.fst)
    (ci q0 : Nat) {q : vw_C} {fs : List Value} (hc : cl[ci]? = some q) (hC : q.1 = C) (he : wc[q0]? = some (b, .inr (ci, fs))) (hn : As.length = n) (hsize : ls.size = nL) (hst : st0 = As.reverse ++ .ref b :: rest)
    (hW : (rest.map fun v => v.category).sum ≤ 8) (hdg : decode cc pc = .ok (.invokevirtual index, 3)) (hf : cells + 0 ≤ R.cells ∧ slots + 0 ≤ R.slots)
    (kk : ∀ (H1 : Heap) (locs1 : List Loc), va_P D cl ws' H1 → va_D A0 ws' → va_S A0 H0 H1 locs1 → W p l e R s m args below meth c H1 locs1 cells slots Q (F0 m (pc + 3) ls (v.toList ++ rest))) : W p l e R s m args below meth c H locs cells slots Q (F0 m pc ls st0) := by
  subst hC
  have hPc : va_P D cl wc H := by
    intro k z hz
    have h1 : (isC.map (fun i => ws[i]?))[k]? = some (some z) := by rw [hCs, List.getElem?_map, hz]; rfl
    rw [List.getElem?_map] at h1
    cases hi : isC[k]? with
    | none => rw [hi] at h1; cases h1
    | some i => rw [hi] at h1; exact hP i z (Option.some.inj h1)
  have hDc : va_D A0 wc := hD.sub isC hnd hCs
  have hin := q_Bin hD isC hCs
  have hr : CallRun p l e R s m args below meth c H locs cells slots 0 0 (F0 m pc ls st0) rest (q_W v D cl wc' (q_B wc) (Value.ref b :: As).toArray) (q_B wc) := W.runV S hM cw ⟨q_Mb, va_recv hK hPc hc he, fun U hU hW => ⟨rfl, by rw [hU]; exact hPc, va_K.moved hW.alike hK, q_Dall hDc⟩⟩ rfl hn hsize hst (lv_room (m := m) (pc := pc) (ls := ls) (rest := st0) hW) hdg hf
  intro T hT X
  obtain ⟨v', st₀, t, T', L, h0, X', hL, e1, ⟨hv, hP1, hF⟩, st⟩ := hr T hT X
  cases hv
  obtain ⟨k1, k2, k3⟩ := vx_keep h0 e1 hS (fun q _ hq => hin q hq) hin hL hF
  rw [← e1] at hP1
  obtain ⟨j1, j2⟩ := q_join hP hD isC hCs src h' hsn ha (fun _ h => h) k2 hP1
  obtain ⟨t2, a1, b1⟩ := kk T'.heap (locs ++ L) j1 j2 k3 T' rfl X'
  exact ⟨t2, st t2 a1, b1⟩
end QCA
abbrev q_T (cI cZ cJ : ClassId) : List (ClassId × FieldType) := [(cI, .int), (cZ, .boolean), (cJ, .long)]
theorem q_ix {i : Int32} {j n : Nat} (hi : i = nI j) (hj : j < n) (hn : n < 2 ^ 31) : i.toNatClampNeg = j ∧ vp_in i n := by
  subst hi
  exact ⟨nI_clamp (by omega), vp_in_nI hj hn⟩
section QAR
variable {p : Program} {l : Launch} {e : Env} {R : Room} {s : State} {m : MethodId} {args : Array Value} {below : List Frame} {meth : Method} {c : Code} {H : Heap} {locs : List Loc} {cells slots : Nat} {Q : State → Prop}
variable {pc : Nat} {ls : Array Slot} {rest : List Value} {cc : ByteArray} {D : va_G} {cl : List vw_C} {tys : List (ClassId × FieldType)} {ws : va_W} {A : Nat → Prop} {H0 : Heap} {a : Nat}
theorem q_iald (hexec : p.tables.exec = Jvm.exec) (hb : c.code = cc) (hK : va_K D cl tys s) (hP : va_P D cl ws H) (q0 t0 : Nat) {cA : ClassId} {n : Nat} {f : Nat → Int32} (ha : ws[q0]? = some (a, .inl (cA, n, .inl f))) (ht : tys[t0]? = some (cA, .int)) (j : Nat) {i : Int32} (hi : i = nI j) (hj : j < n) (hn : n < 2 ^ 31) (hdg : decode cc pc = .ok (.iaload, 1))
    (kk : W p l e R s m args below meth c H locs cells slots Q (F0 m (pc + 1) ls (.int (f j) :: rest))) : W p l e R s m args below meth c H locs cells slots Q (F0 m pc ls (.int i :: .ref a :: rest)) := by
  obtain ⟨e1, e2⟩ := q_ix hi hj hn
  refine va_iald hexec hb hK hP q0 t0 ha ht e2 hdg ?_
  rw [e1]; exact kk
theorem q_zald (hexec : p.tables.exec = Jvm.exec) (hb : c.code = cc) (hK : va_K D cl tys s) (hP : va_P D cl ws H) (q0 t0 : Nat) {cA : ClassId} {n : Nat} {f : Nat → Int32} (ha : ws[q0]? = some (a, .inl (cA, n, .inl f))) (ht : tys[t0]? = some (cA, .boolean)) (j : Nat) {i : Int32} (hi : i = nI j) (hj : j < n) (hn : n < 2 ^ 31) (hdg : decode cc pc = .ok (.baload, 1))
    (kk : W p l e R s m args below meth c H locs cells slots Q (F0 m (pc + 1) ls (.int (f j) :: rest))) : W p l e R s m args below meth c H locs cells slots Q (F0 m pc ls (.int i :: .ref a :: rest)) := by
  obtain ⟨e1, e2⟩ := q_ix hi hj hn
  refine va_zald hexec hb hK hP q0 t0 ha ht e2 hdg ?_
  rw [e1]; exact kk
theorem q_lald (hexec : p.tables.exec = Jvm.exec) (hb : c.code = cc) (hK : va_K D cl tys s) (hP : va_P D cl ws H) (q0 t0 : Nat) {cA : ClassId} {n : Nat} {f : Nat → Int64} (ha : ws[q0]? = some (a, .inl (cA, n, .inr (.inl f)))) (ht : tys[t0]? = some (cA, .long)) (j : Nat) {i : Int32} (hi : i = nI j) (hj : j < n) (hn : n < 2 ^ 31) (hdg : decode cc pc = .ok (.laload, 1))
    (kk : W p l e R s m args below meth c H locs cells slots Q (F0 m (pc + 1) ls (.long (f j) :: rest))) : W p l e R s m args below meth c H locs cells slots Q (F0 m pc ls (.int i :: .ref a :: rest)) := by
  obtain ⟨e1, e2⟩ := q_ix hi hj hn
  refine va_lald hexec hb hK hP q0 t0 ha ht e2 hdg ?_
  rw [e1]; exact kk
theorem q_iast (hexec : p.tables.exec = Jvm.exec) (hb : c.code = cc) (hK : va_K D cl tys s) (hP : va_P D cl ws H) (hD : va_D A ws) (hS : va_S A H0 H locs) (q0 t0 : Nat) {cA : ClassId} {n : Nat} {f : Nat → Int32} (ha : ws[q0]? = some (a, .inl (cA, n, .inl f))) (ht : tys[t0]? = some (cA, .int)) (j : Nat) {i x : Int32} (hi : i = nI j) (hj : j < n) (hn : n < 2 ^ 31) (hdg : decode cc pc = .ok (.iastore, 1))
    (kk : ∀ (H1 : Heap) (locs1 : List Loc), va_P D cl (ws.set q0 (a, .inl (cA, n, .inl (upd f j x)))) H1 → va_D A (ws.set q0 (a, .inl (cA, n, .inl (upd f j x)))) → va_S A H0 H1 locs1 → W p l e R s m args below meth c H1 locs1 cells slots Q (F0 m (pc + 1) ls rest)) : W p l e R s m args below meth c H locs cells slots Q (F0 m pc ls (.int x :: .int i :: .ref a :: rest)) := by
  obtain ⟨e1, e2⟩ := q_ix hi hj hn
  refine va_iast hexec hb hK hP hD hS q0 t0 ha ht e2 hdg ?_
  rw [e1]; exact kk
theorem q_zast (hexec : p.tables.exec = Jvm.exec) (hb : c.code = cc) (hK : va_K D cl tys s) (hP : va_P D cl ws H) (hD : va_D A ws) (hS : va_S A H0 H locs) (q0 t0 : Nat) {cA : ClassId} {n : Nat} {f : Nat → Int32} (ha : ws[q0]? = some (a, .inl (cA, n, .inl f))) (ht : tys[t0]? = some (cA, .boolean)) (j : Nat) {i x : Int32} (hi : i = nI j) (hj : j < n) (hn : n < 2 ^ 31) (hnar : vp_nar .boolean x = x) (hdg : decode cc pc = .ok (.bastore, 1))
    (kk : ∀ (H1 : Heap) (locs1 : List Loc), va_P D cl (ws.set q0 (a, .inl (cA, n, .inl (upd f j x)))) H1 → va_D A (ws.set q0 (a, .inl (cA, n, .inl (upd f j x)))) → va_S A H0 H1 locs1 → W p l e R s m args below meth c H1 locs1 cells slots Q (F0 m (pc + 1) ls rest)) : W p l e R s m args below meth c H locs cells slots Q (F0 m pc ls (.int x :: .int i :: .ref a :: rest)) := by
  obtain ⟨e1, e2⟩ := q_ix hi hj hn
  refine va_zast hexec hb hK hP hD hS q0 t0 ha ht e2 hdg ?_
  rw [e1, hnar]; exact kk
theorem q_last (hexec : p.tables.exec = Jvm.exec) (hb : c.code = cc) (hK : va_K D cl tys s) (hP : va_P D cl ws H) (hD : va_D A ws) (hS : va_S A H0 H locs) (q0 t0 : Nat) {cA : ClassId} {n : Nat} {f : Nat → Int64} (ha : ws[q0]? = some (a, .inl (cA, n, .inr (.inl f)))) (ht : tys[t0]? = some (cA, .long)) (j : Nat) {i : Int32} {x : Int64} (hi : i = nI j) (hj : j < n) (hn : n < 2 ^ 31) (hdg : decode cc pc = .ok (.lastore, 1))
    (kk : ∀ (H1 : Heap) (locs1 : List Loc), va_P D cl (ws.set q0 (a, .inl (cA, n, .inr (.inl (vp_updL f j x))))) H1 → va_D A (ws.set q0 (a, .inl (cA, n, .inr (.inl (vp_updL f j x))))) → va_S A H0 H1 locs1 → W p l e R s m args below meth c H1 locs1 cells slots Q (F0 m (pc + 1) ls rest)) : W p l e R s m args below meth c H locs cells slots Q (F0 m pc ls (.long x :: .int i :: .ref a :: rest)) := by
  obtain ⟨e1, e2⟩ := q_ix hi hj hn
  refine va_last hexec hb hK hP hD hS q0 t0 ha ht e2 hdg ?_
  rw [e1]; exact kk
end QAR
theorem q_ex {x : Int32} {k n : Nat} (e : x = nI k) (hk : k ≤ n) (hn : n < 2 ^ 31) (c : nI n ≤ x) : k = n := by
  subst e
  have := (nI_leI hn (by omega)).mp c
  omega
theorem q_lt {x : Int32} {k n : Nat} (e : x = nI k) (hk : k ≤ n) (hn : n < 2 ^ 31) (c : ¬ nI n ≤ x) : k < n := by
  subst e
  rcases Nat.lt_or_ge k n with h | h
  · exact h
  · exact absurd (nI_le h (by omega)) c
theorem q_s1 {x : Int32} {k : Nat} (e : x = nI k) : x + 1 = nI (k + 1) := by rw [e]; exact nI_1 k
end
section
/-! Plain facts: what the methods answer, in words of functions over Int32. -/
def z_b (x : Bool) : Int32 := if x then 1 else 0
def z_in (x a b : Int32) : Bool := decide (a ≤ x) && decide (x ≤ b)
def z_n (x : Int32) : Nat := x.toNatClampNeg
theorem z_lt {x y : Int32} : x < y ↔ x.toInt < y.toInt := Int32.lt_iff_toInt_lt
theorem z_le {x y : Int32} : x ≤ y ↔ x.toInt ≤ y.toInt := Int32.le_iff_toInt_le
theorem z_nlt {x y : Int32} : ¬ x < y ↔ y ≤ x := by rw [z_lt, z_le]; omega
theorem z_nle {x y : Int32} : ¬ x ≤ y ↔ y < x := by rw [z_lt, z_le]; omega
theorem z_in_t {x a b : Int32} (h1 : a ≤ x) (h2 : x ≤ b) : z_in x a b = true := by simp [z_in, h1, h2]
theorem z_in_1 {x a b : Int32} (h1 : ¬ a ≤ x) : z_in x a b = false := by simp only [z_in, h1, decide_false, Bool.false_and]
theorem z_in_2 {x a b : Int32} (h1 : ¬ x ≤ b) : z_in x a b = false := by simp only [z_in, h1, decide_false, Bool.and_false]
theorem z_in_iff {x a b : Int32} : z_in x a b = true ↔ a ≤ x ∧ x ≤ b := by simp [z_in]
theorem z_bt {x : Bool} (h : ¬ z_b x = 0) : x = true := by cases x <;> simp_all [z_b]
theorem z_bf {x : Bool} (h : z_b x = 0) : x = false := by cases x <;> simp_all [z_b]
theorem z_b1 : z_b true = 1 := rfl
theorem z_b0 : z_b false = 0 := rfl
theorem z_bnar (x : Bool) : narrow .boolean (.int (z_b x)) = .int (z_b x) := by cases x <;> rfl
theorem z_nI {n : Nat} (h : n < 2 ^ 31) : z_n (nI n) = n := nI_clamp h
theorem z_of {x b : Int32} (h : z_in x 0 b = true) : x = nI (z_n x) ∧ (z_n x : Int) ≤ b.toInt ∧ (z_n x : Int) = x.toInt := by
  obtain ⟨h1, h2⟩ := z_in_iff.mp h
  have h0 : ¬ x < 0 := z_nlt.mpr h1
  obtain ⟨j, hj, rfl⟩ := nI_of h0
  rw [z_nI hj]
  rw [z_le, nI_toInt hj] at h2
  exact ⟨rfl, h2, (nI_toInt hj).symm⟩
theorem z_P {x : Int32} (h : z_in x 0 4 = true) : x = nI (z_n x) ∧ z_n x < 5 := by
  obtain ⟨h1, h2, -⟩ := z_of h
  have h3 : (4 : Int32).toInt = 4 := by decide
  rw [h3] at h2
  exact ⟨h1, by omega⟩
theorem z_Y {x : Int32} (h : z_in x 0 7 = true) : x = nI (z_n x) ∧ z_n x < 8 := by
  obtain ⟨h1, h2, -⟩ := z_of h
  have h3 : (7 : Int32).toInt = 7 := by decide
  rw [h3] at h2
  exact ⟨h1, by omega⟩
theorem z_H {x : Int32} (h : z_in x 0 11 = true) : x = nI (z_n x) ∧ z_n x < 12 := by
  obtain ⟨h1, h2, -⟩ := z_of h
  have h3 : (11 : Int32).toInt = 11 := by decide
  rw [h3] at h2
  exact ⟨h1, by omega⟩
theorem z_up {x a b : Int32} (c : Int32) (hb : b.toInt + 1 = c.toInt) : z_in x a b = true ↔ a ≤ x ∧ x < c := by
  rw [z_in_iff, z_le, z_le, z_lt]; omega
/-- cells -/
theorem z_yc {p y : Int32} {i j : Nat} (hp : p = nI i) (hy : y = nI j) : p * 8 + y = nI (i * 8 + j) := by
  subst hp; subst hy
  rw [show (8 : Int32) = nI 8 from rfl, pk_mul, nI_add]
theorem z_hc {p y h : Int32} {i j k : Nat} (hp : p = nI i) (hy : y = nI j) (hh : h = nI k) : (p * 8 + y) * 12 + h = nI ((i * 8 + j) * 12 + k) := by
  rw [z_yc hp hy]; subst hh
  rw [show (12 : Int32) = nI 12 from rfl, pk_mul, nI_add]
theorem z_yh {y h : Int32} {j k : Nat} (hy : y = nI j) (hh : h = nI k) : y * 12 + h = nI (j * 12 + k) := by
  subst hy; subst hh
  rw [show (12 : Int32) = nI 12 from rfl, pk_mul, nI_add]
/-- the value of a unit, the sum of the first n values, the worth of an amount -/
def z_v (lo up tp u : Int32) : Int32 := if u ≤ lo then tp else if u ≤ up then tp * (up - u) / (up - lo) else 0
def z_w (lo up tp : Int32) : Nat → Int32
  | 0 => 0
  | n + 1 => z_w lo up tp n + z_v lo up tp (nI (n + 1))
theorem z_ne {lo up u : Int32} (h1 : ¬ u ≤ lo) (h2 : u ≤ up) : ¬ up - lo = 0 := by
  intro h
  have h3 : up = lo := by
    have h4 : up - lo + lo = 0 + lo := by rw [h]
    rw [Int32.sub_add_cancel, Int32.zero_add] at h4
    exact h4
  exact h1 (h3 ▸ h2)
/-- the worths' row behind the units up to k -/
def z_wa (lo up tp : Int32) (f : Nat → Int32) (k : Nat) : Nat → Int32 := fun j => if j = 0 ∨ k < j then f j else z_w lo up tp j
theorem z_wa0 {lo up tp : Int32} {f : Nat → Int32} : z_wa lo up tp f 0 = f := by
  funext j
  unfold z_wa
  rw [if_pos (by omega)]
theorem z_was {lo up tp : Int32} {f : Nat → Int32} {k : Nat} (hf : f 0 = 0) : upd (z_wa lo up tp f k) (k + 1) (z_wa lo up tp f k k + z_v lo up tp (nI (k + 1))) = z_wa lo up tp f (k + 1) := by
  have h0 : z_wa lo up tp f k k = z_w lo up tp k := by
    unfold z_wa
    by_cases hk : k = 0
    · subst hk; simp [hf, z_w]
    · rw [if_neg (by omega)]
  funext j
  unfold upd
  by_cases hj : j = k + 1
  · subst hj
    rw [if_pos rfl, h0]
    unfold z_wa
    rw [if_neg (by omega)]; rfl
  · rw [if_neg hj]
    unfold z_wa
    by_cases h1 : j = 0 ∨ k < j
    · rw [if_pos h1, if_pos (by omega)]
    · rw [if_neg h1, if_neg (by omega)]
theorem z_wae {lo up tp : Int32} {f : Nat → Int32} (hf : f 0 = 0) (j : Nat) (hj : j ≤ 1001) : z_wa lo up tp f 1001 j = z_w lo up tp j := by
  unfold z_wa
  by_cases h : j = 0
  · subst h; rw [if_pos (Or.inl rfl), hf]; rfl
  · rw [if_neg (by omega)]
/-- an index into the worths -/
def z_wi (a : Int32) : Nat := min (z_n a) 1001
theorem z_wix (a : Int32) : (if 0 < (if 1001 < a then 1001 else a) then (if 1001 < a then 1001 else a) else 0 : Int32) = nI (z_wi a) := by
  have h3 : (1001 : Int32).toInt = 1001 := by decide
  have h4 : (0 : Int32).toInt = 0 := by decide
  by_cases h1 : (1001 : Int32) < a
  · rw [if_pos h1, if_pos (by decide)]
    rw [z_lt, h3] at h1
    obtain ⟨j, hj, rfl⟩ := nI_of (x := a) (by rw [z_lt, h4]; omega)
    rw [nI_toInt hj] at h1
    unfold z_wi
    rw [z_nI hj, Nat.min_eq_right (by omega)]; rfl
  · rw [if_neg h1]
    by_cases h2 : (0 : Int32) < a
    · rw [if_pos h2]
      obtain ⟨j, hj, rfl⟩ := nI_of (x := a) (by rw [z_lt, h4] at *; omega)
      rw [z_lt, h3, nI_toInt hj] at h1
      unfold z_wi
      rw [z_nI hj, Nat.min_eq_left (by omega)]
    · rw [if_neg h2]
      have h5 : z_n a = 0 := by
        unfold z_n
        rw [z_lt, h4] at h2
        unfold Int32.toNatClampNeg
        omega
      unfold z_wi
      rw [h5]; rfl
theorem z_wil (a : Int32) : z_wi a < 1002 := by unfold z_wi; omega
/-- supply -/
def z_su (A E : Nat → Int32) (pr : Int32) : Nat → Int32
  | 0 => 0
  | k + 1 => z_su A E pr k + (if E k ≤ pr then A k else 0)
/-- the first k in the order o: their amounts, their costs, the welfare; the best k and its welfare -/
def z_am (b : Int32) (A : Nat → Int32) (o : Nat → Nat) : Nat → Int32
  | 0 => b
  | k + 1 => z_am b A o k + A (o k)
def z_co (A E : Nat → Int32) (o : Nat → Nat) : Nat → Int32
  | 0 => 0
  | k + 1 => z_co A E o k + A (o k) * E (o k)
def z_wf (Wf : Nat → Int32) (b : Int32) (A E : Nat → Int32) (o : Nat → Nat) (k : Nat) : Int32 := Wf (z_wi (z_am b A o k)) - z_co A E o k
def z_ag (wf : Nat → Int32) : Nat → Nat × Int32
  | 0 => (0, wf 0)
  | k + 1 => if (z_ag wf k).2 < wf (k + 1) then (k + 1, wf (k + 1)) else z_ag wf k
/-- the rank of an offer among the first n -/
def z_before (E : Nat → Int32) (i j : Nat) : Bool := decide (E i < E j) || (decide (E i = E j) && decide (i < j))
def z_rk (E : Nat → Int32) (w : Nat) : Nat → Nat
  | 0 => 0
  | k + 1 => z_rk E w k + (if z_before E k w then 1 else 0)
theorem z_rkle (E : Nat → Int32) (w n : Nat) : z_rk E w n ≤ n := by
  induction n with
  | zero => exact Nat.le_refl _
  | succ n ih => unfold z_rk; split <;> omega
/-- sums over the offers in their own order, of those whose rank is less than c -/
def z_us (b : Int32) (f : Nat → Int32) (r : Nat → Nat) (c : Nat) : Nat → Int32
  | 0 => b
  | k + 1 => z_us b f r c k + (if r k < c then f k else 0)
/-- the greatest exit price of those whose rank is less than c -/
def z_pr (E : Nat → Int32) (r : Nat → Nat) (c : Nat) : Nat → Int32
  | 0 => 0
  | k + 1 => if r k < c ∧ z_pr E r c k < E k then E k else z_pr E r c k
/-- a stretch of a row raised by a -/
def z_ad (f : Nat → Int32) (lo hi : Nat) (a : Int32) : Nat → Int32 := fun c => if lo ≤ c ∧ c < hi then f c + a else f c
theorem z_ad0 {f : Nat → Int32} {lo : Nat} {a : Int32} : z_ad f lo lo a = f := by
  funext c; unfold z_ad; rw [if_neg (by omega)]
theorem z_ads {f : Nat → Int32} {lo hi : Nat} {a : Int32} (h : lo ≤ hi) : upd (z_ad f lo hi a) hi (z_ad f lo hi a hi + a) = z_ad f lo (hi + 1) a := by
  funext c
  unfold upd z_ad
  by_cases hc : c = hi
  · subst hc
    rw [if_pos rfl, if_neg (by omega), if_pos (by omega)]
  · rw [if_neg hc]
    by_cases h1 : lo ≤ c ∧ c < hi
    · rw [if_pos h1, if_pos (by omega)]
    · rw [if_neg h1, if_neg (by omega)]
/-- a trade: n hours from the places p and q on -/
def z_td (f : Nat → Int32) (p q : Nat) (a : Int32) : Nat → (Nat → Int32)
  | 0 => f
  | n + 1 => upd (upd (z_td f p q a n) (p + n) (z_td f p q a n (p + n) - a)) (q + n) (upd (z_td f p q a n) (p + n) (z_td f p q a n (p + n) - a) (q + n) + a)
/-- the least of n + 1 cells from p on -/
def z_ls (f : Nat → Int32) (p : Nat) : Nat → Int32
  | 0 => f p
  | n + 1 => if f (p + (n + 1)) < z_ls f p n then f (p + (n + 1)) else z_ls f p n
/-- the lack over the first h hours of a year -/
def z_lk (Ob Ou St : Nat → Int32) (p y : Nat) : Nat → Int32
  | 0 => 0
  | h + 1 => z_lk Ob Ou St p y h + (if St (y * 12 + h) = 0 then 0 else Ob ((p * 8 + y) * 12 + h) - Ou ((p * 8 + y) * 12 + h))
/-- what the class answers as a penalty, and what the reference does -/
def z_pd (lk rate : Int32) : Int64 := lk.toInt64 * rate.toInt64
def z_pm (inc cap : Int32) : Int64 := inc.toInt64 * cap.toInt64 / 100
def z_pc (lk rate inc cap : Int32) : Int32 := (if (if z_pm inc cap < z_pd lk rate then z_pm inc cap else z_pd lk rate) < 0 then 0 else (if z_pm inc cap < z_pd lk rate then z_pm inc cap else z_pd lk rate) : Int64).toInt32
def z_pp (lk rate inc cap : Int32) : Int64 := if z_pd lk rate < 0 then 0 else if z_pd lk rate < z_pm inc cap then z_pd lk rate else z_pm inc cap
/-- the dearest of those that are in -/
def z_de (Z E : Nat → Int32) : Nat → Int32
  | 0 => -1
  | k + 1 => if Z k = 0 then z_de Z E k else if z_de Z E k = -1 then nI k else if E (z_n (z_de Z E k)) ≤ E k then nI k else z_de Z E k
/-- the codes of a throw -/
def z_cd (a b c : Bool) : Int32 := if !a then 1 else if !b then 2 else if !c then 3 else 0
theorem z_agn {wf : Nat → Int32} {k : Nat} (h : ¬ (z_ag wf k).2 < wf (k + 1)) : z_ag wf (k + 1) = z_ag wf k := by
  rw [z_ag, if_neg h]
theorem z_agy {wf : Nat → Int32} {k : Nat} (h : (z_ag wf k).2 < wf (k + 1)) : z_ag wf (k + 1) = (k + 1, wf (k + 1)) := by
  rw [z_ag, if_pos h]
theorem q_cgt {x y : Int32} {k n : Nat} (ey : y = nI n) (e : x = nI k) (hk : k < 2 ^ 31) (hn : n < 2 ^ 31) : y < x ↔ n < k := by subst e; subst ey; exact nI_ltI hn hk
theorem q_cge {x y : Int32} {k n : Nat} (ey : y = nI n) (e : x = nI k) (hk : k < 2 ^ 31) (hn : n < 2 ^ 31) : y ≤ x ↔ n ≤ k := by subst e; subst ey; exact nI_leI hn hk
theorem q_ceq {x y : Int32} {k n : Nat} (ey : y = nI n) (e : x = nI k) (hk : k < 2 ^ 31) (hn : n < 2 ^ 31) : y = x ↔ n = k := by subst e; subst ey; exact nI_eq hn hk
/-- the order behind k shifts, the place of a new one, the new order -/
def z_sh (f : Nat → Int32) (n k : Nat) : Nat → Int32 := fun c => if n - k < c ∧ c ≤ n then f (c - 1) else f c
theorem z_sh0 {f : Nat → Int32} {n : Nat} : z_sh f n 0 = f := by funext c; unfold z_sh; rw [if_neg (by omega)]
theorem z_shl {f : Nat → Int32} {n k c : Nat} (h : c ≤ n - k) : z_sh f n k c = f c := by unfold z_sh; rw [if_neg (by omega)]
theorem z_shs {f : Nat → Int32} {n k t : Nat} {v : Int32} (h : n - k = t + 1) (hv : f t = v) : upd (z_sh f n k) (t + 1) v = z_sh f n (k + 1) := by
  funext c
  unfold upd z_sh
  by_cases hc : c = t + 1
  · subst hc; rw [if_pos rfl, if_pos (by omega)]; exact hv.symm
  · rw [if_neg hc]
    by_cases h1 : n - k < c ∧ c ≤ n
    · rw [if_pos h1, if_pos (by omega)]
    · rw [if_neg h1, if_neg (by omega)]
def z_pl (E : Nat → Int32) (ex : Int32) (o : Nat → Nat) : Nat → Nat
  | 0 => 0
  | t + 1 => if ex < E (o t) then z_pl E ex o t else t + 1
def z_ord (f : Nat → Int32) (n t : Nat) : Nat → Int32 := upd (z_sh f n (n - t)) t (nI n)
/-- the price of the first t -/
def z_po (E : Nat → Int32) (o : Nat → Nat) : Nat → Int32
  | 0 => 0
  | t + 1 => E (o t)
/-- is w among the first t -/
def z_mem (o : Nat → Nat) (w : Nat) : Nat → Bool
  | 0 => false
  | t + 1 => z_mem o w t || decide (o t = w)
theorem z_memt {o : Nat → Nat} {w k t : Nat} (h : k < t) (e : o k = w) : z_mem o w t = true := by
  induction t with
  | zero => omega
  | succ t ih =>
    unfold z_mem
    rcases Nat.lt_or_ge k t with q | q
    · rw [ih q]; rfl
    · have : k = t := by omega
      subst this
      rw [decide_eq_true e, Bool.or_true]
theorem z_mems {o : Nat → Nat} {w k : Nat} (h : z_mem o w k = false) (e : ¬ o k = w) : z_mem o w (k + 1) = false := by
  unfold z_mem; rw [h, decide_eq_false e]; rfl
theorem z_nm1 {k : Nat} (h : k < 2 ^ 31) : ¬ nI k = -1 := by
  intro q
  have h2 : (nI k).toInt = (-1 : Int32).toInt := by rw [q]
  rw [nI_toInt h, show (-1 : Int32).toInt = -1 by decide] at h2
  omega
theorem z_dein (Z E : Nat → Int32) (k : Nat) (hk : k < 2 ^ 31) : z_de Z E k = -1 ∨ (z_de Z E k = nI (z_n (z_de Z E k)) ∧ z_n (z_de Z E k) < k) := by
  induction k with
  | zero => exact Or.inl rfl
  | succ k ih =>
    have hn : z_n (nI k) = k := z_nI (by omega)
    have h2 : nI k = -1 ∨ (nI k = nI (z_n (nI k)) ∧ z_n (nI k) < k + 1) := Or.inr ⟨by rw [hn], by omega⟩
    have h3 : z_de Z E k = -1 ∨ (z_de Z E k = nI (z_n (z_de Z E k)) ∧ z_n (z_de Z E k) < k + 1) := (ih (by omega)).imp id (fun q => ⟨q.1, by omega⟩)
    unfold z_de
    by_cases c1 : Z k = 0
    · rw [if_pos c1]; exact h3
    · rw [if_neg c1]
      by_cases c2 : z_de Z E k = -1
      · rw [if_pos c2]; exact h2
      · rw [if_neg c2]
        by_cases c3 : E (z_n (z_de Z E k)) ≤ E k
        · rw [if_pos c3]; exact h2
        · rw [if_neg c3]; exact h3
theorem z_de1 {Z E : Nat → Int32} {k : Nat} (c1 : Z k = 0) : z_de Z E (k + 1) = z_de Z E k := by rw [z_de, if_pos c1]
theorem z_de2 {Z E : Nat → Int32} {k : Nat} (c1 : ¬ Z k = 0) (c2 : z_de Z E k = -1) : z_de Z E (k + 1) = nI k := by rw [z_de, if_neg c1, if_pos c2]
theorem z_de3 {Z E : Nat → Int32} {k : Nat} (c1 : ¬ Z k = 0) (c2 : ¬ z_de Z E k = -1) (c3 : E (z_n (z_de Z E k)) ≤ E k) : z_de Z E (k + 1) = nI k := by rw [z_de, if_neg c1, if_neg c2, if_pos c3]
theorem z_de4 {Z E : Nat → Int32} {k : Nat} (c1 : ¬ Z k = 0) (c2 : ¬ z_de Z E k = -1) (c3 : ¬ E (z_n (z_de Z E k)) ≤ E k) : z_de Z E (k + 1) = z_de Z E k := by rw [z_de, if_neg c1, if_neg c2, if_neg c3]
/-- the exit price of a leaver -/
def z_xo (E : Nat → Int32) (w : Int32) : Int32 := if w = -1 then 0 else E (z_n w)
/-- the clock: the offers that are in, amount, cost, best welfare, price, behind i leavings -/
def z_one (f : Nat → Int32) (k : Nat) : Nat → Int32 := fun j => if j < k then 1 else f j
theorem z_one0 {f : Nat → Int32} : z_one f 0 = f := by funext j; unfold z_one; rw [if_neg (by omega)]
theorem z_ones {f : Nat → Int32} {k : Nat} : upd (z_one f k) k 1 = z_one f (k + 1) := by
  funext j
  unfold upd z_one
  by_cases h : j = k
  · subst h; rw [if_pos rfl, if_pos (by omega)]
  · rw [if_neg h]
    by_cases h1 : j < k
    · rw [if_pos h1, if_pos (by omega)]
    · rw [if_neg h1, if_neg (by omega)]
def z_kI (f E : Nat → Int32) (n : Nat) : Nat → (Nat → Int32)
  | 0 => z_one f n
  | i + 1 => upd (z_kI f E n i) (z_n (z_de (z_kI f E n i) E n)) 0
def z_kl (f E : Nat → Int32) (n i : Nat) : Int32 := z_de (z_kI f E n i) E n
def z_ka (f E : Nat → Int32) (n : Nat) (b : Int32) (A : Nat → Int32) : Nat → Int32
  | 0 => z_am b A (fun j => j) n
  | i + 1 => z_ka f E n b A i - A (z_n (z_kl f E n i))
def z_kc (f E : Nat → Int32) (n : Nat) (A : Nat → Int32) : Nat → Int32
  | 0 => z_co A E (fun j => j) n
  | i + 1 => z_kc f E n A i - A (z_n (z_kl f E n i)) * E (z_n (z_kl f E n i))
def z_kw (f E : Nat → Int32) (n : Nat) (Wf : Nat → Int32) (b : Int32) (A : Nat → Int32) (i : Nat) : Int32 := Wf (z_wi (z_ka f E n b A i)) - z_kc f E n A i
def z_kb (f E : Nat → Int32) (n : Nat) (w : Nat → Int32) : Nat → Int32 × Int32
  | 0 => (w 0, z_xo E (z_kl f E n 0))
  | i + 1 => if w (i + 1) < (z_kb f E n w i).1 then z_kb f E n w i else (w (i + 1), z_xo E (z_kl f E n (i + 1)))
theorem z_kby {f E : Nat → Int32} {n : Nat} {w : Nat → Int32} {i : Nat} (h : w (i + 1) < (z_kb f E n w i).1) : z_kb f E n w (i + 1) = z_kb f E n w i := by rw [z_kb, if_pos h]
theorem z_kbn {f E : Nat → Int32} {n : Nat} {w : Nat → Int32} {i : Nat} (h : ¬ w (i + 1) < (z_kb f E n w i).1) : z_kb f E n w (i + 1) = (w (i + 1), z_xo E (z_kl f E n (i + 1))) := by rw [z_kb, if_neg h]
theorem z_klin (f E : Nat → Int32) (n i : Nat) (hn : n < 2 ^ 31) : z_kl f E n i = -1 ∨ (z_kl f E n i = nI (z_n (z_kl f E n i)) ∧ z_n (z_kl f E n i) < n) := z_dein _ _ n hn
theorem z_mn {a : Int32} {y T : Nat} (h : a = nI y) (hy : y < 8) (hT : T ≤ 4) : (if 8 < a + nI T then 8 else a + nI T : Int32) = nI (min (y + T) 8) := by
  subst h
  rw [nI_add]
  by_cases c : (8 : Int32) < nI (y + T)
  · have h9 := (q_cgt (y := 8) (n := 8) rfl rfl (by omega) (by omega)).mp c
    rw [if_pos c, Nat.min_eq_right (by omega)]; rfl
  · have h9 := (not_congr (q_cgt (y := 8) (n := 8) rfl rfl (by omega) (by omega))).mp c
    rw [if_neg c, Nat.min_eq_left (by omega)]
theorem z_agle (wf : Nat → Int32) (n : Nat) : (z_ag wf n).1 ≤ n := by
  induction n with
  | zero => exact Nat.le_refl _
  | succ n ih =>
    unfold z_ag
    split
    · exact Nat.le_refl _
    · omega
theorem z_bvn (x : Bool) : vp_nar .boolean (z_b x) = z_b x := by cases x <;> rfl
/-- what the first k of the order bring, from the year y on -/
def z_e (T : Nat → Int32) (y j : Nat) : Nat := min (y + z_n (T j)) 8
def z_rB (B A T : Nat → Int32) (o : Nat → Nat) (y : Nat) : Nat → (Nat → Int32)
  | 0 => B
  | k + 1 => z_ad (z_rB B A T o y k) y (z_e T y (o k)) (A (o k))
def z_rN (N A P T : Nat → Int32) (o : Nat → Nat) (y : Nat) (pr : Int32) : Nat → (Nat → Int32)
  | 0 => N
  | k + 1 => z_ad (z_rN N A P T o y pr k) (z_n (P (o k)) * 8 + y) (z_n (P (o k)) * 8 + z_e T y (o k)) (A (o k) * pr)
def z_rY (Y A P T : Nat → Int32) (o : Nat → Nat) (y : Nat) : Nat → (Nat → Int32)
  | 0 => Y
  | k + 1 => z_ad (z_rY Y A P T o y k) ((z_n (P (o k)) * 8 + y) * 12) ((z_n (P (o k)) * 8 + z_e T y (o k)) * 12) (A (o k))
/-- the class's penalties: over years of a party, over parties -/
def z_py (Y U S N : Nat → Int32) (ra ca : Int32) (p : Nat) (b : Int64) : Nat → Int64
  | 0 => b
  | y + 1 => z_py Y U S N ra ca p b y + (z_pc (z_lk Y U S p y 12) ra (N (p * 8 + y)) ca).toInt64
def z_ps (Y U S N : Nat → Int32) (ra ca : Int32) : Nat → Int64
  | 0 => 0
  | p + 1 => z_py Y U S N ra ca p (z_ps Y U S N ra ca p) 8
theorem z_lti {k : Nat} {x : Int32} (b : Nat) (hb : b < 2 ^ 31) (e : x = nI k) (hk : k < 2 ^ 31) (c : ¬ nI b ≤ x) : k < b := by
  have := (not_congr (q_cge (y := nI b) (n := b) rfl e hk hb)).mp c
  omega
theorem z_has {w : Int32} {n : Nat} (hn : n ≤ 12) (h : (decide (0 ≤ w) && decide (w < nI n)) = true) : w = nI (z_n w) ∧ z_n w < n := by
  simp only [Bool.and_eq_true, decide_eq_true_eq] at h
  obtain ⟨j, hj, rfl⟩ := nI_of (x := w) (z_nlt.mpr h.1)
  have h2 := (nI_ltI hj (by omega)).mp h.2
  rw [z_nI hj]
  exact ⟨rfl, h2⟩
theorem z_cdn {a b c : Bool} (h : ¬ z_cd a b c = 0) : (a && b && c) = false := by
  cases a <;> cases b <;> cases c <;> first | rfl | exact absurd rfl h
theorem z_cdy {a b c : Bool} (h : z_cd a b c = 0) : (a && b && c) = true := by
  cases a <;> cases b <;> cases c <;> first | rfl | exact absurd h (by decide)
theorem z_ltn {a : Int32} {k : Nat} (hk : k + 1 < 2 ^ 31) : a < nI (k + 1) ↔ z_n a < k + 1 := by
  rw [z_lt, nI_toInt hk]
  unfold z_n Int32.toNatClampNeg
  omega
theorem z_bf1 {E : Nat → Int32} {i j : Nat} (h : E i < E j) : z_before E i j = true := by simp [z_before, h]
theorem z_bf2 {E : Nat → Int32} {i j : Nat} (h : E i = E j) (h2 : i < j) : z_before E i j = true := by simp [z_before, h, h2]
theorem z_bf3 {E : Nat → Int32} {i j : Nat} (h : ¬ E i < E j) (h2 : ¬ E i = E j) : z_before E i j = false := by
  unfold z_before; rw [decide_eq_false h, decide_eq_false h2]; rfl
theorem z_bf4 {E : Nat → Int32} {i j : Nat} (h : ¬ E i < E j) (h2 : ¬ i < j) : z_before E i j = false := by
  unfold z_before; rw [decide_eq_false h, decide_eq_false h2, Bool.and_false]; rfl
theorem z_us0 {b : Int32} {f : Nat → Int32} {r : Nat → Nat} (n : Nat) : z_us b f r 0 n = b := by
  induction n with
  | zero => rfl
  | succ n ih => rw [z_us, if_neg (by omega), ih, Int32.add_zero]
/-- the reference's welfare of the first k -/
def z_mw (lo up tp b : Int32) (A E : Nat → Int32) (n k : Nat) : Int32 := z_w lo up tp (min (z_n (z_us b A (fun j => z_rk E j n) k n)) (z_n up)) - z_us 0 (fun j => A j * E j) (fun j => z_rk E j n) k n
/-- the reference's run -/
def z_me (E T : Nat → Int32) (n t y k : Nat) : Nat := if z_rk E k n < t then z_e T y k else y
def z_mB (B A T E : Nat → Int32) (n t y : Nat) : Nat → (Nat → Int32)
  | 0 => B
  | k + 1 => z_ad (z_mB B A T E n t y k) y (z_me E T n t y k) (A k)
def z_mN (N A P T E : Nat → Int32) (n t y : Nat) (pr : Int32) : Nat → (Nat → Int32)
  | 0 => N
  | k + 1 => z_ad (z_mN N A P T E n t y pr k) (z_n (P k) * 8 + y) (z_n (P k) * 8 + z_me E T n t y k) (A k * pr)
def z_mY (Y A P T E : Nat → Int32) (n t y : Nat) : Nat → (Nat → Int32)
  | 0 => Y
  | k + 1 => z_ad (z_mY Y A P T E n t y k) ((z_n (P k) * 8 + y) * 12) ((z_n (P k) * 8 + z_me E T n t y k) * 12) (A k)
/-- the reference's penalties -/
def z_qy (Y U S N : Nat → Int32) (ra ca : Int32) (p : Nat) (b : Int64) : Nat → Int64
  | 0 => b
  | y + 1 => z_qy Y U S N ra ca p b y + z_pp (z_lk Y U S p y 12) ra (N (p * 8 + y)) ca
def z_qs (Y U S N : Nat → Int32) (ra ca : Int32) : Nat → Int64
  | 0 => 0
  | p + 1 => z_qy Y U S N ra ca p (z_qs Y U S N ra ca p) 8
theorem z_lge {x y : Int64} : 0 ≤ lg_cmp x y ↔ ¬ x < y := by
  rw [lg_cmp_ge, Int64.lt_iff_toInt_lt, Int64.le_iff_toInt_le]; omega
end
section
/-! What a class method needs to throw; how it throws before it writes. -/
abbrev q_IA : String := "java/lang/IllegalArgumentException"
abbrev q_IO : String := "java/lang/IndexOutOfBoundsException"
abbrev q_IS : String := "java/lang/IllegalStateException"
abbrev q_NS : List String := ["java/lang/RuntimeException", "java/lang/Exception"]
def q_xw : List Cond := (vx_atS RX2 58 q_IA q_NS ++ (vx_atS RX2 84 q_IO q_NS ++ vx_atS RX2 95 q_IS q_NS)).filter (fun w => !goodWord w)
def q_strs : List (Nat × String) := [(56, "lower, upper or top is out of range"), (65, "unit is out of range"), (71, "amount is out of range"), (82, "no such party"), (85, "capacity, derating, exit or term is out of range"), (93, "no room for another offer"), (103, "price is out of range"), (111, "no such year"), (126, "no such offer or year"), (132, "no offers wait"), (143, "no such party or year"), (152, "no such party, year or hour"), (158, "the same party, no hours, or amount is out of range"), (163, "the obligation is less than the amount"), (165, "no such year or hour"), (167, "output is out of range"), (169, "rate or cap is out of range")]
def q_XK (U : State) : Prop := (∀ w ∈ q_xw, w.before #[] U = true) ∧ vx_Zq Bundle.tN "UNASSIGNED_STACK" Bundle.steD (fun _ => False) U U.heap ∧ vx_Zq Bundle.tN "SUPPRESSED_SENTINEL" Bundle.listD (fun _ => False) U U.heap ∧ ∀ q ∈ q_strs, ∃ a : Nat, vk_R RX2 q.1 q.2 a U
def q_MX (D : va_G) (cl : List vw_C) (tys : List (ClassId × FieldType)) (ws : va_W) : State → Prop := fun U => q_M D cl tys ws U ∧ q_XK U
theorem q_xwot : ∀ w ∈ q_xw, vx_ot w = true := by decide +kernel
theorem q_XK.go {u U : State} (hW : u.WarmedH U.vm) (hvm : u.vm = U.vm) (hh : U.heap = u.heap) (h : q_XK u) : q_XK U := by
  obtain ⟨h1, h2, h3, h4⟩ := h
  refine ⟨fun w hw => vx_ot_at hW hvm (q_xwot w hw) (h1 w hw), ?_, ?_, fun q hq => ?_⟩
  · rw [hh]; exact vx_Zq.moved hW.alike h2
  · rw [hh]; exact vx_Zq.moved hW.alike h3
  · obtain ⟨a, ha⟩ := h4 q hq
    exact ⟨a, vk_R.same hvm.symm ha⟩
theorem q_MXb {D : va_G} {cl : List vw_C} {tys : List (ClassId × FieldType)} {ws : va_W} {av : List Value} : FrameBlind (va_Pc av (q_MX D cl tys ws)) := fun a U g mk q => ⟨q.1, ⟨q.2.1.1, va_K.moved (u := U) (U := U.calling g mk a) (Vm.Alike.refl U.vm) q.2.1.2.1, q.2.1.2.2⟩, q_XK.go (u := U) (U := U.calling g mk a) (State.WarmedH.refl U) rfl rfl q.2.2⟩
abbrev q_ec (xs : List String) (cd : Int32) : String → Prop := fun E => ∃ i : Nat, xs[i]? = some E ∧ cd = nI (i + 1)
theorem z_cd1 {a b c : Bool} (h : a = false) : z_cd a b c = nI 1 := by subst h; rfl
theorem z_cd2 {a b c : Bool} (h : a = true) (h2 : b = false) : z_cd a b c = nI 2 := by subst h; subst h2; rfl
theorem z_cd3 {a b c : Bool} (h : a = true) (h2 : b = true) (h3 : c = false) : z_cd a b c = nI 3 := by subst h; subst h2; subst h3; rfl
theorem z_cd0 {a b c : Bool} (h : a = true) (h2 : b = true) (h3 : c = true) : z_cd a b c = 0 := by subst h; subst h2; subst h3; rfl
section QTH
variable {p : Program} {l : Launch} {e : Env} {R : Room} {s : State} {m : MethodId} {args : Array Value} {below : List Frame} {meth : Method} {c : Code}
theorem q_thr {cc : ByteArray} {pc : Nat} (hexec : p.tables.exec = Jvm.exec) (hb : c.code = cc) (hl : l.stackTraces = false) {cls : String} {ik is ic nL : Nat} {q : Nat × String} {ls : Array Slot} {rest : List Value} {Qc : Array Value → State → Outcome → State → Prop} {px : String → Prop} {free : Addr → Prop}
    (hown : s.vm.findClass RX2 = some m.cls) (hcls : Bundle.fit cls = true) (hk : (Cond.classLink RX2 ik cls).before args s = true) (hini : (Cond.initialized cls).before args s = true) (hXK : q_XK s) (hq : q ∈ q_strs) (hqi : q.1 = is)
    (hat1 : ∀ w ∈ (vx_atS RX2 ic cls q_NS).filter goodWord, w.before args s = true) (hat2 : ∀ w ∈ (vx_atS RX2 ic cls q_NS).filter (fun w => !goodWord w), w ∈ q_xw)
    (hgood : ∀ w ∈ Cond.classLink RX2 ik cls :: Cond.initialized cls :: vx_atS RX2 ic cls q_NS, vx_ot w = true)
    (hsize : ls.size = nL) (hml : c.maxLocals = nL) (htab : ∀ x ∈ c.exceptionTable.toList, False) (hlocks : meth.locks = false)
    (d0 : decode cc pc = .ok (.new ik, 3)) (d3 : decode cc (pc + 3) = .ok (.dup, 1)) (d4 : decode cc (pc + 4) = .ok (.ldc is, 2)) (d6 : decode cc (pc + 6) = .ok (.invokespecial ic, 3)) (d9 : decode cc (pc + 9) = .ok (.athrow, 1))
    (hRf : 5 < R.frames) (hRl : (rest.map fun v => v.category).sum + 82 ≤ R.locals) (hRc : 1 ≤ R.cells) (hRs : 6 ≤ R.slots) (hpx : px cls) :
    W p l e R s m args below meth c s.heap [] 0 0 (vx_MQ below Qc (q_X px) args s 1 6 free) (F0 m pc ls rest) := by
  obtain ⟨h1, h2, h3, h4⟩ := hXK
  obtain ⟨sa, hsa⟩ := h4 q hq
  rw [hqi] at hsa
  refine vx_throwS (A := fun _ => False) (own := RX2) (cls := cls) (text := q.2) (names := q_NS) (ik := ik) (is := is) (ic := ic) (sa := sa) hexec hb hl hown hcls (by decide +kernel) hk hini hsa ?_ hgood h2 h3 va_S.rf (hsize.trans hml.symm) d0 d3 d4 d6 d9 (fun x hx => (htab x hx).elim) hRf ?_ (by omega) (by omega) hlocks ?_ (fun z hz => nomatch hz) (by omega) (by omega)
  · exact vx_hat hat1 hat2 (fun w hw => vx_ot_at (State.WarmedH.refl s) rfl (q_xwot w hw) (h1 w hw))
  · show _ + (13 * (2 + 1) + 43) ≤ _
    omega
  · intro t ht hz hk9
    exact ⟨hpx, hz, fun q hq _ => hk9 q hq⟩
theorem q_inIA : ∀ w ∈ (vx_atS RX2 58 q_IA q_NS).filter (fun w => !goodWord w), w ∈ q_xw := by decide +kernel
theorem q_inIO : ∀ w ∈ (vx_atS RX2 84 q_IO q_NS).filter (fun w => !goodWord w), w ∈ q_xw := by decide +kernel
theorem q_inIS : ∀ w ∈ (vx_atS RX2 95 q_IS q_NS).filter (fun w => !goodWord w), w ∈ q_xw := by decide +kernel
theorem q_gdIA : ∀ w ∈ Cond.classLink RX2 54 q_IA :: Cond.initialized q_IA :: vx_atS RX2 58 q_IA q_NS, vx_ot w = true := by decide +kernel
theorem q_gdIO : ∀ w ∈ Cond.classLink RX2 80 q_IO :: Cond.initialized q_IO :: vx_atS RX2 84 q_IO q_NS, vx_ot w = true := by decide +kernel
theorem q_gdIS : ∀ w ∈ Cond.classLink RX2 91 q_IS :: Cond.initialized q_IS :: vx_atS RX2 95 q_IS q_NS, vx_ot w = true := by decide +kernel
end QTH
end
section
theorem z_lsn {f : Nat → Int32} {p k : Nat} {x : Int32} (h : ¬ f (p + k) < z_ls f p (k - 1)) (e : x = z_ls f p (k - 1)) : x = z_ls f p ((k + 1) - 1) := by
  cases k with
  | zero => exact e
  | succ k =>
    rw [e]
    show z_ls f p k = z_ls f p (k + 1)
    rw [z_ls, if_neg (show ¬ f (p + (k + 1)) < z_ls f p k from h)]
theorem z_lsy {f : Nat → Int32} {p k : Nat} (h : f (p + k) < z_ls f p (k - 1)) : f (p + k) = z_ls f p ((k + 1) - 1) := by
  cases k with
  | zero =>
    have h2 : f p < f p := h
    rw [z_lt] at h2
    exact absurd h2 (by omega)
  | succ k =>
    show f (p + (k + 1)) = z_ls f p (k + 1)
    rw [z_ls, if_pos (show f (p + (k + 1)) < z_ls f p k from h)]
theorem z_mele (E T : Nat → Int32) (n t y k : Nat) (hy : y ≤ 8) : y ≤ z_me E T n t y k ∧ z_me E T n t y k ≤ 8 := by
  unfold z_me z_e
  split <;> omega
theorem z_meT {E T : Nat → Int32} {n t y k a : Nat} (h : y + z_n (T k) ≤ a) (h2 : a ≤ z_me E T n t y k) : a = z_me E T n t y k := by
  unfold z_me z_e at *
  split at h2 <;> rename_i q
  · rw [if_pos q]; omega
  · rw [if_neg q]; omega
theorem z_meR {E T : Nat → Int32} {n t y k a : Nat} (h : ¬ z_rk E k n < t) (h1 : y ≤ a) (h2 : a ≤ z_me E T n t y k) : a = z_me E T n t y k := by
  unfold z_me at *
  rw [if_neg h] at *
  omega
theorem z_meL {E T : Nat → Int32} {n t y k a : Nat} (h : z_rk E k n < t) (h1 : a < 8) (h2 : a < y + z_n (T k)) : a < z_me E T n t y k := by
  unfold z_me z_e
  rw [if_pos h]; omega
end
section
/-! The law's wrappers: a call of the class that may throw, caught. -/
def q_isC (w : Cond) : Bool := match w with
  | .castable _ _ => true
  | .declares _ => true
  | _ => false
theorem q_isCs {w : Cond} (h : q_isC w = true) : (∃ C T, w = Cond.castable C T) ∨ ∃ x, w = Cond.declares x := by
  cases w <;> first | exact Or.inl ⟨_, _, rfl⟩ | exact Or.inr ⟨_, rfl⟩ | exact absurd h (by simp [q_isC])
theorem q_xwc : ∀ w ∈ q_xw, q_isC w = true := by decide +kernel
theorem q_castmv {C T : String} {u U : State} (hvm : u.vm.Alike U.vm) (h : (Cond.castable C T).before #[] u = true) : (Cond.castable C T).before #[] U = true := by
  have e := Cond.onTables_vm (A := #[]) (A' := #[]) (U := u) (U' := U) U.vm (Cond.castable C T) rfl
  have hU : U.setVm U.vm = U := rfl
  rw [hU] at e
  rw [← e, Cond.castable_setVm hvm]
  exact h
theorem q_declmv {x : MethodName} {u U : State} (hvm : u.vm.Alike U.vm) (h : (Cond.declares x).before #[] u = true) : (Cond.declares x).before #[] U = true := by
  have e := Cond.onTables_vm (A := #[]) (A' := #[]) (U := u) (U' := U) U.vm (Cond.declares x) rfl
  have hU : U.setVm U.vm = U := rfl
  rw [hU] at e
  rw [← e, Cond.declares_setVm hvm]
  exact h
def q_XKH (s : State) (H : Heap) : Prop := (∀ w ∈ q_xw, w.before #[] s = true) ∧ vx_Zq Bundle.tN "UNASSIGNED_STACK" Bundle.steD (fun _ => False) s H ∧ vx_Zq Bundle.tN "SUPPRESSED_SENTINEL" Bundle.listD (fun _ => False) s H ∧ ∀ q ∈ q_strs, ∃ a : Nat, vk_R RX2 q.1 q.2 a s
theorem q_XKH.at {s U : State} {H : Heap} (h : q_XKH s H) (hU : U.heap = H) (hW : s.WarmedH U.vm) : q_XK U := by
  obtain ⟨h1, h2, h3, h4⟩ := h
  refine ⟨fun w hw => ?_, ?_, ?_, fun q hq => ?_⟩
  · have h9 := h1 w hw
    rcases q_isCs (q_xwc w hw) with ⟨C, T, rfl⟩ | ⟨x, rfl⟩
    · exact q_castmv hW.alike h9
    · exact q_declmv hW.alike h9
  · rw [hU]; exact vx_Zq.moved hW.alike h2
  · rw [hU]; exact vx_Zq.moved hW.alike h3
  · obtain ⟨a, ha⟩ := h4 q hq
    exact ⟨a, vk_R.warm hW ha⟩
def q_NC (U : State) : Prop := va_Nc q_IA q_IO U ∧ va_Nc q_IS q_IO U ∧ va_Nc q_IS q_IA U
theorem q_NC.moved {u U : State} (hvm : u.vm.Alike U.vm) (h : q_NC u) : q_NC U := ⟨va_Nc.moved hvm h.1, va_Nc.moved hvm h.2.1, va_Nc.moved hvm h.2.2⟩
def q_ML (D : va_G) (cl : List vw_C) (tys : List (ClassId × FieldType)) (ws : va_W) : State → Prop := fun U => q_M D cl tys ws U ∧ q_XK U ∧ q_NC U
theorem q_MLb {D : va_G} {cl : List vw_C} {tys : List (ClassId × FieldType)} {ws : va_W} {av : List Value} : FrameBlind (va_Pc av (q_ML D cl tys ws)) := fun a U g mk q => ⟨q.1, ⟨q.2.1.1, va_K.moved (u := U) (U := U.calling g mk a) (Vm.Alike.refl U.vm) q.2.1.2.1, q.2.1.2.2⟩, q_XK.go (u := U) (U := U.calling g mk a) (State.WarmedH.refl U) rfl rfl q.2.2.1, q_NC.moved (u := U) (U := U.calling g mk a) (Vm.Alike.refl U.vm) q.2.2.2⟩
theorem q_cst {s : State} (h : q_XK s) {E : String} (hE : Cond.castable E E ∈ q_xw) (args : Array Value) : (Cond.castable E E).before args s = true := vx_ot_at (State.WarmedH.refl s) rfl rfl (h.1 _ hE)
theorem q_cA : Cond.castable q_IA q_IA ∈ q_xw := by decide +kernel
theorem q_cO : Cond.castable q_IO q_IO ∈ q_xw := by decide +kernel
theorem q_cS : Cond.castable q_IS q_IS ∈ q_xw := by decide +kernel
theorem q_ec1 {a E : String} {cd : Int32} (h : q_ec [a] cd E) : E = a ∧ cd = 1 := by
  obtain ⟨i, h1, h2⟩ := h
  match i, h1, h2 with
  | 0, h1, h2 => exact ⟨(Option.some.inj h1).symm, h2⟩
  | i + 1, h1, _ => exact absurd h1 (by simp)
theorem q_ec2 {a b E : String} {cd : Int32} (h : q_ec [a, b] cd E) : (E = a ∧ cd = 1) ∨ (E = b ∧ cd = 2) := by
  obtain ⟨i, h1, h2⟩ := h
  match i, h1, h2 with
  | 0, h1, h2 => exact Or.inl ⟨(Option.some.inj h1).symm, h2⟩
  | 1, h1, h2 => exact Or.inr ⟨(Option.some.inj h1).symm, h2⟩
  | i + 2, h1, _ => exact absurd h1 (by simp)
theorem q_ec3 {a b d E : String} {cd : Int32} (h : q_ec [a, b, d] cd E) : (E = a ∧ cd = 1) ∨ (E = b ∧ cd = 2) ∨ (E = d ∧ cd = 3) := by
  obtain ⟨i, h1, h2⟩ := h
  match i, h1, h2 with
  | 0, h1, h2 => exact Or.inl ⟨(Option.some.inj h1).symm, h2⟩
  | 1, h1, h2 => exact Or.inr (Or.inl ⟨(Option.some.inj h1).symm, h2⟩)
  | 2, h1, h2 => exact Or.inr (Or.inr ⟨(Option.some.inj h1).symm, h2⟩)
  | i + 3, h1, _ => exact absurd h1 (by simp)
theorem q_ec0 {xs : List String} {E : String} {cd : Int32} (h : q_ec xs cd E) (hl : xs.length ≤ 3) (h0 : cd = 0) : False := by
  obtain ⟨i, h1, h2⟩ := h
  have hi : i < xs.length := (List.getElem?_eq_some_iff.mp h1).1
  rw [h0] at h2
  exact nI_ne0 (n := i + 1) (by omega) (by omega) h2.symm
def z_bl (x : Bool) : Int64 := if x then 1 else 0
section QXV
variable {p : Program} {l : Launch} {e : Env} {R : Room} {s : State} {m : MethodId} {args : Array Value} {below : List Frame} {meth : Method} {c : Code} {H : Heap} {locs : List Loc} {cells slots : Nat} {Q : State → Prop}
variable {pc : Nat} {ls : Array Slot} {rest st0 : List Value}
variable {y : MethodName} {bytes cc : ByteArray} {maxL nL n index : Nat} {ret : Option FieldType} {wsy : List Cond} {rm : Room} {Ts : List Cond} {own C : String} {b : Addr} {As : List Value}
variable {D : va_G} {cl : List vw_C} {tys : List (ClassId × FieldType)} {ws wc wc' ws' : va_W} {A A0 : Nat → Prop} {H0 : Heap}
theorem q_xV {v : Option Value} {cond : Prop} {px : String → Prop} (S : CallFix p m c cc nL s args Ts own) (hM : vx_Met l y wsy rm (va_Pc (.ref b :: As) (q_MX D cl tys wc)) (q_V cond v D cl wc' (q_B wc)) (q_X px) 1 6 (q_B wc)) (cw : CallW R s args own C index y bytes maxL ret wsy rm 1 6 n)
    (hK : va_K D cl tys s) (hX : q_XKH s H) (hP : va_P D cl ws H) (hD : va_D A0 ws) (hS : va_S A0 H0 H locs) (isC : List Nat) (hCs : isC.map (fun i => ws[i]?) = wc.map some) (hnd : va_nd isC = true)
    (src : List (Bool × Nat)) (h' : src.map (fun q => if q.1 then wc'[q.2]? else ws[q.2]?) = ws'.map some) (hsn : src.all (fun q => q.1 || !(isC.contains q.2)) = true) (ha : ws'.map Prod.fst = ws.map Prod.fst)
    (ci q0 : Nat) {q : vw_C} {fs : List Value} (hc : cl[ci]? = some q) (hC : q.1 = C) (he : wc[q0]? = some (b, .inr (ci, fs))) (hn : As.length = n) (hsize : ls.size = nL) (hst : st0 = As.reverse ++ .ref b :: rest)
    (hW : (rest.map fun v => v.category).sum ≤ 8) (hdg : decode cc pc = .ok (.invokevirtual index, 3)) (hf : cells + 1 ≤ R.cells ∧ slots + 6 ≤ R.slots)
    (kx : ∀ (E : String) (ce : Cell) (q9 : Addr) (H1 : Heap) (locs1 : List Loc), px E → va_P D cl ws H1 → va_D A0 ws → va_S A0 H0 H1 locs1 → H1[q9]? = some ce → ce.vm = .none → s.vm.findClass E = some ce.cls → vx_W p l e R s m args below meth c H1 locs1 (cells + 1) (slots + 6) Q (F0 m pc ls rest) q9)
    (kk : ∀ (H1 : Heap) (locs1 : List Loc), cond → va_P D cl ws' H1 → va_D A0 ws' → va_S A0 H0 H1 locs1 → W p l e R s m args below meth c H1 locs1 (cells + 1) (slots + 6) Q (F0 m (pc + 3) ls (v.toList ++ rest))) : W p l e R s m args below meth c H locs cells slots Q (F0 m pc ls st0) := by
  subst hC
  have hPc : va_P D cl wc H := by
    intro k z hz
    have h1 : (isC.map (fun i => ws[i]?))[k]? = some (some z) := by rw [hCs, List.getElem?_map, hz]; rfl
    rw [List.getElem?_map] at h1
    cases hi : isC[k]? with
    | none => rw [hi] at h1; cases h1
    | some i => rw [hi] at h1; exact hP i z (Option.some.inj h1)
  have hDc : va_D A0 wc := hD.sub isC hnd hCs
  have hin := q_Bin hD isC hCs
  have hr : vx_Run p l e R s m args below meth c H locs cells slots 1 6 (F0 m pc ls st0) rest (q_V cond v D cl wc' (q_B wc) (Value.ref b :: As).toArray) (q_X px) (q_B wc) := vx_runV S hM cw ⟨q_MXb, va_recv hK hPc hc he, fun U hU hW => ⟨rfl, ⟨by rw [hU]; exact hPc, va_K.moved hW.alike hK, q_Dall hDc⟩, hX.at hU hW⟩⟩ rfl hn hsize hst (lv_room (m := m) (pc := pc) (ls := ls) (rest := st0) hW) hdg hf
  intro T hT X
  rcases hr T hT X with ⟨v', st₀, t, T', L, h0, X', hL, e1, e2, ⟨hcd, hv, hP1, hF⟩, st⟩ | ⟨q9, st₀, t, T', L, E, ce, h0, X', hL, e1, e2, ⟨hpx, hF⟩, hce, hcv, hcl, st⟩
  · cases hv
    obtain ⟨k1, k2, k3⟩ := vx_keep h0 e1 hS (fun q _ hq => hin q hq) hin hL hF
    rw [← e1] at hP1
    obtain ⟨j1, j2⟩ := q_join hP hD isC hCs src h' hsn ha (fun _ h => h) k2 hP1
    obtain ⟨t2, a1, b1⟩ := kk T'.heap (locs ++ L) hcd j1 j2 k3 T' rfl X'
    exact ⟨t2, st t2 a1, b1⟩
  · obtain ⟨k1, k2, k3⟩ := vx_keep h0 e1 hS (fun q _ hq => hq.elim) hin hL hF
    have hP2 : va_P D cl ws T'.heap := hP.kept (fun k z hz => k2 z.1 (hP k z hz).lt (fun h => h))
    obtain ⟨t2, a1, b1⟩ := kx E ce q9 T'.heap (locs ++ L) hpx hP2 hD k3 (by rw [e1]; exact hce) hcv hcl T' rfl X'
    exact ⟨t2, st.trans a1, b1⟩
end QXV
end
section
/-! Constructors: cells that come. -/
def q_I (D : va_G) (cl : List vw_C) (tys : List (ClassId × FieldType)) (ws : va_W) (sz : Nat) : State → Prop := fun U => U.heap.size = sz ∧ va_P D cl ws U.heap ∧ va_K D cl tys U ∧ va_D (fun _ => True) ws
theorem q_Ib {D : va_G} {cl : List vw_C} {tys : List (ClassId × FieldType)} {ws : va_W} {sz : Nat} {av : List Value} : FrameBlind (va_Pc av (q_I D cl tys ws sz)) := fun a U g mk q => ⟨q.1, q.2.1, q.2.2.1, va_K.moved (u := U) (U := U.calling g mk a) (Vm.Alike.refl U.vm) q.2.2.2.1, q.2.2.2.2⟩
theorem q_cAI {D : va_G} {cl : List vw_C} {cI cZ cJ cA : ClassId} {s : State} (h : va_K D cl (q_T cI cZ cJ ++ [(cA, .int)]) s) : cA = cI := by
  have h1 : s.vm.findClass ("[" ++ FieldType.int.toString) = some cI := (h.2 0 (cI, .int) rfl).2
  have h2 : s.vm.findClass ("[" ++ FieldType.int.toString) = some cA := (h.2 3 (cA, .int) rfl).2
  exact Option.some.inj (h2.symm.trans h1)
theorem q_cAZ {D : va_G} {cl : List vw_C} {cI cZ cJ cA : ClassId} {s : State} (h : va_K D cl (q_T cI cZ cJ ++ [(cA, .boolean)]) s) : cA = cZ := by
  have h1 : s.vm.findClass ("[" ++ FieldType.boolean.toString) = some cZ := (h.2 1 (cZ, .boolean) rfl).2
  have h2 : s.vm.findClass ("[" ++ FieldType.boolean.toString) = some cA := (h.2 3 (cA, .boolean) rfl).2
  exact Option.some.inj (h2.symm.trans h1)
theorem q_cAJ {D : va_G} {cl : List vw_C} {cI cZ cJ cA : ClassId} {s : State} (h : va_K D cl (q_T cI cZ cJ ++ [(cA, .long)]) s) : cA = cJ := by
  have h1 : s.vm.findClass ("[" ++ FieldType.long.toString) = some cJ := (h.2 2 (cJ, .long) rfl).2
  have h2 : s.vm.findClass ("[" ++ FieldType.long.toString) = some cA := (h.2 3 (cA, .long) rfl).2
  exact Option.some.inj (h2.symm.trans h1)
/-- what the tables say of an array class is known from the start -/
theorem q_arr {s : State} {args : Array Value} {ty : FieldType} (hty : ∀ C, ty ≠ .object C) (h : (Cond.arrayClass ty).before args s = true) : ∃ cA : ClassId, ArrOfT s cA ty ∧ va_RA s cA ty := by
  obtain ⟨cA, kA, comp, h1, h2, h3⟩ := Cond.arrayClass_spec (args := args) (s := s) h
  refine ⟨cA, fun n z => ⟨fun k h => (by cases h), kA, h2, comp, h3⟩, ?_⟩
  cases ty with
  | object C => exact absurd rfl (hty C)
  | _ => exact h1
end
section
/-! The order of the offers by exit prices: ranks, sums, the best first ones, both ways. -/
theorem z_bfi {E : Nat → Int32} {i j : Nat} : z_before E i j = true ↔ (E i).toInt < (E j).toInt ∨ ((E i).toInt = (E j).toInt ∧ i < j) := by
  unfold z_before
  simp only [Bool.or_eq_true, Bool.and_eq_true, decide_eq_true_eq, z_lt, Int32.toInt_inj]
theorem z_rkmono {E : Nat → Int32} {i j : Nat} (h : z_before E i j = true) (m : Nat) : z_rk E i m + (if i < m then 1 else 0) ≤ z_rk E j m := by
  induction m with
  | zero => simp [z_rk]
  | succ m ih =>
    unfold z_rk
    have h1 : z_before E m i = true → z_before E m j = true := by
      rw [z_bfi] at *
      rw [z_bfi] at *
      omega
    have h2 : z_before E i i = false := by
      cases hq : z_before E i i with
      | false => rfl
      | true => rw [z_bfi] at hq; omega
    by_cases hm : i = m
    · subst hm
      rw [h, h2]
      simp at ih ⊢
      omega
    · by_cases hb : z_before E m i = true
      · rw [if_pos hb, if_pos (h1 hb)]
        split at ih <;> split <;> omega
      · rw [if_neg hb]
        split at ih <;> split <;> split <;> omega
theorem z_rklt {E : Nat → Int32} {i j n : Nat} (h : z_before E i j = true) (hi : i < n) : z_rk E i n < z_rk E j n := by
  have h1 := z_rkmono h n
  rw [if_pos hi] at h1
  omega
theorem z_tot {E : Nat → Int32} {i j : Nat} (h : i ≠ j) : z_before E i j = true ∨ z_before E j i = true := by
  rw [z_bfi, z_bfi]; omega
theorem z_rkinj {E : Nat → Int32} {i j n : Nat} (hi : i < n) (hj : j < n) (h : z_rk E i n = z_rk E j n) : i = j := by
  rcases Nat.decEq i j with q | q
  · rcases z_tot (E := E) q with r | r
    · have := z_rklt r hi; omega
    · have := z_rklt r hj; omega
  · exact q
theorem z_rkE {E : Nat → Int32} {i j n : Nat} (hj : j < n) (h : z_rk E i n ≤ z_rk E j n) : (E i).toInt ≤ (E j).toInt := by
  rcases Nat.decEq i j with q | q
  · rcases z_tot (E := E) q with r | r
    · rw [z_bfi] at r; omega
    · have := z_rklt r hj; omega
  · rw [q]; exact Int.le_refl _
theorem z_rkn {E : Nat → Int32} {j n : Nat} (hj : j < n) : z_rk E j n < n := by
  have h2 : z_before E j j = false := by
    cases hq : z_before E j j with
    | false => rfl
    | true => rw [z_bfi] at hq; omega
  have key : ∀ m, j < m → z_rk E j m < m := by
    intro m
    induction m with
    | zero => omega
    | succ m ih =>
      intro h
      unfold z_rk
      by_cases q : j = m
      · subst q
        have := z_rkle E j j
        rw [h2]; simp; omega
      · have := ih (by omega)
        split <;> omega
  exact key n hj
/-- the order: places and ranks -/
def z_Or (E : Nat → Int32) (n : Nat) (o : Nat → Nat) : Prop := ∀ k, k < n → o k < n ∧ z_rk E (o k) n = k
theorem z_usstep {b : Int32} {f : Nat → Int32} {r : Nat → Nat} {c j0 : Nat} (n : Nat) (h : ∀ j, j < n → r j = c → j = j0) : z_us b f r (c + 1) n = z_us b f r c n + (if j0 < n ∧ r j0 = c then f j0 else 0) := by
  induction n with
  | zero => rw [if_neg (by omega), Int32.add_zero]; rfl
  | succ n ih =>
    have ih := ih (fun j hj => h j (by omega))
    rw [z_us, z_us, ih]
    by_cases q : r n = c
    · have e := h n (by omega) q
      subst e
      rw [if_neg (by omega), if_pos (by omega), if_neg (by omega), if_pos (by omega), Int32.add_zero]
    · by_cases q2 : r n < c
      · rw [if_pos (show r n < c + 1 by omega), if_pos q2]
        by_cases q3 : j0 < n ∧ r j0 = c
        · rw [if_pos q3, if_pos (by omega), Int32.add_assoc, Int32.add_assoc, Int32.add_comm (f j0)]
        · have q4 : ¬ (j0 < n + 1 ∧ r j0 = c) := by
            intro q5
            have : j0 ≠ n := fun e => q (by rw [← e]; exact q5.2)
            omega
          rw [if_neg q3, if_neg q4, Int32.add_zero, Int32.add_zero]
      · rw [if_neg (show ¬ r n < c + 1 by omega), if_neg q2, Int32.add_zero, Int32.add_zero]
        by_cases q3 : j0 < n ∧ r j0 = c
        · rw [if_pos q3, if_pos (by omega)]
        · have q4 : ¬ (j0 < n + 1 ∧ r j0 = c) := by
            intro q5
            have : j0 ≠ n := fun e => q (by rw [← e]; exact q5.2)
            omega
          rw [if_neg q3, if_neg q4]
theorem z_amus {E : Nat → Int32} {n : Nat} {o : Nat → Nat} (h : z_Or E n o) (b : Int32) (f : Nat → Int32) (k : Nat) (hk : k ≤ n) : z_am b f o k = z_us b f (fun j => z_rk E j n) k n := by
  induction k with
  | zero => rw [z_us0]; rfl
  | succ k ih =>
    obtain ⟨h1, h2⟩ := h k (by omega)
    rw [z_usstep (j0 := o k) n (fun j hj e => z_rkinj hj h1 (by rw [h2]; exact e)), if_pos ⟨h1, h2⟩, ← ih (by omega)]; rfl
theorem z_coam {A E : Nat → Int32} {o : Nat → Nat} (k : Nat) : z_co A E o k = z_am 0 (fun j => A j * E j) o k := by
  induction k with
  | zero => rfl
  | succ k ih => rw [z_co, ih]; rfl
theorem z_agcg {w w' : Nat → Int32} {n : Nat} (h : ∀ k, k ≤ n → w k = w' k) : z_ag w n = z_ag w' n := by
  induction n with
  | zero => unfold z_ag; rw [h 0 (Nat.le_refl _)]
  | succ n ih => unfold z_ag; rw [ih (fun k hk => h k (by omega)), h (n + 1) (Nat.le_refl _)]
/-- worths -/
theorem z_wconst {lo up tp : Int32} (hlu : lo.toInt < up.toInt) (hup : up = nI (z_n up)) (hu : z_n up ≤ 1001) (j : Nat) (hj : z_n up ≤ j) (hj2 : j ≤ 2000) : z_w lo up tp j = z_w lo up tp (z_n up) := by
  induction j with
  | zero => rw [show z_n up = 0 by omega]
  | succ j ih =>
    by_cases q : z_n up = j + 1
    · rw [q]
    · have e1 : (nI (j + 1)).toInt = ((j + 1 : Nat) : Int) := nI_toInt (by omega)
      have e2 : up.toInt = (z_n up : Int) := by rw [hup, z_nI (by omega)]; exact nI_toInt (by omega)
      have hv : z_v lo up tp (nI (j + 1)) = 0 := by
        unfold z_v
        rw [if_neg (by rw [z_le]; omega), if_neg (by rw [z_le]; omega)]
      rw [z_w, ih (by omega) (by omega), hv, Int32.add_zero]
theorem z_worth {lo up tp : Int32} {fW : Nat → Int32} (hlu : lo.toInt < up.toInt) (hup : up = nI (z_n up)) (hu : z_n up ≤ 1001) (hW : ∀ j, j ≤ 1001 → fW j = z_w lo up tp j) (a : Int32) : fW (z_wi a) = z_w lo up tp (min (z_n a) (z_n up)) := by
  have h1 := z_wil a
  rw [hW _ (by omega)]
  unfold z_wi
  rcases Nat.le_total (z_n a) (z_n up) with q | q
  · rw [Nat.min_eq_left q, Nat.min_eq_left (by omega)]
  · rw [Nat.min_eq_right q]
    exact z_wconst hlu hup hu _ (by omega) (by omega)
theorem z_wfmw {lo up tp b : Int32} {fW A E : Nat → Int32} {n : Nat} {o : Nat → Nat} (h : z_Or E n o) (hlu : lo.toInt < up.toInt) (hup : up = nI (z_n up)) (hu : z_n up ≤ 1001) (hW : ∀ j, j ≤ 1001 → fW j = z_w lo up tp j) (k : Nat) (hk : k ≤ n) : z_wf fW b A E o k = z_mw lo up tp b A E n k := by
  unfold z_wf z_mw
  rw [z_worth hlu hup hu hW, z_coam, z_amus h b A k hk, z_amus h 0 _ k hk]
/-- the price of the first t, by maxima -/
theorem z_prinv {E : Nat → Int32} {r : Nat → Nat} {t : Nat} (m : Nat) : (∀ j, j < m → r j < t → (E j).toInt ≤ (z_pr E r t m).toInt) ∧ (z_pr E r t m = 0 ∨ ∃ j, j < m ∧ r j < t ∧ z_pr E r t m = E j) ∧ 0 ≤ (z_pr E r t m).toInt := by
  induction m with
  | zero => exact ⟨fun j hj => by omega, Or.inl rfl, by show 0 ≤ (0 : Int32).toInt; decide⟩
  | succ m ih =>
    obtain ⟨h1, h2, h3⟩ := ih
    unfold z_pr
    by_cases q : r m < t ∧ z_pr E r t m < E m
    · rw [if_pos q]
      have q2 := z_lt.mp q.2
      refine ⟨fun j hj hr => ?_, Or.inr ⟨m, by omega, q.1, rfl⟩, by omega⟩
      rcases Nat.lt_or_ge j m with c | c
      · have := h1 j c hr; omega
      · rw [show j = m by omega]; exact Int.le_refl _
    · rw [if_neg q]
      refine ⟨fun j hj hr => ?_, ?_, h3⟩
      · rcases Nat.lt_or_ge j m with c | c
        · exact h1 j c hr
        · have e : j = m := by omega
          subst e
          have : ¬ (z_pr E r t j).toInt < (E j).toInt := fun x => q ⟨hr, z_lt.mpr x⟩
          omega
      · rcases h2 with h2 | ⟨j, a1, a2, a3⟩
        · exact Or.inl h2
        · exact Or.inr ⟨j, by omega, a2, a3⟩
theorem z_popr {E : Nat → Int32} {n t : Nat} {o : Nat → Nat} (h : z_Or E n o) (ht : t ≤ n) (hE : ∀ j, j < n → 0 ≤ (E j).toInt) : z_po E o t = z_pr E (fun j => z_rk E j n) t n := by
  obtain ⟨h1, h2, h3⟩ := z_prinv (E := E) (r := fun j => z_rk E j n) (t := t) n
  cases t with
  | zero =>
    rcases h2 with h2 | ⟨j, a1, a2, a3⟩
    · exact h2.symm
    · omega
  | succ t =>
    obtain ⟨g1, g2⟩ := h t (by omega)
    have k1 := h1 (o t) g1 (by show z_rk E (o t) n < t + 1; omega)
    have k0 := hE (o t) g1
    apply Int32.toInt_inj.mp
    show (E (o t)).toInt = _
    rcases h2 with h2 | ⟨j, a1, a2, a3⟩
    · have e0 : (z_pr E (fun j => z_rk E j n) (t + 1) n).toInt = 0 := by rw [h2]; decide
      omega
    · have e1 := z_rkE (E := E) (i := j) g1 (by rw [g2]; have a2' : z_rk E j n < t + 1 := a2; omega)
      rw [a3] at k1 ⊢
      omega
theorem z_memrk {E : Nat → Int32} {n t w : Nat} {o : Nat → Nat} (h : z_Or E n o) (ht : t ≤ n) (hw : w < n) : z_mem o w t = decide (z_rk E w n < t) := by
  by_cases q : z_rk E w n < t
  · obtain ⟨g1, g2⟩ := h _ (show z_rk E w n < n by omega)
    rw [decide_eq_true q]
    exact z_memt q (z_rkinj g1 hw g2)
  · rw [decide_eq_false q]
    have key : ∀ m, m ≤ t → z_mem o w m = false := by
      intro m
      induction m with
      | zero => intro _; rfl
      | succ m ih =>
        intro hm
        refine z_mems (ih (by omega)) (fun e => q ?_)
        obtain ⟨g1, g2⟩ := h m (by omega)
        rw [← e, g2]; omega
    exact key t (Nat.le_refl _)
end
section
/-! The falling clock finds the same price. -/
theorem z_deis {Z E : Nat → Int32} {n t : Nat} {o : Nat → Nat} (h : z_Or E n o) (hn : n ≤ 12) (ht : t ≤ n) (hZ : ∀ j, j < n → (¬ Z j = 0 ↔ z_rk E j n < t)) : z_de Z E n = if t = 0 then -1 else nI (o (t - 1)) := by
  have key : ∀ m, m ≤ n → (z_de Z E m = -1 ∧ ∀ j, j < m → ¬ z_rk E j n < t) ∨ ∃ j, j < m ∧ z_de Z E m = nI j ∧ z_rk E j n < t ∧ ∀ i, i < m → z_rk E i n < t → z_rk E i n ≤ z_rk E j n := by
    intro m
    induction m with
    | zero => intro _; exact Or.inl ⟨rfl, fun j hj => by omega⟩
    | succ m ih =>
      intro hm
      by_cases c1 : Z m = 0
      · rw [z_de1 c1]
        have hr : ¬ z_rk E m n < t := fun q => (hZ m (by omega)).mpr q c1
        rcases ih (by omega) with ⟨a1, a2⟩ | ⟨j, a1, a2, a3, a4⟩
        · refine Or.inl ⟨a1, fun j hj => ?_⟩
          rcases Nat.lt_or_ge j m with q | q
          · exact a2 j q
          · rw [show j = m by omega]; exact hr
        · refine Or.inr ⟨j, by omega, a2, a3, fun i hi hit => ?_⟩
          rcases Nat.lt_or_ge i m with q | q
          · exact a4 i q hit
          · exact absurd (show z_rk E m n < t by rw [← show i = m by omega]; exact hit) hr
      · have hr : z_rk E m n < t := (hZ m (by omega)).mp c1
        rcases ih (by omega) with ⟨a1, a2⟩ | ⟨j, a1, a2, a3, a4⟩
        · rw [z_de2 c1 a1]
          refine Or.inr ⟨m, by omega, rfl, hr, fun i hi hit => ?_⟩
          rcases Nat.lt_or_ge i m with q | q
          · exact absurd hit (a2 i q)
          · rw [show i = m by omega]; exact Nat.le_refl _
        · have hnm : ¬ z_de Z E m = -1 := by rw [a2]; exact z_nm1 (by omega)
          have hzn : z_n (z_de Z E m) = j := by rw [a2]; exact z_nI (by omega)
          by_cases c3 : E j ≤ E m
          · rw [z_de3 c1 hnm (by rw [hzn]; exact c3)]
            have hb : z_before E j m = true := by rw [z_bfi]; rw [z_le] at c3; omega
            have hl := z_rklt (n := n) hb (by omega)
            refine Or.inr ⟨m, by omega, rfl, hr, fun i hi hit => ?_⟩
            rcases Nat.lt_or_ge i m with q | q
            · have := a4 i q hit; omega
            · rw [show i = m by omega]; exact Nat.le_refl _
          · rw [z_de4 c1 hnm (by rw [hzn]; exact c3)]
            have hb : z_before E m j = true := by rw [z_bfi]; rw [z_le] at c3; omega
            have hl := z_rklt (n := n) hb (by omega)
            refine Or.inr ⟨j, by omega, a2, a3, fun i hi hit => ?_⟩
            rcases Nat.lt_or_ge i m with q | q
            · exact a4 i q hit
            · rw [show i = m by omega]; omega
  rcases key n (Nat.le_refl _) with ⟨a1, a2⟩ | ⟨j, a1, a2, a3, a4⟩
  · by_cases q : t = 0
    · rw [if_pos q]; exact a1
    · obtain ⟨g1, g2⟩ := h (t - 1) (by omega)
      exact absurd (show z_rk E (o (t - 1)) n < t by omega) (a2 _ g1)
  · rw [if_neg (by omega)]
    obtain ⟨g1, g2⟩ := h (t - 1) (by omega)
    have := a4 _ g1 (by omega)
    rw [a2, z_rkinj (E := E) a1 g1 (by omega)]
section CLK
variable {E : Nat → Int32} {n : Nat} {o : Nat → Nat} {f : Nat → Int32}
theorem z_kIis (h : z_Or E n o) (hn : n ≤ 12) (i : Nat) (hi : i ≤ n) : ∀ j, j < n → (¬ z_kI f E n i j = 0 ↔ z_rk E j n < n - i) := by
  induction i with
  | zero =>
    intro j hj
    have h1 := z_rkn (E := E) hj
    have h2 : z_kI f E n 0 j = 1 := by show z_one f n j = 1; unfold z_one; rw [if_pos hj]
    rw [h2]
    exact ⟨fun _ => by omega, fun _ => by decide⟩
  | succ i ih =>
    intro j hj
    have hd := z_deis h hn (by omega) (ih (by omega))
    rw [if_neg (by omega)] at hd
    obtain ⟨g1, g2⟩ := h (n - i - 1) (by omega)
    have e : z_kI f E n (i + 1) j = if j = o (n - i - 1) then 0 else z_kI f E n i j := by
      show upd (z_kI f E n i) (z_n (z_de (z_kI f E n i) E n)) 0 j = _
      rw [hd, z_nI (by omega)]; rfl
    rw [e]
    by_cases q : j = o (n - i - 1)
    · rw [if_pos q]
      subst q
      exact ⟨fun x => absurd rfl x, fun x => by omega⟩
    · rw [if_neg q, ih (by omega) j hj]
      have hne : z_rk E j n ≠ n - i - 1 := fun x => q (z_rkinj hj g1 (by rw [g2]; exact x))
      omega
theorem z_klis (h : z_Or E n o) (hn : n ≤ 12) (i : Nat) (hi : i ≤ n) : z_kl f E n i = if n - i = 0 then -1 else nI (o (n - i - 1)) := z_deis h hn (by omega) (z_kIis h hn i hi)
theorem z_klne (h : z_Or E n o) (hn : n ≤ 12) (i : Nat) (hi : i < n) : ¬ z_kl f E n i = -1 := by
  rw [z_klis h hn i (by omega), if_neg (by omega)]
  have := (h (n - i - 1) (by omega)).1
  exact z_nm1 (by omega)
theorem z_amid {b : Int32} {A : Nat → Int32} {r : Nat → Nat} {c : Nat} (m : Nat) (hr : ∀ j, j < m → r j < c) : z_am b A (fun j => j) m = z_us b A r c m := by
  induction m with
  | zero => rfl
  | succ m ih => rw [z_am, z_us, ih (fun j hj => hr j (by omega)), if_pos (hr m (by omega))]
theorem z_kais (h : z_Or E n o) (hn : n ≤ 12) (b : Int32) (A : Nat → Int32) (i : Nat) (hi : i ≤ n) : z_ka f E n b A i = z_am b A o (n - i) := by
  induction i with
  | zero =>
    show z_am b A (fun j => j) n = z_am b A o n
    rw [z_amid (r := fun j => z_rk E j n) n (fun j hj => z_rkn hj), z_amus h b A n (Nat.le_refl _)]
  | succ i ih =>
    obtain ⟨g1, g2⟩ := h (n - i - 1) (by omega)
    rw [z_ka, ih (by omega), z_klis h hn i (by omega), if_neg (by omega), z_nI (by omega), show n - i = n - (i + 1) + 1 by omega, z_am, show n - (i + 1) + 1 - 1 = n - (i + 1) by omega, Int32.add_sub_cancel]
theorem z_kcis (h : z_Or E n o) (hn : n ≤ 12) (A : Nat → Int32) (i : Nat) (hi : i ≤ n) : z_kc f E n A i = z_co A E o (n - i) := by
  induction i with
  | zero =>
    show z_co A E (fun j => j) n = z_co A E o n
    rw [z_coam, z_coam, z_amid (r := fun j => z_rk E j n) n (fun j hj => z_rkn hj), z_amus h 0 _ n (Nat.le_refl _)]
  | succ i ih =>
    obtain ⟨g1, g2⟩ := h (n - i - 1) (by omega)
    rw [z_kc, ih (by omega), z_klis h hn i (by omega), if_neg (by omega), z_nI (by omega), show n - i = n - (i + 1) + 1 by omega, z_co, show n - (i + 1) + 1 - 1 = n - (i + 1) by omega, Int32.add_sub_cancel]
theorem z_kwis (h : z_Or E n o) (hn : n ≤ 12) (W : Nat → Int32) (b : Int32) (A : Nat → Int32) (i : Nat) (hi : i ≤ n) : z_kw f E n W b A i = z_wf W b A E o (n - i) := by
  unfold z_kw z_wf
  rw [z_kais h hn b A i hi, z_kcis h hn A i hi]
theorem z_xois (h : z_Or E n o) (hn : n ≤ 12) (i : Nat) (hi : i ≤ n) : z_xo E (z_kl f E n i) = z_po E o (n - i) := by
  rw [z_klis h hn i hi]
  by_cases q : n - i = 0
  · rw [if_pos q, q]; rfl
  · obtain ⟨t, ht⟩ : ∃ t, n - i = t + 1 := ⟨n - i - 1, by omega⟩
    obtain ⟨g1, g2⟩ := h t (by omega)
    rw [if_neg q, ht, show t + 1 - 1 = t from rfl]
    unfold z_xo
    rw [if_neg (z_nm1 (by omega)), z_nI (by omega)]; rfl
/-- the best of the last ones -/
theorem z_kbinv (h : z_Or E n o) (hn : n ≤ 12) {w : Nat → Int32} {g : Nat → Int32} (hw : ∀ i, i ≤ n → w i = g (n - i)) (i : Nat) (hi : i ≤ n) :
    ∃ k, n - i ≤ k ∧ k ≤ n ∧ (z_kb f E n w i).1 = g k ∧ (z_kb f E n w i).2 = z_po E o k ∧ (∀ j, n - i ≤ j → j ≤ n → (g j).toInt ≤ (g k).toInt) ∧ ∀ j, n - i ≤ j → j < k → (g j).toInt < (g k).toInt := by
  induction i with
  | zero =>
    refine ⟨n, by omega, Nat.le_refl _, hw 0 (by omega), z_xois h hn 0 (by omega), fun j h1 h2 => ?_, fun j h1 h2 => by omega⟩
    rw [show j = n by omega]; exact Int.le_refl _
  | succ i ih =>
    obtain ⟨k, a1, a2, a3, a4, a5, a6⟩ := ih (by omega)
    have e := hw (i + 1) hi
    by_cases q : w (i + 1) < (z_kb f E n w i).1
    · rw [z_kby q]
      rw [z_lt, e, a3] at q
      refine ⟨k, by omega, a2, a3, a4, fun j h1 h2 => ?_, fun j h1 h2 => ?_⟩
      · rcases Nat.lt_or_ge j (n - i) with c | c
        · rw [show j = n - (i + 1) by omega]; omega
        · exact a5 j c h2
      · rcases Nat.lt_or_ge j (n - i) with c | c
        · rw [show j = n - (i + 1) by omega]; exact q
        · exact a6 j c h2
    · rw [z_kbn q]
      rw [z_lt, e, a3] at q
      refine ⟨n - (i + 1), Nat.le_refl _, by omega, e, z_xois h hn (i + 1) hi, fun j h1 h2 => ?_, fun j h1 h2 => by omega⟩
      rcases Nat.lt_or_ge j (n - i) with c | c
      · rw [show j = n - (i + 1) by omega]; exact Int.le_refl _
      · have := a5 j c h2; omega
theorem z_aginv {g : Nat → Int32} (m : Nat) : (z_ag g m).1 ≤ m ∧ (z_ag g m).2 = g (z_ag g m).1 ∧ (∀ j, j ≤ m → (g j).toInt ≤ (g (z_ag g m).1).toInt) ∧ ∀ j, j < (z_ag g m).1 → (g j).toInt < (g (z_ag g m).1).toInt := by
  induction m with
  | zero => exact ⟨Nat.le_refl _, rfl, fun j hj => by rw [show j = 0 by omega]; exact Int.le_refl _, fun j hj => absurd hj (Nat.not_lt_zero j)⟩
  | succ m ih =>
    obtain ⟨a1, a2, a3, a4⟩ := ih
    by_cases q : (z_ag g m).2 < g (m + 1)
    · rw [z_agy q]
      rw [a2, z_lt] at q
      refine ⟨Nat.le_refl _, rfl, fun j hj => ?_, fun j hj => ?_⟩
      · show (g j).toInt ≤ (g (m + 1)).toInt
        rcases Nat.lt_or_ge j (m + 1) with c | c
        · have := a3 j (by omega); omega
        · rw [show j = m + 1 by omega]; exact Int.le_refl _
      · show (g j).toInt < (g (m + 1)).toInt
        have hj' : j < m + 1 := hj
        have := a3 j (by omega); omega
    · rw [z_agn q]
      rw [a2, z_lt] at q
      refine ⟨by omega, a2, fun j hj => ?_, a4⟩
      rcases Nat.lt_or_ge j (m + 1) with c | c
      · exact a3 j (by omega)
      · rw [show j = m + 1 by omega]; omega
theorem z_clock (h : z_Or E n o) (hn : n ≤ 12) (W : Nat → Int32) (b : Int32) (A : Nat → Int32) : (z_kb f E n (z_kw f E n W b A) n).2 = z_po E o (z_ag (z_wf W b A E o) n).1 := by
  obtain ⟨k, a1, a2, a3, a4, a5, a6⟩ := z_kbinv (f := f) h hn (w := z_kw f E n W b A) (g := z_wf W b A E o) (fun i hi => z_kwis h hn W b A i hi) n (Nat.le_refl _)
  obtain ⟨b1, b2, b3, b4⟩ := z_aginv (g := z_wf W b A E o) n
  have e : k = (z_ag (z_wf W b A E o) n).1 := by
    rcases Nat.lt_trichotomy k (z_ag (z_wf W b A E o) n).1 with c | c | c
    · have h1 := b4 k c
      have h2 := a5 _ (show n - n ≤ (z_ag (z_wf W b A E o) n).1 by omega) b1
      omega
    · exact c
    · have h1 := a6 _ (show n - n ≤ (z_ag (z_wf W b A E o) n).1 by omega) c
      have h2 := b3 k a2
      omega
  rw [a4, e]
end CLK
end
section
/-! Runs, trades, penalties, a new offer: class and reference alike; what stays in range. -/
theorem z_adp (f : Nat → Int32) (lo hi : Nat) (a : Int32) (c : Nat) : z_ad f lo hi a c = f c + (if lo ≤ c ∧ c < hi then a else 0) := by
  unfold z_ad
  by_cases q : lo ≤ c ∧ c < hi
  · rw [if_pos q, if_pos q]
  · rw [if_neg q, if_neg q, Int32.add_zero]
section RUN
variable {E : Nat → Int32} {n t y : Nat} {o : Nat → Nat} {A T P : Nat → Int32}
theorem z_rBam (B : Nat → Int32) (c k : Nat) : z_rB B A T o y k c = z_am (B c) (fun j => if y ≤ c ∧ c < z_e T y j then A j else 0) o k := by
  induction k with
  | zero => rfl
  | succ k ih => rw [z_rB, z_adp, ih]; rfl
theorem z_mBus (B : Nat → Int32) (c k : Nat) : z_mB B A T E n t y k c = z_us (B c) (fun j => if y ≤ c ∧ c < z_e T y j then A j else 0) (fun j => z_rk E j n) t k := by
  induction k with
  | zero => rfl
  | succ k ih =>
    rw [z_mB, z_adp, ih, z_us]
    unfold z_me
    by_cases q : z_rk E k n < t
    · rw [if_pos q, if_pos q]
    · rw [if_neg q, if_neg q, if_neg (by omega)]
theorem z_rBmB (h : z_Or E n o) (ht : t ≤ n) (B : Nat → Int32) : z_rB B A T o y t = z_mB B A T E n t y n := by
  funext c
  rw [z_rBam, z_mBus, z_amus h _ _ t ht]
theorem z_rNam (N : Nat → Int32) (pr : Int32) (c k : Nat) : z_rN N A P T o y pr k c = z_am (N c) (fun j => if z_n (P j) * 8 + y ≤ c ∧ c < z_n (P j) * 8 + z_e T y j then A j * pr else 0) o k := by
  induction k with
  | zero => rfl
  | succ k ih => rw [z_rN, z_adp, ih]; rfl
theorem z_mNus (N : Nat → Int32) (pr : Int32) (c k : Nat) : z_mN N A P T E n t y pr k c = z_us (N c) (fun j => if z_n (P j) * 8 + y ≤ c ∧ c < z_n (P j) * 8 + z_e T y j then A j * pr else 0) (fun j => z_rk E j n) t k := by
  induction k with
  | zero => rfl
  | succ k ih =>
    rw [z_mN, z_adp, ih, z_us]
    unfold z_me
    by_cases q : z_rk E k n < t
    · rw [if_pos q, if_pos q]
    · rw [if_neg q, if_neg q, if_neg (by omega)]
theorem z_rNmN (h : z_Or E n o) (ht : t ≤ n) (N : Nat → Int32) (pr : Int32) : z_rN N A P T o y pr t = z_mN N A P T E n t y pr n := by
  funext c
  rw [z_rNam, z_mNus, z_amus h _ _ t ht]
theorem z_rYam (Y : Nat → Int32) (c k : Nat) : z_rY Y A P T o y k c = z_am (Y c) (fun j => if (z_n (P j) * 8 + y) * 12 ≤ c ∧ c < (z_n (P j) * 8 + z_e T y j) * 12 then A j else 0) o k := by
  induction k with
  | zero => rfl
  | succ k ih => rw [z_rY, z_adp, ih]; rfl
theorem z_mYus (Y : Nat → Int32) (c k : Nat) : z_mY Y A P T E n t y k c = z_us (Y c) (fun j => if (z_n (P j) * 8 + y) * 12 ≤ c ∧ c < (z_n (P j) * 8 + z_e T y j) * 12 then A j else 0) (fun j => z_rk E j n) t k := by
  induction k with
  | zero => rfl
  | succ k ih =>
    rw [z_mY, z_adp, ih, z_us]
    unfold z_me
    by_cases q : z_rk E k n < t
    · rw [if_pos q, if_pos q]
    · rw [if_neg q, if_neg q, if_neg (by omega)]
theorem z_rYmY (h : z_Or E n o) (ht : t ≤ n) (Y : Nat → Int32) : z_rY Y A P T o y t = z_mY Y A P T E n t y n := by
  funext c
  rw [z_rYam, z_mYus, z_amus h _ _ t ht]
/-- incomes stay small -/
theorem z_rNle (h : z_Or E n o) (N : Nat → Int32) (pr : Int32) {m : Nat} (hpr : ∃ b, b ≤ 1000 ∧ pr = nI b) (hA : ∀ j, j < n → ∃ a, a ≤ 300 ∧ A j = nI a) (c : Nat) {x : Nat} (hx : N c = nI x) (k : Nat) (hk : k ≤ n) : ∃ x', z_rN N A P T o y pr k c = nI x' ∧ x' ≤ x + 300000 * k := by
  induction k with
  | zero => exact ⟨x, hx, by omega⟩
  | succ k ih =>
    obtain ⟨x', e, hle⟩ := ih (by omega)
    obtain ⟨b, hb, rfl⟩ := hpr
    obtain ⟨a, ha, hae⟩ := hA (o k) (h k (by omega)).1
    have hab : a * b ≤ 300 * 1000 := Nat.mul_le_mul ha hb
    rw [z_rN, z_adp, e, hae, pk_mul]
    by_cases q : z_n (P (o k)) * 8 + y ≤ c ∧ c < z_n (P (o k)) * 8 + z_e T y (o k)
    · rw [if_pos q, nI_add]
      exact ⟨x' + a * b, rfl, by omega⟩
    · rw [if_neg q, Int32.add_zero]
      exact ⟨x', rfl, by omega⟩
end RUN
/-- a trade -/
theorem z_tdp (f : Nat → Int32) (p q : Nat) (a : Int32) (k : Nat) : ∀ i, i < 12 → k ≤ 12 → (∀ i j, i < 12 → j < 12 → p + i ≠ q + j) → z_td f p q a k (p + i) = if i < k then f (p + i) - a else f (p + i) := by
  induction k with
  | zero => intro i hi hk hd; rw [if_neg (by omega)]; rfl
  | succ k ih =>
    intro i hi hk hd
    rw [z_td]
    unfold upd
    rw [if_neg (hd i k hi (by omega))]
    by_cases c : i = k
    · subst c
      rw [if_pos rfl, if_pos (by omega), ih i hi (by omega) hd, if_neg (by omega)]
    · rw [if_neg (by omega), ih i hi (by omega) hd]
      by_cases c2 : i < k
      · rw [if_pos c2, if_pos (by omega)]
      · rw [if_neg c2, if_neg (by omega)]
theorem z_lsle (f : Nat → Int32) (p n : Nat) : ∀ i, i ≤ n → (z_ls f p n).toInt ≤ (f (p + i)).toInt := by
  induction n with
  | zero => intro i hi; rw [show i = 0 by omega]; exact Int.le_refl _
  | succ n ih =>
    intro i hi
    rw [z_ls]
    by_cases c : f (p + (n + 1)) < z_ls f p n
    · rw [if_pos c]
      rw [z_lt] at c
      rcases Nat.lt_or_ge i (n + 1) with q | q
      · have := ih i (by omega); omega
      · rw [show i = n + 1 by omega]; exact Int.le_refl _
    · rw [if_neg c]
      rw [z_lt] at c
      rcases Nat.lt_or_ge i (n + 1) with q | q
      · exact ih i (by omega)
      · rw [show i = n + 1 by omega]; omega
theorem z_suba {x a : Int32} (h0 : 0 ≤ a.toInt) (h : a.toInt ≤ x.toInt) : (x - a).toInt = x.toInt - a.toInt := by
  have := Int32.toInt_lt x
  rw [Int32.toInt_sub]
  exact Int.bmod_eq_of_le_mul_two (by omega) (by omega)
theorem z_lssub (f g : Nat → Int32) (p : Nat) (a : Int32) (h0 : 0 ≤ a.toInt) (n : Nat) (hg : ∀ i, i ≤ n → g (p + i) = f (p + i) - a) (ha : ∀ i, i ≤ n → a.toInt ≤ (f (p + i)).toInt) : z_ls g p n = z_ls f p n - a ∧ a.toInt ≤ (z_ls f p n).toInt := by
  induction n with
  | zero => exact ⟨hg 0 (Nat.le_refl _), ha 0 (Nat.le_refl _)⟩
  | succ n ih =>
    obtain ⟨i1, i2⟩ := ih (fun i hi => hg i (by omega)) (fun i hi => ha i (by omega))
    have e1 := z_suba h0 i2
    have e2 := z_suba h0 (ha (n + 1) (Nat.le_refl _))
    rw [z_ls, z_ls, i1, hg (n + 1) (Nat.le_refl _)]
    by_cases c : f (p + (n + 1)) < z_ls f p n
    · have c' : f (p + (n + 1)) - a < z_ls f p n - a := by rw [z_lt] at *; omega
      rw [if_pos c, if_pos c']
      exact ⟨rfl, ha _ (Nat.le_refl _)⟩
    · have c' : ¬ f (p + (n + 1)) - a < z_ls f p n - a := by rw [z_lt] at *; omega
      rw [if_neg c, if_neg c']
      exact ⟨rfl, i2⟩
theorem z_trade (f : Nat → Int32) {p q y g n : Nat} {a : Int32} (hpq : p ≠ q) (hn : g + n < 12) (h0 : 0 ≤ a.toInt) (ha : a ≤ z_ls f ((p * 8 + y) * 12 + g) n) : z_ls (z_td f ((p * 8 + y) * 12 + g) ((q * 8 + y) * 12 + g) a (n + 1)) ((p * 8 + y) * 12 + g) n = z_ls f ((p * 8 + y) * 12 + g) n - a := by
  rw [z_le] at ha
  refine (z_lssub f _ _ a h0 n (fun i hi => ?_) (fun i hi => ?_)).1
  · rw [z_tdp f _ _ a (n + 1) i (by omega) (by omega) (fun i j hi hj => by omega), if_pos (by omega)]
  · have := z_lsle f ((p * 8 + y) * 12 + g) n i hi
    omega
/-- penalties -/
theorem z_pmin {inc cap : Int32} {x k : Nat} (h1 : inc = nI x) (hx : x ≤ 200000000) (h2 : cap = nI k) (hk : k ≤ 200) : ∃ v : Nat, v ≤ 400000000 ∧ z_pm inc cap = lN v := by
  subst h1; subst h2
  have hxk : x * k ≤ 200000000 * 200 := Nat.mul_le_mul hx hk
  refine ⟨x * k / 100, by omega, ?_⟩
  unfold z_pm
  rw [nI_l (by omega), nI_l (by omega), lN_mul, show (100 : Int64) = lN 100 from rfl, pk_lDiv (by omega) (by omega) (by omega)]
theorem z_pcpp {lk rate inc cap : Int32} {v : Nat} (hv : v ≤ 400000000) (h : z_pm inc cap = lN v) : z_pc lk rate inc cap = (z_pp lk rate inc cap).toInt32 ∧ (z_pc lk rate inc cap).toInt64 = z_pp lk rate inc cap := by
  have hvi : (lN v).toInt = (v : Int) := lN_toInt (by omega)
  have e : (if (if z_pm inc cap < z_pd lk rate then z_pm inc cap else z_pd lk rate) < 0 then 0 else (if z_pm inc cap < z_pd lk rate then z_pm inc cap else z_pd lk rate) : Int64) = z_pp lk rate inc cap := by
    unfold z_pp
    rw [h]
    have h0 : (0 : Int64).toInt = 0 := by decide
    by_cases c1 : z_pd lk rate < 0
    · rw [Int64.lt_iff_toInt_lt, h0] at c1
      have c2 : ¬ lN v < z_pd lk rate := by rw [Int64.lt_iff_toInt_lt]; omega
      rw [if_neg c2, if_pos (by rw [Int64.lt_iff_toInt_lt, h0]; omega), if_pos (by rw [Int64.lt_iff_toInt_lt, h0]; omega)]
    · rw [Int64.lt_iff_toInt_lt, h0] at c1
      rw [if_neg (show ¬ z_pd lk rate < 0 by rw [Int64.lt_iff_toInt_lt, h0]; omega)]
      by_cases c2 : lN v < z_pd lk rate
      · have c3 := Int64.lt_iff_toInt_lt.mp c2
        rw [if_pos c2, if_neg (by rw [Int64.lt_iff_toInt_lt, h0]; omega), if_neg (by rw [Int64.lt_iff_toInt_lt]; omega)]
      · have c3 : ¬ (lN v).toInt < (z_pd lk rate).toInt := fun q => c2 (Int64.lt_iff_toInt_lt.mpr q)
        rw [if_neg c2, if_neg (by rw [Int64.lt_iff_toInt_lt, h0]; omega)]
        by_cases c4 : z_pd lk rate < lN v
        · rw [if_pos c4]
        · rw [if_neg c4]
          rw [Int64.lt_iff_toInt_lt] at c4
          exact Int64.toInt_inj.mp (by omega)
  have hc : z_pc lk rate inc cap = (z_pp lk rate inc cap).toInt32 := by
    unfold z_pc
    rw [e]
  obtain ⟨w, hw, hwe⟩ : ∃ w : Nat, w ≤ 400000000 ∧ z_pp lk rate inc cap = lN w := by
    have h0 : (0 : Int64).toInt = 0 := by decide
    unfold z_pp
    rw [h]
    by_cases c1 : z_pd lk rate < 0
    · rw [if_pos c1]; exact ⟨0, by omega, rfl⟩
    · rw [if_neg c1]
      by_cases c4 : z_pd lk rate < lN v
      · rw [if_pos c4]
        rw [Int64.lt_iff_toInt_lt] at c4
        obtain ⟨w, hw, e2⟩ := pk_lOf c1
        rw [e2, pk_lT hw] at c4
        exact ⟨w, by omega, e2⟩
      · rw [if_neg c4]; exact ⟨v, hv, rfl⟩
  refine ⟨hc, ?_⟩
  rw [hc, hwe, lN_i, nI_l (by omega)]
theorem z_psqs {Y U S N : Nat → Int32} {ra ca : Int32} (h : ∀ p y, (z_pc (z_lk Y U S p y 12) ra (N (p * 8 + y)) ca).toInt64 = z_pp (z_lk Y U S p y 12) ra (N (p * 8 + y)) ca) (k : Nat) : z_ps Y U S N ra ca k = z_qs Y U S N ra ca k := by
  have hy : ∀ p b m, z_py Y U S N ra ca p b m = z_qy Y U S N ra ca p b m := by
    intro p b m
    induction m with
    | zero => rfl
    | succ m ih => rw [z_py, z_qy, ih, h]
  induction k with
  | zero => rfl
  | succ k ih => rw [z_ps, z_qs, ih, hy]
/-- a new offer in the order -/
def z_un (r : Nat → Nat) (c : Nat) : Nat → Nat
  | 0 => 0
  | k + 1 => z_un r c k + (if r k < c then 1 else 0)
theorem z_un0 {r : Nat → Nat} (n : Nat) : z_un r 0 n = 0 := by
  induction n with
  | zero => rfl
  | succ n ih => rw [z_un, ih, if_neg (by omega)]
theorem z_unstep {r : Nat → Nat} {c j0 : Nat} (n : Nat) (h : ∀ j, j < n → r j = c → j = j0) : z_un r (c + 1) n = z_un r c n + (if j0 < n ∧ r j0 = c then 1 else 0) := by
  induction n with
  | zero => rw [if_neg (by omega)]; rfl
  | succ n ih =>
    have ih := ih (fun j hj => h j (by omega))
    rw [z_un, z_un, ih]
    by_cases q : r n = c
    · have e := h n (by omega) q
      subst e
      rw [if_neg (by omega), if_pos (by omega), if_neg (by omega), if_pos (by omega)]
    · have q4 : (j0 < n + 1 ∧ r j0 = c) ↔ (j0 < n ∧ r j0 = c) := by
        constructor
        · intro q5
          have : j0 ≠ n := fun e => q (by rw [← e]; exact q5.2)
          exact ⟨by omega, q5.2⟩
        · intro q5; exact ⟨by omega, q5.2⟩
      by_cases q2 : r n < c
      · rw [if_pos (show r n < c + 1 by omega), if_pos q2]
        by_cases q3 : j0 < n ∧ r j0 = c
        · rw [if_pos q3, if_pos (q4.mpr q3)]
        · rw [if_neg q3, if_neg (fun x => q3 (q4.mp x))]
      · rw [if_neg (show ¬ r n < c + 1 by omega), if_neg q2]
        by_cases q3 : j0 < n ∧ r j0 = c
        · rw [if_pos q3, if_pos (q4.mpr q3)]
        · rw [if_neg q3, if_neg (fun x => q3 (q4.mp x))]
theorem z_uncnt {E : Nat → Int32} {n : Nat} {o : Nat → Nat} (h : z_Or E n o) (k : Nat) (hk : k ≤ n) : z_un (fun j => z_rk E j n) k n = k := by
  induction k with
  | zero => exact z_un0 n
  | succ k ih =>
    obtain ⟨h1, h2⟩ := h k (by omega)
    rw [z_unstep (j0 := o k) n (fun j hj e => z_rkinj hj h1 (by rw [h2]; exact e)), if_pos ⟨h1, h2⟩, ih (by omega)]
theorem z_plis {E : Nat → Int32} {ex : Int32} {o : Nat → Nat} (n : Nat) : z_pl E ex o n ≤ n ∧ (∀ p, z_pl E ex o n ≤ p → p < n → ex < E (o p)) ∧ (0 < z_pl E ex o n → ¬ ex < E (o (z_pl E ex o n - 1))) := by
  induction n with
  | zero => exact ⟨Nat.le_refl _, fun p h1 h2 => by omega, fun h => absurd h (Nat.lt_irrefl _)⟩
  | succ n ih =>
    obtain ⟨a1, a2, a3⟩ := ih
    unfold z_pl
    by_cases q : ex < E (o n)
    · rw [if_pos q]
      refine ⟨by omega, fun p h1 h2 => ?_, a3⟩
      rcases Nat.lt_or_ge p n with c | c
      · exact a2 p h1 c
      · rw [show p = n by omega]; exact q
    · rw [if_neg q]
      exact ⟨Nat.le_refl _, fun p h1 h2 => by omega, fun _ => q⟩
theorem z_rkupd {E : Nat → Int32} {ex : Int32} {n j : Nat} (hj : j < n) (m : Nat) (hm : m ≤ n) : z_rk (upd E n ex) j m = z_rk E j m := by
  induction m with
  | zero => rfl
  | succ m ih =>
    have e1 : upd E n ex m = E m := by unfold upd; rw [if_neg (by omega)]
    have e2 : upd E n ex j = E j := by unfold upd; rw [if_neg (by omega)]
    have e3 : z_before (upd E n ex) m j = z_before E m j := by unfold z_before; rw [e1, e2]
    rw [z_rk, z_rk, ih (by omega), e3]
theorem z_ins {E fO : Nat → Int32} {ex : Int32} {n : Nat} {o : Nat → Nat} (h : z_Or E n o) (hn : n < 12) (hO : ∀ k, k < n → fO k = nI (o k)) :
    ∀ k, k < n + 1 → z_ord fO n (z_pl E ex o n) k = nI (z_n (z_ord fO n (z_pl E ex o n) k)) ∧ z_n (z_ord fO n (z_pl E ex o n) k) < n + 1 ∧ z_rk (upd E n ex) (z_n (z_ord fO n (z_pl E ex o n) k)) (n + 1) = k := by
  obtain ⟨a1, a2, a3⟩ := z_plis (E := E) (ex := ex) (o := o) n
  have hlow : ∀ p, p < z_pl E ex o n → ¬ ex < E (o p) := by
    intro p hp
    have h3 := a3 (by omega)
    obtain ⟨g1, g2⟩ := h p (by omega)
    obtain ⟨g3, g4⟩ := h (z_pl E ex o n - 1) (by omega)
    have := z_rkE (E := E) (i := o p) g3 (by rw [g2, g4]; omega)
    rw [z_lt] at *
    omega
  have hiff : ∀ j, j < n → (ex < E j ↔ ¬ z_rk E j n < z_pl E ex o n) := by
    intro j hj
    have hr := z_rkn (E := E) hj
    obtain ⟨g1, g2⟩ := h _ hr
    have e : o (z_rk E j n) = j := z_rkinj g1 hj g2
    constructor
    · intro q q2
      exact hlow _ q2 (by rw [e]; exact q)
    · intro q
      have := a2 (z_rk E j n) (by omega) hr
      rw [e] at this
      exact this
  have een : upd E n ex n = ex := by unfold upd; rw [if_pos rfl]
  have eej : ∀ j, j < n → upd E n ex j = E j := fun j hj => by unfold upd; rw [if_neg (by omega)]
  have hold : ∀ j, j < n → z_rk (upd E n ex) j (n + 1) = z_rk E j n + (if z_rk E j n < z_pl E ex o n then 0 else 1) := by
    intro j hj
    have hb : z_before (upd E n ex) n j = decide (ex < E j) := by
      unfold z_before
      rw [een, eej j hj, decide_eq_false (show ¬ n < j by omega), Bool.and_false, Bool.or_false]
    rw [z_rk, z_rkupd hj n (Nat.le_refl _), hb]
    by_cases q : z_rk E j n < z_pl E ex o n
    · rw [if_pos q, decide_eq_false (fun x => (hiff j hj).mp x q)]; rfl
    · rw [if_neg q, decide_eq_true ((hiff j hj).mpr q)]; rfl
  have hnew : z_rk (upd E n ex) n (n + 1) = z_pl E ex o n := by
    have key : ∀ m, m ≤ n → z_rk (upd E n ex) n m = z_un (fun j => z_rk E j n) (z_pl E ex o n) m := by
      intro m
      induction m with
      | zero => intro _; rfl
      | succ m ih =>
        intro hm
        have hb : z_before (upd E n ex) m n = decide (z_rk E m n < z_pl E ex o n) := by
          have hi := hiff m (by omega)
          by_cases q : z_rk E m n < z_pl E ex o n
          · rw [decide_eq_true q, z_bfi, een, eej m (by omega)]
            have : ¬ ex < E m := fun x => hi.mp x q
            rw [z_lt] at this
            omega
          · rw [decide_eq_false q]
            have h8 := hi.mpr q
            cases hq : z_before (upd E n ex) m n with
            | false => rfl
            | true =>
              rw [z_bfi, een, eej m (by omega)] at hq
              rw [z_lt] at h8
              omega
        rw [z_rk, z_un, ih (by omega), hb]
        by_cases q : z_rk E m n < z_pl E ex o n
        · rw [decide_eq_true q, if_pos q]; rfl
        · rw [decide_eq_false q, if_neg q]; rfl
    have hself : z_before (upd E n ex) n n = false := by
      cases hq : z_before (upd E n ex) n n with
      | false => rfl
      | true => rw [z_bfi] at hq; omega
    rw [z_rk, key n (Nat.le_refl _), z_uncnt h _ a1, hself]; rfl
  intro k hk
  generalize hpe : z_pl E ex o n = pt at *
  rcases Nat.lt_trichotomy k pt with c | c | c
  · have e : z_ord fO n pt k = fO k := by
      unfold z_ord upd z_sh
      rw [if_neg (by omega), if_neg (by omega)]
    obtain ⟨g1, g2⟩ := h k (by omega)
    rw [e, hO k (by omega), z_nI (by omega)]
    refine ⟨rfl, by omega, ?_⟩
    rw [hold _ g1, g2, if_pos c, Nat.add_zero]
  · have e : z_ord fO n pt k = nI n := by
      unfold z_ord upd
      rw [if_pos c]
    rw [e, z_nI (by omega)]
    exact ⟨rfl, by omega, by rw [hnew]; exact c.symm⟩
  · have e : z_ord fO n pt k = fO (k - 1) := by
      unfold z_ord upd z_sh
      rw [if_neg (by omega), if_pos (by omega)]
    obtain ⟨g1, g2⟩ := h (k - 1) (by omega)
    rw [e, hO (k - 1) (by omega), z_nI (by omega)]
    refine ⟨rfl, by omega, ?_⟩
    rw [hold _ g1, g2, if_neg (by omega)]; omega
end
section
theorem q_inapp {a b T : List Cond} (h1 : ∀ w ∈ a, w ∈ T) (h2 : ∀ w ∈ b, w ∈ T) : ∀ w ∈ a ++ b, w ∈ T := fun w h => (List.mem_append.mp h).elim (h1 w) (h2 w)
set_option maxRecDepth 20000 in
theorem inw_1 : ∀ w ∈ wsL_law0_r1, w ∈ lw_tbl := List.forall_mem_cons.mpr ⟨List.mem_of_getElem? (i := 18) (by decide +kernel), List.forall_mem_cons.mpr ⟨List.mem_of_getElem? (i := 19) (by decide +kernel), List.forall_mem_cons.mpr ⟨List.mem_of_getElem? (i := 8) (by decide +kernel), List.forall_mem_cons.mpr ⟨List.mem_of_getElem? (i := 53) (by decide +kernel), List.forall_mem_cons.mpr ⟨List.mem_of_getElem? (i := 485) (by decide +kernel), List.forall_mem_cons.mpr ⟨List.mem_of_getElem? (i := 486) (by decide +kernel), List.forall_mem_cons.mpr ⟨List.mem_of_getElem? (i := 20) (by decide +kernel), List.forall_mem_cons.mpr ⟨List.mem_of_getElem? (i := 21) (by decide +kernel), List.forall_mem_cons.mpr ⟨List.mem_of_getElem? (i := 22) (by decide +kernel), List.forall_mem_cons.mpr ⟨List.mem_of_getElem? (i := 23) (by decide +kernel), List.forall_mem_cons.mpr ⟨List.mem_of_getElem? (i := 24) (by decide +kernel), List.forall_mem_cons.mpr ⟨List.mem_of_getElem? (i := 25) (by decide +kernel), List.forall_mem_cons.mpr ⟨List.mem_of_getElem? (i := 26) (by decide +kernel), List.forall_mem_cons.mpr ⟨List.mem_of_getElem? (i := 27) (by decide +kernel), List.forall_mem_cons.mpr ⟨List.mem_of_getElem? (i := 9) (by decide +kernel), List.forall_mem_cons.mpr ⟨List.mem_of_getElem? (i := 88) (by decide +kernel), List.forall_mem_cons.mpr ⟨List.mem_of_getElem? (i := 54) (by decide +kernel), List.forall_mem_cons.mpr ⟨List.mem_of_getElem? (i := 55) (by decide +kernel), List.forall_mem_cons.mpr ⟨List.mem_of_getElem? (i := 10) (by decide +kernel), List.forall_mem_cons.mpr ⟨List.mem_of_getElem? (i := 89) (by decide +kernel), List.forall_mem_cons.mpr ⟨List.mem_of_getElem? (i := 90) (by decide +kernel), List.forall_mem_cons.mpr ⟨List.mem_of_getElem? (i := 91) (by decide +kernel), List.forall_mem_cons.mpr ⟨List.mem_of_getElem? (i := 92) (by decide +kernel), List.forall_mem_cons.mpr ⟨List.mem_of_getElem? (i := 93) (by decide +kernel), fun _ h => absurd h List.not_mem_nil⟩⟩⟩⟩⟩⟩⟩⟩⟩⟩⟩⟩⟩⟩⟩⟩⟩⟩⟩⟩⟩⟩⟩⟩
set_option maxRecDepth 20000 in
theorem inw_2 : ∀ w ∈ wsL_law0_r2, w ∈ lw_tbl := List.forall_mem_cons.mpr ⟨List.mem_of_getElem? (i := 87) (by decide +kernel), List.forall_mem_cons.mpr ⟨List.mem_of_getElem? (i := 94) (by decide +kernel), List.forall_mem_cons.mpr ⟨List.mem_of_getElem? (i := 95) (by decide +kernel), List.forall_mem_cons.mpr ⟨List.mem_of_getElem? (i := 96) (by decide +kernel), List.forall_mem_cons.mpr ⟨List.mem_of_getElem? (i := 97) (by decide +kernel), List.forall_mem_cons.mpr ⟨List.mem_of_getElem? (i := 28) (by decide +kernel), List.forall_mem_cons.mpr ⟨List.mem_of_getElem? (i := 29) (by decide +kernel), List.forall_mem_cons.mpr ⟨List.mem_of_getElem? (i := 30) (by decide +kernel), List.forall_mem_cons.mpr ⟨List.mem_of_getElem? (i := 31) (by decide +kernel), List.forall_mem_cons.mpr ⟨List.mem_of_getElem? (i := 40) (by decide +kernel), List.forall_mem_cons.mpr ⟨List.mem_of_getElem? (i := 32) (by decide +kernel), List.forall_mem_cons.mpr ⟨List.mem_of_getElem? (i := 33) (by decide +kernel), List.forall_mem_cons.mpr ⟨List.mem_of_getElem? (i := 34) (by decide +kernel), List.forall_mem_cons.mpr ⟨List.mem_of_getElem? (i := 35) (by decide +kernel), List.forall_mem_cons.mpr ⟨List.mem_of_getElem? (i := 41) (by decide +kernel), List.forall_mem_cons.mpr ⟨List.mem_of_getElem? (i := 42) (by decide +kernel), List.forall_mem_cons.mpr ⟨List.mem_of_getElem? (i := 43) (by decide +kernel), List.forall_mem_cons.mpr ⟨List.mem_of_getElem? (i := 36) (by decide +kernel), List.forall_mem_cons.mpr ⟨List.mem_of_getElem? (i := 37) (by decide +kernel), List.forall_mem_cons.mpr ⟨List.mem_of_getElem? (i := 38) (by decide +kernel), List.forall_mem_cons.mpr ⟨List.mem_of_getElem? (i := 39) (by decide +kernel), List.forall_mem_cons.mpr ⟨List.mem_of_getElem? (i := 56) (by decide +kernel), List.forall_mem_cons.mpr ⟨List.mem_of_getElem? (i := 57) (by decide +kernel), List.forall_mem_cons.mpr ⟨List.mem_of_getElem? (i := 58) (by decide +kernel), fun _ h => absurd h List.not_mem_nil⟩⟩⟩⟩⟩⟩⟩⟩⟩⟩⟩⟩⟩⟩⟩⟩⟩⟩⟩⟩⟩⟩⟩⟩
set_option maxRecDepth 20000 in
theorem inw_3 : ∀ w ∈ wsL_law0_r3, w ∈ lw_tbl := List.forall_mem_cons.mpr ⟨List.mem_of_getElem? (i := 59) (by decide +kernel), List.forall_mem_cons.mpr ⟨List.mem_of_getElem? (i := 60) (by decide +kernel), List.forall_mem_cons.mpr ⟨List.mem_of_getElem? (i := 62) (by decide +kernel), List.forall_mem_cons.mpr ⟨List.mem_of_getElem? (i := 64) (by decide +kernel), List.forall_mem_cons.mpr ⟨List.mem_of_getElem? (i := 66) (by decide +kernel), List.forall_mem_cons.mpr ⟨List.mem_of_getElem? (i := 70) (by decide +kernel), List.forall_mem_cons.mpr ⟨List.mem_of_getElem? (i := 71) (by decide +kernel), List.forall_mem_cons.mpr ⟨List.mem_of_getElem? (i := 68) (by decide +kernel), List.forall_mem_cons.mpr ⟨List.mem_of_getElem? (i := 119) (by decide +kernel), List.forall_mem_cons.mpr ⟨List.mem_of_getElem? (i := 120) (by decide +kernel), List.forall_mem_cons.mpr ⟨List.mem_of_getElem? (i := 121) (by decide +kernel), List.forall_mem_cons.mpr ⟨List.mem_of_getElem? (i := 122) (by decide +kernel), List.forall_mem_cons.mpr ⟨List.mem_of_getElem? (i := 69) (by decide +kernel), List.forall_mem_cons.mpr ⟨List.mem_of_getElem? (i := 123) (by decide +kernel), List.forall_mem_cons.mpr ⟨List.mem_of_getElem? (i := 124) (by decide +kernel), List.forall_mem_cons.mpr ⟨List.mem_of_getElem? (i := 125) (by decide +kernel), List.forall_mem_cons.mpr ⟨List.mem_of_getElem? (i := 126) (by decide +kernel), List.forall_mem_cons.mpr ⟨List.mem_of_getElem? (i := 127) (by decide +kernel), List.forall_mem_cons.mpr ⟨List.mem_of_getElem? (i := 128) (by decide +kernel), List.forall_mem_cons.mpr ⟨List.mem_of_getElem? (i := 129) (by decide +kernel), List.forall_mem_cons.mpr ⟨List.mem_of_getElem? (i := 130) (by decide +kernel), List.forall_mem_cons.mpr ⟨List.mem_of_getElem? (i := 131) (by decide +kernel), List.forall_mem_cons.mpr ⟨List.mem_of_getElem? (i := 133) (by decide +kernel), List.forall_mem_cons.mpr ⟨List.mem_of_getElem? (i := 0) (by decide +kernel), fun _ h => absurd h List.not_mem_nil⟩⟩⟩⟩⟩⟩⟩⟩⟩⟩⟩⟩⟩⟩⟩⟩⟩⟩⟩⟩⟩⟩⟩⟩
set_option maxRecDepth 20000 in
theorem inw_4 : ∀ w ∈ wsL_law0_r4, w ∈ lw_tbl := List.forall_mem_cons.mpr ⟨List.mem_of_getElem? (i := 134) (by decide +kernel), List.forall_mem_cons.mpr ⟨List.mem_of_getElem? (i := 145) (by decide +kernel), List.forall_mem_cons.mpr ⟨List.mem_of_getElem? (i := 146) (by decide +kernel), List.forall_mem_cons.mpr ⟨List.mem_of_getElem? (i := 147) (by decide +kernel), List.forall_mem_cons.mpr ⟨List.mem_of_getElem? (i := 11) (by decide +kernel), List.forall_mem_cons.mpr ⟨List.mem_of_getElem? (i := 148) (by decide +kernel), List.forall_mem_cons.mpr ⟨List.mem_of_getElem? (i := 149) (by decide +kernel), List.forall_mem_cons.mpr ⟨List.mem_of_getElem? (i := 150) (by decide +kernel), List.forall_mem_cons.mpr ⟨List.mem_of_getElem? (i := 151) (by decide +kernel), List.forall_mem_cons.mpr ⟨List.mem_of_getElem? (i := 135) (by decide +kernel), List.forall_mem_cons.mpr ⟨List.mem_of_getElem? (i := 137) (by decide +kernel), List.forall_mem_cons.mpr ⟨List.mem_of_getElem? (i := 1) (by decide +kernel), List.forall_mem_cons.mpr ⟨List.mem_of_getElem? (i := 138) (by decide +kernel), List.forall_mem_cons.mpr ⟨List.mem_of_getElem? (i := 139) (by decide +kernel), List.forall_mem_cons.mpr ⟨List.mem_of_getElem? (i := 140) (by decide +kernel), List.forall_mem_cons.mpr ⟨List.mem_of_getElem? (i := 141) (by decide +kernel), List.forall_mem_cons.mpr ⟨List.mem_of_getElem? (i := 142) (by decide +kernel), List.forall_mem_cons.mpr ⟨List.mem_of_getElem? (i := 143) (by decide +kernel), List.forall_mem_cons.mpr ⟨List.mem_of_getElem? (i := 144) (by decide +kernel), List.forall_mem_cons.mpr ⟨List.mem_of_getElem? (i := 152) (by decide +kernel), List.forall_mem_cons.mpr ⟨List.mem_of_getElem? (i := 153) (by decide +kernel), List.forall_mem_cons.mpr ⟨List.mem_of_getElem? (i := 7) (by decide +kernel), List.forall_mem_cons.mpr ⟨List.mem_of_getElem? (i := 154) (by decide +kernel), List.forall_mem_cons.mpr ⟨List.mem_of_getElem? (i := 155) (by decide +kernel), fun _ h => absurd h List.not_mem_nil⟩⟩⟩⟩⟩⟩⟩⟩⟩⟩⟩⟩⟩⟩⟩⟩⟩⟩⟩⟩⟩⟩⟩⟩
set_option maxRecDepth 20000 in
theorem inw_5 : ∀ w ∈ wsL_law0_r5, w ∈ lw_tbl := List.forall_mem_cons.mpr ⟨List.mem_of_getElem? (i := 156) (by decide +kernel), List.forall_mem_cons.mpr ⟨List.mem_of_getElem? (i := 237) (by decide +kernel), List.forall_mem_cons.mpr ⟨List.mem_of_getElem? (i := 238) (by decide +kernel), List.forall_mem_cons.mpr ⟨List.mem_of_getElem? (i := 239) (by decide +kernel), List.forall_mem_cons.mpr ⟨List.mem_of_getElem? (i := 240) (by decide +kernel), List.forall_mem_cons.mpr ⟨List.mem_of_getElem? (i := 160) (by decide +kernel), List.forall_mem_cons.mpr ⟨List.mem_of_getElem? (i := 241) (by decide +kernel), List.forall_mem_cons.mpr ⟨List.mem_of_getElem? (i := 242) (by decide +kernel), List.forall_mem_cons.mpr ⟨List.mem_of_getElem? (i := 243) (by decide +kernel), List.forall_mem_cons.mpr ⟨List.mem_of_getElem? (i := 244) (by decide +kernel), List.forall_mem_cons.mpr ⟨List.mem_of_getElem? (i := 245) (by decide +kernel), List.forall_mem_cons.mpr ⟨List.mem_of_getElem? (i := 249) (by decide +kernel), List.forall_mem_cons.mpr ⟨List.mem_of_getElem? (i := 15) (by decide +kernel), List.forall_mem_cons.mpr ⟨List.mem_of_getElem? (i := 168) (by decide +kernel), List.forall_mem_cons.mpr ⟨List.mem_of_getElem? (i := 16) (by decide +kernel), List.forall_mem_cons.mpr ⟨List.mem_of_getElem? (i := 270) (by decide +kernel), List.forall_mem_cons.mpr ⟨List.mem_of_getElem? (i := 17) (by decide +kernel), List.forall_mem_cons.mpr ⟨List.mem_of_getElem? (i := 246) (by decide +kernel), List.forall_mem_cons.mpr ⟨List.mem_of_getElem? (i := 247) (by decide +kernel), List.forall_mem_cons.mpr ⟨List.mem_of_getElem? (i := 248) (by decide +kernel), List.forall_mem_cons.mpr ⟨List.mem_of_getElem? (i := 165) (by decide +kernel), List.forall_mem_cons.mpr ⟨List.mem_of_getElem? (i := 166) (by decide +kernel), List.forall_mem_cons.mpr ⟨List.mem_of_getElem? (i := 167) (by decide +kernel), List.forall_mem_cons.mpr ⟨List.mem_of_getElem? (i := 266) (by decide +kernel), fun _ h => absurd h List.not_mem_nil⟩⟩⟩⟩⟩⟩⟩⟩⟩⟩⟩⟩⟩⟩⟩⟩⟩⟩⟩⟩⟩⟩⟩⟩
end
section
set_option maxRecDepth 20000 in
theorem inw_6 : ∀ w ∈ wsL_law0_r6, w ∈ lw_tbl := List.forall_mem_cons.mpr ⟨List.mem_of_getElem? (i := 267) (by decide +kernel), List.forall_mem_cons.mpr ⟨List.mem_of_getElem? (i := 268) (by decide +kernel), List.forall_mem_cons.mpr ⟨List.mem_of_getElem? (i := 269) (by decide +kernel), List.forall_mem_cons.mpr ⟨List.mem_of_getElem? (i := 286) (by decide +kernel), List.forall_mem_cons.mpr ⟨List.mem_of_getElem? (i := 287) (by decide +kernel), List.forall_mem_cons.mpr ⟨List.mem_of_getElem? (i := 288) (by decide +kernel), List.forall_mem_cons.mpr ⟨List.mem_of_getElem? (i := 289) (by decide +kernel), List.forall_mem_cons.mpr ⟨List.mem_of_getElem? (i := 290) (by decide +kernel), List.forall_mem_cons.mpr ⟨List.mem_of_getElem? (i := 291) (by decide +kernel), List.forall_mem_cons.mpr ⟨List.mem_of_getElem? (i := 292) (by decide +kernel), List.forall_mem_cons.mpr ⟨List.mem_of_getElem? (i := 293) (by decide +kernel), List.forall_mem_cons.mpr ⟨List.mem_of_getElem? (i := 294) (by decide +kernel), List.forall_mem_cons.mpr ⟨List.mem_of_getElem? (i := 295) (by decide +kernel), List.forall_mem_cons.mpr ⟨List.mem_of_getElem? (i := 296) (by decide +kernel), List.forall_mem_cons.mpr ⟨List.mem_of_getElem? (i := 298) (by decide +kernel), List.forall_mem_cons.mpr ⟨List.mem_of_getElem? (i := 299) (by decide +kernel), List.forall_mem_cons.mpr ⟨List.mem_of_getElem? (i := 300) (by decide +kernel), List.forall_mem_cons.mpr ⟨List.mem_of_getElem? (i := 301) (by decide +kernel), List.forall_mem_cons.mpr ⟨List.mem_of_getElem? (i := 157) (by decide +kernel), List.forall_mem_cons.mpr ⟨List.mem_of_getElem? (i := 158) (by decide +kernel), List.forall_mem_cons.mpr ⟨List.mem_of_getElem? (i := 159) (by decide +kernel), List.forall_mem_cons.mpr ⟨List.mem_of_getElem? (i := 161) (by decide +kernel), List.forall_mem_cons.mpr ⟨List.mem_of_getElem? (i := 162) (by decide +kernel), List.forall_mem_cons.mpr ⟨List.mem_of_getElem? (i := 163) (by decide +kernel), fun _ h => absurd h List.not_mem_nil⟩⟩⟩⟩⟩⟩⟩⟩⟩⟩⟩⟩⟩⟩⟩⟩⟩⟩⟩⟩⟩⟩⟩⟩
set_option maxRecDepth 20000 in
theorem inw_7 : ∀ w ∈ wsL_law0_r7, w ∈ lw_tbl := List.forall_mem_cons.mpr ⟨List.mem_of_getElem? (i := 164) (by decide +kernel), List.forall_mem_cons.mpr ⟨List.mem_of_getElem? (i := 236) (by decide +kernel), List.forall_mem_cons.mpr ⟨List.mem_of_getElem? (i := 442) (by decide +kernel), List.forall_mem_cons.mpr ⟨List.mem_of_getElem? (i := 443) (by decide +kernel), List.forall_mem_cons.mpr ⟨List.mem_of_getElem? (i := 444) (by decide +kernel), List.forall_mem_cons.mpr ⟨List.mem_of_getElem? (i := 445) (by decide +kernel), List.forall_mem_cons.mpr ⟨List.mem_of_getElem? (i := 446) (by decide +kernel), List.forall_mem_cons.mpr ⟨List.mem_of_getElem? (i := 447) (by decide +kernel), List.forall_mem_cons.mpr ⟨List.mem_of_getElem? (i := 448) (by decide +kernel), List.forall_mem_cons.mpr ⟨List.mem_of_getElem? (i := 449) (by decide +kernel), List.forall_mem_cons.mpr ⟨List.mem_of_getElem? (i := 450) (by decide +kernel), List.forall_mem_cons.mpr ⟨List.mem_of_getElem? (i := 451) (by decide +kernel), List.forall_mem_cons.mpr ⟨List.mem_of_getElem? (i := 453) (by decide +kernel), List.forall_mem_cons.mpr ⟨List.mem_of_getElem? (i := 454) (by decide +kernel), List.forall_mem_cons.mpr ⟨List.mem_of_getElem? (i := 455) (by decide +kernel), List.forall_mem_cons.mpr ⟨List.mem_of_getElem? (i := 456) (by decide +kernel), List.forall_mem_cons.mpr ⟨List.mem_of_getElem? (i := 457) (by decide +kernel), List.forall_mem_cons.mpr ⟨List.mem_of_getElem? (i := 458) (by decide +kernel), List.forall_mem_cons.mpr ⟨List.mem_of_getElem? (i := 459) (by decide +kernel), List.forall_mem_cons.mpr ⟨List.mem_of_getElem? (i := 460) (by decide +kernel), List.forall_mem_cons.mpr ⟨List.mem_of_getElem? (i := 462) (by decide +kernel), List.forall_mem_cons.mpr ⟨List.mem_of_getElem? (i := 318) (by decide +kernel), List.forall_mem_cons.mpr ⟨List.mem_of_getElem? (i := 319) (by decide +kernel), List.forall_mem_cons.mpr ⟨List.mem_of_getElem? (i := 320) (by decide +kernel), fun _ h => absurd h List.not_mem_nil⟩⟩⟩⟩⟩⟩⟩⟩⟩⟩⟩⟩⟩⟩⟩⟩⟩⟩⟩⟩⟩⟩⟩⟩
set_option maxRecDepth 20000 in
theorem inw_8 : ∀ w ∈ wsL_law0_r8, w ∈ lw_tbl := List.forall_mem_cons.mpr ⟨List.mem_of_getElem? (i := 321) (by decide +kernel), List.forall_mem_cons.mpr ⟨List.mem_of_getElem? (i := 322) (by decide +kernel), List.forall_mem_cons.mpr ⟨List.mem_of_getElem? (i := 323) (by decide +kernel), List.forall_mem_cons.mpr ⟨List.mem_of_getElem? (i := 324) (by decide +kernel), List.forall_mem_cons.mpr ⟨List.mem_of_getElem? (i := 325) (by decide +kernel), List.forall_mem_cons.mpr ⟨List.mem_of_getElem? (i := 326) (by decide +kernel), List.forall_mem_cons.mpr ⟨List.mem_of_getElem? (i := 463) (by decide +kernel), List.forall_mem_cons.mpr ⟨List.mem_of_getElem? (i := 464) (by decide +kernel), List.forall_mem_cons.mpr ⟨List.mem_of_getElem? (i := 465) (by decide +kernel), List.forall_mem_cons.mpr ⟨List.mem_of_getElem? (i := 302) (by decide +kernel), List.forall_mem_cons.mpr ⟨List.mem_of_getElem? (i := 303) (by decide +kernel), List.forall_mem_cons.mpr ⟨List.mem_of_getElem? (i := 304) (by decide +kernel), List.forall_mem_cons.mpr ⟨List.mem_of_getElem? (i := 305) (by decide +kernel), List.forall_mem_cons.mpr ⟨List.mem_of_getElem? (i := 306) (by decide +kernel), List.forall_mem_cons.mpr ⟨List.mem_of_getElem? (i := 307) (by decide +kernel), List.forall_mem_cons.mpr ⟨List.mem_of_getElem? (i := 308) (by decide +kernel), List.forall_mem_cons.mpr ⟨List.mem_of_getElem? (i := 309) (by decide +kernel), List.forall_mem_cons.mpr ⟨List.mem_of_getElem? (i := 310) (by decide +kernel), List.forall_mem_cons.mpr ⟨List.mem_of_getElem? (i := 311) (by decide +kernel), List.forall_mem_cons.mpr ⟨List.mem_of_getElem? (i := 313) (by decide +kernel), List.forall_mem_cons.mpr ⟨List.mem_of_getElem? (i := 314) (by decide +kernel), List.forall_mem_cons.mpr ⟨List.mem_of_getElem? (i := 315) (by decide +kernel), List.forall_mem_cons.mpr ⟨List.mem_of_getElem? (i := 316) (by decide +kernel), List.forall_mem_cons.mpr ⟨List.mem_of_getElem? (i := 317) (by decide +kernel), fun _ h => absurd h List.not_mem_nil⟩⟩⟩⟩⟩⟩⟩⟩⟩⟩⟩⟩⟩⟩⟩⟩⟩⟩⟩⟩⟩⟩⟩⟩
set_option maxRecDepth 20000 in
theorem inw_9 : ∀ w ∈ wsL_law0_r9, w ∈ lw_tbl := List.forall_mem_cons.mpr ⟨List.mem_of_getElem? (i := 327) (by decide +kernel), List.forall_mem_cons.mpr ⟨List.mem_of_getElem? (i := 328) (by decide +kernel), List.forall_mem_cons.mpr ⟨List.mem_of_getElem? (i := 329) (by decide +kernel), List.forall_mem_cons.mpr ⟨List.mem_of_getElem? (i := 330) (by decide +kernel), List.forall_mem_cons.mpr ⟨List.mem_of_getElem? (i := 466) (by decide +kernel), List.forall_mem_cons.mpr ⟨List.mem_of_getElem? (i := 467) (by decide +kernel), List.forall_mem_cons.mpr ⟨List.mem_of_getElem? (i := 468) (by decide +kernel), List.forall_mem_cons.mpr ⟨List.mem_of_getElem? (i := 469) (by decide +kernel), List.forall_mem_cons.mpr ⟨List.mem_of_getElem? (i := 470) (by decide +kernel), List.forall_mem_cons.mpr ⟨List.mem_of_getElem? (i := 471) (by decide +kernel), List.forall_mem_cons.mpr ⟨List.mem_of_getElem? (i := 472) (by decide +kernel), List.forall_mem_cons.mpr ⟨List.mem_of_getElem? (i := 473) (by decide +kernel), List.forall_mem_cons.mpr ⟨List.mem_of_getElem? (i := 474) (by decide +kernel), List.forall_mem_cons.mpr ⟨List.mem_of_getElem? (i := 475) (by decide +kernel), List.forall_mem_cons.mpr ⟨List.mem_of_getElem? (i := 476) (by decide +kernel), List.forall_mem_cons.mpr ⟨List.mem_of_getElem? (i := 477) (by decide +kernel), List.forall_mem_cons.mpr ⟨List.mem_of_getElem? (i := 479) (by decide +kernel), List.forall_mem_cons.mpr ⟨List.mem_of_getElem? (i := 5) (by decide +kernel), List.forall_mem_cons.mpr ⟨List.mem_of_getElem? (i := 480) (by decide +kernel), List.forall_mem_cons.mpr ⟨List.mem_of_getElem? (i := 481) (by decide +kernel), List.forall_mem_cons.mpr ⟨List.mem_of_getElem? (i := 483) (by decide +kernel), List.forall_mem_cons.mpr ⟨List.mem_of_getElem? (i := 6) (by decide +kernel), List.forall_mem_cons.mpr ⟨List.mem_of_getElem? (i := 484) (by decide +kernel), List.forall_mem_cons.mpr ⟨List.mem_of_getElem? (i := 364) (by decide +kernel), fun _ h => absurd h List.not_mem_nil⟩⟩⟩⟩⟩⟩⟩⟩⟩⟩⟩⟩⟩⟩⟩⟩⟩⟩⟩⟩⟩⟩⟩⟩
set_option maxRecDepth 20000 in
theorem inw_10 : ∀ w ∈ wsL_law0_r10, w ∈ lw_tbl := List.forall_mem_cons.mpr ⟨List.mem_of_getElem? (i := 365) (by decide +kernel), List.forall_mem_cons.mpr ⟨List.mem_of_getElem? (i := 366) (by decide +kernel), List.forall_mem_cons.mpr ⟨List.mem_of_getElem? (i := 367) (by decide +kernel), List.forall_mem_cons.mpr ⟨List.mem_of_getElem? (i := 368) (by decide +kernel), List.forall_mem_cons.mpr ⟨List.mem_of_getElem? (i := 369) (by decide +kernel), List.forall_mem_cons.mpr ⟨List.mem_of_getElem? (i := 370) (by decide +kernel), List.forall_mem_cons.mpr ⟨List.mem_of_getElem? (i := 331) (by decide +kernel), List.forall_mem_cons.mpr ⟨List.mem_of_getElem? (i := 332) (by decide +kernel), List.forall_mem_cons.mpr ⟨List.mem_of_getElem? (i := 333) (by decide +kernel), List.forall_mem_cons.mpr ⟨List.mem_of_getElem? (i := 334) (by decide +kernel), List.forall_mem_cons.mpr ⟨List.mem_of_getElem? (i := 335) (by decide +kernel), List.forall_mem_cons.mpr ⟨List.mem_of_getElem? (i := 336) (by decide +kernel), List.forall_mem_cons.mpr ⟨List.mem_of_getElem? (i := 337) (by decide +kernel), List.forall_mem_cons.mpr ⟨List.mem_of_getElem? (i := 338) (by decide +kernel), List.forall_mem_cons.mpr ⟨List.mem_of_getElem? (i := 339) (by decide +kernel), List.forall_mem_cons.mpr ⟨List.mem_of_getElem? (i := 340) (by decide +kernel), List.forall_mem_cons.mpr ⟨List.mem_of_getElem? (i := 341) (by decide +kernel), List.forall_mem_cons.mpr ⟨List.mem_of_getElem? (i := 343) (by decide +kernel), List.forall_mem_cons.mpr ⟨List.mem_of_getElem? (i := 344) (by decide +kernel), List.forall_mem_cons.mpr ⟨List.mem_of_getElem? (i := 345) (by decide +kernel), List.forall_mem_cons.mpr ⟨List.mem_of_getElem? (i := 346) (by decide +kernel), List.forall_mem_cons.mpr ⟨List.mem_of_getElem? (i := 371) (by decide +kernel), List.forall_mem_cons.mpr ⟨List.mem_of_getElem? (i := 372) (by decide +kernel), List.forall_mem_cons.mpr ⟨List.mem_of_getElem? (i := 373) (by decide +kernel), fun _ h => absurd h List.not_mem_nil⟩⟩⟩⟩⟩⟩⟩⟩⟩⟩⟩⟩⟩⟩⟩⟩⟩⟩⟩⟩⟩⟩⟩⟩
end
section
set_option maxRecDepth 20000 in
theorem inw_11 : ∀ w ∈ wsL_law0_r11, w ∈ lw_tbl := List.forall_mem_cons.mpr ⟨List.mem_of_getElem? (i := 374) (by decide +kernel), List.forall_mem_cons.mpr ⟨List.mem_of_getElem? (i := 375) (by decide +kernel), List.forall_mem_cons.mpr ⟨List.mem_of_getElem? (i := 376) (by decide +kernel), List.forall_mem_cons.mpr ⟨List.mem_of_getElem? (i := 377) (by decide +kernel), List.forall_mem_cons.mpr ⟨List.mem_of_getElem? (i := 347) (by decide +kernel), List.forall_mem_cons.mpr ⟨List.mem_of_getElem? (i := 348) (by decide +kernel), List.forall_mem_cons.mpr ⟨List.mem_of_getElem? (i := 349) (by decide +kernel), List.forall_mem_cons.mpr ⟨List.mem_of_getElem? (i := 350) (by decide +kernel), List.forall_mem_cons.mpr ⟨List.mem_of_getElem? (i := 351) (by decide +kernel), List.forall_mem_cons.mpr ⟨List.mem_of_getElem? (i := 352) (by decide +kernel), List.forall_mem_cons.mpr ⟨List.mem_of_getElem? (i := 353) (by decide +kernel), List.forall_mem_cons.mpr ⟨List.mem_of_getElem? (i := 67) (by decide +kernel), List.forall_mem_cons.mpr ⟨List.mem_of_getElem? (i := 355) (by decide +kernel), List.forall_mem_cons.mpr ⟨List.mem_of_getElem? (i := 357) (by decide +kernel), List.forall_mem_cons.mpr ⟨List.mem_of_getElem? (i := 3) (by decide +kernel), List.forall_mem_cons.mpr ⟨List.mem_of_getElem? (i := 358) (by decide +kernel), List.forall_mem_cons.mpr ⟨List.mem_of_getElem? (i := 61) (by decide +kernel), List.forall_mem_cons.mpr ⟨List.mem_of_getElem? (i := 63) (by decide +kernel), List.forall_mem_cons.mpr ⟨List.mem_of_getElem? (i := 65) (by decide +kernel), List.forall_mem_cons.mpr ⟨List.mem_of_getElem? (i := 359) (by decide +kernel), List.forall_mem_cons.mpr ⟨List.mem_of_getElem? (i := 360) (by decide +kernel), List.forall_mem_cons.mpr ⟨List.mem_of_getElem? (i := 361) (by decide +kernel), List.forall_mem_cons.mpr ⟨List.mem_of_getElem? (i := 362) (by decide +kernel), List.forall_mem_cons.mpr ⟨List.mem_of_getElem? (i := 363) (by decide +kernel), fun _ h => absurd h List.not_mem_nil⟩⟩⟩⟩⟩⟩⟩⟩⟩⟩⟩⟩⟩⟩⟩⟩⟩⟩⟩⟩⟩⟩⟩⟩
set_option maxRecDepth 20000 in
theorem inw_12 : ∀ w ∈ wsL_law0_r12, w ∈ lw_tbl := List.forall_mem_cons.mpr ⟨List.mem_of_getElem? (i := 379) (by decide +kernel), List.forall_mem_cons.mpr ⟨List.mem_of_getElem? (i := 380) (by decide +kernel), List.forall_mem_cons.mpr ⟨List.mem_of_getElem? (i := 381) (by decide +kernel), List.forall_mem_cons.mpr ⟨List.mem_of_getElem? (i := 382) (by decide +kernel), List.forall_mem_cons.mpr ⟨List.mem_of_getElem? (i := 383) (by decide +kernel), List.forall_mem_cons.mpr ⟨List.mem_of_getElem? (i := 384) (by decide +kernel), List.forall_mem_cons.mpr ⟨List.mem_of_getElem? (i := 385) (by decide +kernel), List.forall_mem_cons.mpr ⟨List.mem_of_getElem? (i := 386) (by decide +kernel), List.forall_mem_cons.mpr ⟨List.mem_of_getElem? (i := 387) (by decide +kernel), List.forall_mem_cons.mpr ⟨List.mem_of_getElem? (i := 388) (by decide +kernel), List.forall_mem_cons.mpr ⟨List.mem_of_getElem? (i := 390) (by decide +kernel), List.forall_mem_cons.mpr ⟨List.mem_of_getElem? (i := 391) (by decide +kernel), List.forall_mem_cons.mpr ⟨List.mem_of_getElem? (i := 392) (by decide +kernel), List.forall_mem_cons.mpr ⟨List.mem_of_getElem? (i := 393) (by decide +kernel), List.forall_mem_cons.mpr ⟨List.mem_of_getElem? (i := 394) (by decide +kernel), List.forall_mem_cons.mpr ⟨List.mem_of_getElem? (i := 395) (by decide +kernel), List.forall_mem_cons.mpr ⟨List.mem_of_getElem? (i := 396) (by decide +kernel), List.forall_mem_cons.mpr ⟨List.mem_of_getElem? (i := 398) (by decide +kernel), List.forall_mem_cons.mpr ⟨List.mem_of_getElem? (i := 400) (by decide +kernel), List.forall_mem_cons.mpr ⟨List.mem_of_getElem? (i := 4) (by decide +kernel), List.forall_mem_cons.mpr ⟨List.mem_of_getElem? (i := 401) (by decide +kernel), List.forall_mem_cons.mpr ⟨List.mem_of_getElem? (i := 403) (by decide +kernel), List.forall_mem_cons.mpr ⟨List.mem_of_getElem? (i := 404) (by decide +kernel), List.forall_mem_cons.mpr ⟨List.mem_of_getElem? (i := 405) (by decide +kernel), fun _ h => absurd h List.not_mem_nil⟩⟩⟩⟩⟩⟩⟩⟩⟩⟩⟩⟩⟩⟩⟩⟩⟩⟩⟩⟩⟩⟩⟩⟩
set_option maxRecDepth 20000 in
theorem inw_13 : ∀ w ∈ wsL_law0_r13, w ∈ lw_tbl := List.forall_mem_cons.mpr ⟨List.mem_of_getElem? (i := 406) (by decide +kernel), List.forall_mem_cons.mpr ⟨List.mem_of_getElem? (i := 407) (by decide +kernel), List.forall_mem_cons.mpr ⟨List.mem_of_getElem? (i := 408) (by decide +kernel), List.forall_mem_cons.mpr ⟨List.mem_of_getElem? (i := 409) (by decide +kernel), List.forall_mem_cons.mpr ⟨List.mem_of_getElem? (i := 427) (by decide +kernel), List.forall_mem_cons.mpr ⟨List.mem_of_getElem? (i := 428) (by decide +kernel), List.forall_mem_cons.mpr ⟨List.mem_of_getElem? (i := 429) (by decide +kernel), List.forall_mem_cons.mpr ⟨List.mem_of_getElem? (i := 434) (by decide +kernel), List.forall_mem_cons.mpr ⟨List.mem_of_getElem? (i := 430) (by decide +kernel), List.forall_mem_cons.mpr ⟨List.mem_of_getElem? (i := 431) (by decide +kernel), List.forall_mem_cons.mpr ⟨List.mem_of_getElem? (i := 432) (by decide +kernel), List.forall_mem_cons.mpr ⟨List.mem_of_getElem? (i := 433) (by decide +kernel), List.forall_mem_cons.mpr ⟨List.mem_of_getElem? (i := 411) (by decide +kernel), List.forall_mem_cons.mpr ⟨List.mem_of_getElem? (i := 412) (by decide +kernel), List.forall_mem_cons.mpr ⟨List.mem_of_getElem? (i := 413) (by decide +kernel), List.forall_mem_cons.mpr ⟨List.mem_of_getElem? (i := 414) (by decide +kernel), List.forall_mem_cons.mpr ⟨List.mem_of_getElem? (i := 415) (by decide +kernel), List.forall_mem_cons.mpr ⟨List.mem_of_getElem? (i := 416) (by decide +kernel), List.forall_mem_cons.mpr ⟨List.mem_of_getElem? (i := 417) (by decide +kernel), List.forall_mem_cons.mpr ⟨List.mem_of_getElem? (i := 419) (by decide +kernel), List.forall_mem_cons.mpr ⟨List.mem_of_getElem? (i := 420) (by decide +kernel), List.forall_mem_cons.mpr ⟨List.mem_of_getElem? (i := 421) (by decide +kernel), List.forall_mem_cons.mpr ⟨List.mem_of_getElem? (i := 422) (by decide +kernel), List.forall_mem_cons.mpr ⟨List.mem_of_getElem? (i := 423) (by decide +kernel), fun _ h => absurd h List.not_mem_nil⟩⟩⟩⟩⟩⟩⟩⟩⟩⟩⟩⟩⟩⟩⟩⟩⟩⟩⟩⟩⟩⟩⟩⟩
set_option maxRecDepth 20000 in
theorem inw_14 : ∀ w ∈ wsL_law0_r14, w ∈ lw_tbl := List.forall_mem_cons.mpr ⟨List.mem_of_getElem? (i := 424) (by decide +kernel), List.forall_mem_cons.mpr ⟨List.mem_of_getElem? (i := 425) (by decide +kernel), List.forall_mem_cons.mpr ⟨List.mem_of_getElem? (i := 435) (by decide +kernel), List.forall_mem_cons.mpr ⟨List.mem_of_getElem? (i := 436) (by decide +kernel), List.forall_mem_cons.mpr ⟨List.mem_of_getElem? (i := 437) (by decide +kernel), List.forall_mem_cons.mpr ⟨List.mem_of_getElem? (i := 438) (by decide +kernel), List.forall_mem_cons.mpr ⟨List.mem_of_getElem? (i := 439) (by decide +kernel), List.forall_mem_cons.mpr ⟨List.mem_of_getElem? (i := 440) (by decide +kernel), List.forall_mem_cons.mpr ⟨List.mem_of_getElem? (i := 441) (by decide +kernel), fun _ h => absurd h List.not_mem_nil⟩⟩⟩⟩⟩⟩⟩⟩⟩
end
section
set_option maxRecDepth 20000 in
theorem inv_20 : ∀ w ∈ wsX20, w ∈ lw_tbl := by decide +kernel
set_option maxRecDepth 20000 in
theorem inv_00 : ∀ w ∈ wsX00, w ∈ lw_tbl := by decide +kernel
set_option maxRecDepth 20000 in
theorem inv_10 : ∀ w ∈ wsX10, w ∈ lw_tbl := by decide +kernel
set_option maxRecDepth 20000 in
theorem wsL_law_in0 : ∀ w ∈ wsL_law0, w ∈ lw_tbl := q_inapp (q_inapp (q_inapp (q_inapp (q_inapp inw_1 (q_inapp inw_2 (q_inapp inw_3 (q_inapp inw_4 (q_inapp inw_5 (q_inapp inw_6 (q_inapp inw_7 (q_inapp inw_8 (q_inapp inw_9 (q_inapp inw_10 (q_inapp inw_11 (q_inapp inw_12 (q_inapp inw_13 inw_14))))))))))))) inv_20) inv_00) inv_10) (fun _ h => absurd h List.not_mem_nil)
end
section
set_option maxRecDepth 20000 in
theorem wsL_law_x0 : ∀ w ∈ (vx_atS RX2 84 "java/lang/IndexOutOfBoundsException" ["java/lang/RuntimeException", "java/lang/Exception"]).filter goodWord, w ∈ lw_tbl := by decide +kernel
set_option maxRecDepth 20000 in
theorem wsL_law_x1 : ∀ w ∈ (vx_atS RX2 58 "java/lang/IllegalArgumentException" ["java/lang/RuntimeException", "java/lang/Exception"]).filter goodWord, w ∈ lw_tbl := by decide +kernel
set_option maxRecDepth 20000 in
theorem wsL_law_x2 : ∀ w ∈ (vx_atS RX2 95 "java/lang/IllegalStateException" ["java/lang/RuntimeException", "java/lang/Exception"]).filter goodWord, w ∈ lw_tbl := by decide +kernel
theorem wsL_law_in : ∀ w ∈ wsL_law, w ∈ lw_tbl := fun w h => (List.mem_append.mp h).elim (fun h => (List.mem_append.mp h).elim (fun h => (List.mem_append.mp h).elim (fun h => wsL_law_in0 w h) (fun h => wsL_law_x0 w h)) (fun h => wsL_law_x1 w h)) (fun h => wsL_law_x2 w h)
theorem inlX0 : ∀ w ∈ wsX00, w ∈ wsL_law := fun _ h => List.mem_append_left _ (List.mem_append_left _ (List.mem_append_left _ (List.mem_append_left _ (List.mem_append_left _ (List.mem_append_right _ h)))))
theorem inX0 : ∀ w ∈ wsX00, w ∈ lw_tbl := fun w h => wsL_law_in w (inlX0 w h)
theorem inlX1 : ∀ w ∈ wsX10, w ∈ wsL_law := fun _ h => List.mem_append_left _ (List.mem_append_left _ (List.mem_append_left _ (List.mem_append_left _ (List.mem_append_right _ h))))
theorem inX1 : ∀ w ∈ wsX10, w ∈ lw_tbl := fun w h => wsL_law_in w (inlX1 w h)
theorem inlX2 : ∀ w ∈ wsX20, w ∈ wsL_law := fun _ h => List.mem_append_left _ (List.mem_append_left _ (List.mem_append_left _ (List.mem_append_left _ (List.mem_append_left _ (List.mem_append_left _ (List.mem_append_right _ h))))))
theorem inX2 : ∀ w ∈ wsX20, w ∈ lw_tbl := fun w h => wsL_law_in w (inlX2 w h)
set_option maxRecDepth 20000 in
theorem inX3 : ∀ w ∈ wsX30, w ∈ lw_tbl := by decide +kernel
set_option maxRecDepth 20000 in
theorem inJ9 : ∀ w ∈ wsJ90, w ∈ lw_tbl := by decide +kernel
set_option maxRecDepth 20000 in
theorem inJ0 : ∀ w ∈ wsJ00, w ∈ lw_tbl := by decide +kernel
end
section
set_option maxRecDepth 20000 in
theorem ggL_law_X2_init : GoodIn wsL_law wsX2_init := goodIn_r _ [8, 9, 10, 11, 12, 13, 14, 15, 16, 17, 18, 19, 3, 20, 21, 22, 23, 24, 25, 26, 27, 28, 29, 30, 31, 32, 33, 34, 35, 36, 37, 38, 39, 40, 41, 42, 43, 44, 45, 46, 47, 48, 49, 50, 51, 52, 53, 54, 55, 331, 332, 333, 334, 321, 322, 323, 324, 325, 326, 327, 328, 329, 330, 335, 336, 337, 338, 339, 340, 341] (by decide +kernel) (by decide +kernel)
set_option maxRecDepth 20000 in
theorem gL_law_X2_init : GoodIn wsL_law (wsX2_init) := ggL_law_X2_init
set_option maxRecDepth 20000 in
theorem ggL_law_X2_offers : GoodIn wsL_law wsX2_offers := goodIn_r _ [59, 19, 60, 321, 322, 323, 324, 325, 326, 327, 328, 329, 330, 335, 336, 337, 338, 339, 340, 341] (by decide +kernel) (by decide +kernel)
set_option maxRecDepth 20000 in
theorem gL_law_X2_offers : GoodIn wsL_law (wsV RL 88 RX2 yX2_offers wsX2_offers) := goodIn_app (goodIn_of _ (by decide +kernel)) ggL_law_X2_offers
set_option maxRecDepth 20000 in
theorem ggL_law_X2_trades : GoodIn wsL_law wsX2_trades := goodIn_r _ [64, 26, 321, 322, 323, 324, 325, 326, 327, 328, 329, 330] (by decide +kernel) (by decide +kernel)
set_option maxRecDepth 20000 in
theorem gL_law_X2_trades : GoodIn wsL_law (wsV RL 104 RX2 yX2_trades wsX2_trades) := goodIn_app (goodIn_of _ (by decide +kernel)) ggL_law_X2_trades
set_option maxRecDepth 20000 in
theorem ggL_law_X2_penalties : GoodIn wsL_law wsX2_penalties := goodIn_r _ [68, 69, 70, 71, 2, 72, 27, 21, 28, 73, 74, 75, 76, 77, 78, 79, 80, 81, 82, 83, 84, 25, 22, 23, 85, 86, 87, 88, 89, 90, 321, 322, 323, 324, 325, 326, 327, 328, 329, 330] (by decide +kernel) (by decide +kernel)
set_option maxRecDepth 20000 in
theorem gL_law_X2_penalties : GoodIn wsL_law (wsV RL 107 RX2 yX2_penalties wsX2_penalties) := goodIn_app (goodIn_of _ (by decide +kernel)) ggL_law_X2_penalties
set_option maxRecDepth 20000 in
theorem ggL_law_L_cell : GoodIn wsL_law wsL_cell := goodIn_r _ [94, 95, 96] (by decide +kernel) (by decide +kernel)
set_option maxRecDepth 20000 in
theorem gL_law_L_cell : GoodIn wsL_law (va_wsS RL 111 yL_cell wsL_cell) := goodIn_app (goodIn_of _ (by decide +kernel)) ggL_law_L_cell
set_option maxRecDepth 20000 in
theorem ggL_law_L_offer : GoodIn wsL_law wsL_offer := goodIn_ca (goodIn_ca (goodIn_ca (goodIn_r _ [99, 100, 101, 102, 103, 104, 105, 2, 106, 107, 108, 109, 110, 111, 112, 19, 113, 114, 115, 116, 117, 118, 119, 120, 121, 18, 122, 55, 123, 124, 125, 126, 53, 52, 49, 50, 51, 321, 322, 323, 324, 325, 326, 327, 328, 329, 330, 335, 336, 337, 338, 339, 340, 341] (by decide +kernel) (by decide +kernel)) (goodIn_sub (fun _ h => List.mem_append_left _ (List.mem_append_left _ (List.mem_append_right _ h))) (by decide +kernel))) (goodIn_sub (fun _ h => List.mem_append_left _ (List.mem_append_right _ h)) (by decide +kernel))) (goodIn_sub (fun _ h => List.mem_append_right _ h) (by decide +kernel))
set_option maxRecDepth 20000 in
theorem gL_law_L_offer : GoodIn wsL_law (va_wsS RL 115 yL_offer wsL_offer) := goodIn_app (goodIn_of _ (by decide +kernel)) ggL_law_L_offer
set_option maxRecDepth 20000 in
theorem ggL_law_L_supply : GoodIn wsL_law wsL_supply := goodIn_ca (goodIn_r _ [129, 101, 130, 131, 132, 2, 133, 109, 110, 19, 116, 117, 118, 134, 135, 136, 18, 137, 55, 53, 50, 321, 322, 323, 324, 325, 326, 327, 328, 329, 330, 335, 336, 337, 338, 339, 340, 341] (by decide +kernel) (by decide +kernel)) (goodIn_sub (fun _ h => List.mem_append_left _ (List.mem_append_right _ h)) (by decide +kernel))
set_option maxRecDepth 20000 in
theorem gL_law_L_supply : GoodIn wsL_law (va_wsS RL 118 yL_supply wsL_supply) := goodIn_app (goodIn_of _ (by decide +kernel)) ggL_law_L_supply
set_option maxRecDepth 20000 in
theorem ggL_law_L_demand : GoodIn wsL_law wsL_demand := goodIn_ca (goodIn_r _ [140, 101, 141, 142, 143, 2, 144, 109, 110, 15, 116, 117, 118, 145, 35, 36, 14, 37, 38, 39, 40, 33, 41, 42, 43, 44, 321, 322, 323, 324, 325, 326, 327, 328, 329, 330, 331, 332, 333, 334] (by decide +kernel) (by decide +kernel)) (goodIn_sub (fun _ h => List.mem_append_left _ (List.mem_append_right _ h)) (by decide +kernel))
set_option maxRecDepth 20000 in
theorem gL_law_L_demand : GoodIn wsL_law (va_wsS RL 121 yL_demand wsL_demand) := goodIn_app (goodIn_of _ (by decide +kernel)) ggL_law_L_demand
set_option maxRecDepth 20000 in
theorem ggL_law_L_isFalling : GoodIn wsL_law wsL_isFalling := goodIn_ca (goodIn_r _ [148, 149, 150, 93, 151, 101, 152, 153, 154, 2, 155, 109, 110, 15, 116, 117, 118, 156, 42, 43, 14, 44, 38, 40, 39, 157, 158, 159, 160, 161, 162, 163, 164, 165, 166, 167, 33, 168, 169, 76, 170, 171, 172, 173, 321, 322, 323, 324, 325, 326, 327, 328, 329, 330, 331, 332, 333, 334] (by decide +kernel) (by decide +kernel)) (goodIn_sub (fun _ h => List.mem_append_left _ (List.mem_append_right _ h)) (by decide +kernel))
set_option maxRecDepth 20000 in
theorem gL_law_L_isFalling : GoodIn wsL_law (va_wsS RL 125 yL_isFalling wsL_isFalling) := goodIn_app (goodIn_of _ (by decide +kernel)) ggL_law_L_isFalling
set_option maxRecDepth 20000 in
theorem ggL_law_L_clears : GoodIn wsL_law wsL_clears := goodIn_ca (goodIn_ca (goodIn_r _ [176, 56, 57, 58, 2, 59, 19, 60, 177, 178, 93, 179, 100, 180, 181, 182, 183, 107, 108, 15, 20, 184, 185, 186, 116, 117, 118, 187, 188, 189, 18, 190, 55, 52, 50, 53, 191, 165, 166, 14, 167, 33, 168, 169, 76, 170, 171, 172, 173, 192, 193, 194, 195, 196, 197, 198, 199, 200, 201, 202, 203, 204, 205, 206, 54, 207, 208, 209, 210, 211, 212, 213, 214, 215, 216, 217, 218, 219, 220, 221, 157, 158, 159, 101, 160, 161, 162, 163, 109, 110, 164, 222, 223, 224, 225, 226, 227, 228, 229, 230, 231, 232, 233, 234, 235, 236, 321, 322, 323, 324, 325, 326, 327, 328, 329, 330, 335, 336, 337, 338, 339, 340, 341, 331, 332, 333, 334] (by decide +kernel) (by decide +kernel)) (goodIn_sub (fun _ h => List.mem_append_left _ (List.mem_append_left _ (List.mem_append_right _ h))) (by decide +kernel))) (goodIn_sub (fun _ h => List.mem_append_left _ (List.mem_append_right _ h)) (by decide +kernel))
set_option maxRecDepth 20000 in
theorem gL_law_L_clears : GoodIn wsL_law (va_wsS RL 129 yL_clears wsL_clears) := goodIn_app (goodIn_of _ (by decide +kernel)) ggL_law_L_clears
set_option maxRecDepth 20000 in
theorem ggL_law_L_bought : GoodIn wsL_law wsL_bought := goodIn_ca (goodIn_r _ [217, 100, 218, 219, 220, 2, 221, 107, 108, 20, 184, 185, 186, 116, 117, 118, 321, 322, 323, 324, 325, 326, 327, 328, 329, 330] (by decide +kernel) (by decide +kernel)) (goodIn_sub (fun _ h => List.mem_append_left _ (List.mem_append_left _ (List.mem_append_right _ h))) (by decide +kernel))
set_option maxRecDepth 20000 in
theorem gL_law_L_bought : GoodIn wsL_law (va_wsS RL 97 yL_bought wsL_bought) := goodIn_app (goodIn_of _ (by decide +kernel)) ggL_law_L_bought
set_option maxRecDepth 20000 in
theorem ggL_law_L_clearing : GoodIn wsL_law wsL_clearing := goodIn_ca (goodIn_r _ [179, 100, 180, 181, 182, 2, 183, 107, 108, 19, 15, 20, 184, 185, 186, 116, 117, 118, 187, 188, 189, 18, 190, 55, 52, 50, 53, 191, 165, 166, 14, 167, 33, 168, 169, 76, 170, 171, 172, 173, 192, 193, 194, 195, 321, 322, 323, 324, 325, 326, 327, 328, 329, 330, 335, 336, 337, 338, 339, 340, 341, 331, 332, 333, 334] (by decide +kernel) (by decide +kernel)) (goodIn_sub (fun _ h => List.mem_append_left _ (List.mem_append_left _ (List.mem_append_right _ h))) (by decide +kernel))
set_option maxRecDepth 20000 in
theorem gL_law_L_clearing : GoodIn wsL_law (va_wsS RL 92 yL_clearing wsL_clearing) := goodIn_app (goodIn_of _ (by decide +kernel)) ggL_law_L_clearing
set_option maxRecDepth 20000 in
theorem ggL_law_L_would : GoodIn wsL_law wsL_would := goodIn_ca (goodIn_r _ [224, 100, 225, 226, 227, 2, 228, 107, 108, 19, 15, 20, 229, 230, 231, 18, 232, 55, 184, 185, 186, 116, 117, 118, 187, 188, 189, 190, 52, 50, 53, 191, 165, 166, 14, 167, 33, 168, 169, 76, 170, 171, 172, 173, 233, 234, 235, 236, 321, 322, 323, 324, 325, 326, 327, 328, 329, 330, 335, 336, 337, 338, 339, 340, 341, 331, 332, 333, 334] (by decide +kernel) (by decide +kernel)) (goodIn_sub (fun _ h => List.mem_append_left _ (List.mem_append_left _ (List.mem_append_right _ h))) (by decide +kernel))
set_option maxRecDepth 20000 in
theorem gL_law_L_would : GoodIn wsL_law (va_wsS RL 99 yL_would wsL_would) := goodIn_app (goodIn_of _ (by decide +kernel)) ggL_law_L_would
set_option maxRecDepth 20000 in
theorem ggL_law_L_income : GoodIn wsL_law wsL_income := goodIn_ca (goodIn_r _ [239, 100, 240, 241, 242, 2, 243, 107, 108, 21, 113, 114, 115, 116, 117, 118, 184, 185, 186, 88, 89, 90, 321, 322, 323, 324, 325, 326, 327, 328, 329, 330] (by decide +kernel) (by decide +kernel)) (goodIn_sub (fun _ h => List.mem_append_left _ (List.mem_append_left _ (List.mem_append_right _ h))) (by decide +kernel))
set_option maxRecDepth 20000 in
theorem gL_law_L_income : GoodIn wsL_law (va_wsS RL 133 yL_income wsL_income) := goodIn_app (goodIn_of _ (by decide +kernel)) ggL_law_L_income
set_option maxRecDepth 20000 in
theorem ggL_law_L_run : GoodIn wsL_law wsL_run := goodIn_ca (goodIn_ca (goodIn_r _ [246, 100, 102, 247, 248, 249, 2, 250, 107, 108, 111, 112, 19, 60, 15, 20, 251, 184, 185, 186, 116, 117, 118, 187, 188, 189, 18, 190, 55, 52, 50, 53, 191, 165, 166, 14, 167, 33, 168, 169, 76, 170, 171, 172, 173, 192, 193, 194, 195, 252, 253, 254, 255, 256, 257, 258, 259, 21, 22, 88, 89, 90, 85, 86, 87, 260, 261, 262, 263, 321, 322, 323, 324, 325, 326, 327, 328, 329, 330, 335, 336, 337, 338, 339, 340, 341, 331, 332, 333, 334] (by decide +kernel) (by decide +kernel)) (goodIn_sub (fun _ h => List.mem_append_left _ (List.mem_append_left _ (List.mem_append_right _ h))) (by decide +kernel))) (goodIn_sub (fun _ h => List.mem_append_right _ h) (by decide +kernel))
set_option maxRecDepth 20000 in
theorem gL_law_L_run : GoodIn wsL_law (va_wsS RL 135 yL_run wsL_run) := goodIn_app (goodIn_of _ (by decide +kernel)) ggL_law_L_run
set_option maxRecDepth 20000 in
theorem ggL_law_L_obliged : GoodIn wsL_law wsL_obliged := goodIn_ca (goodIn_r _ [266, 100, 267, 268, 269, 2, 270, 107, 108, 22, 113, 114, 115, 116, 117, 118, 184, 185, 186, 271, 272, 273, 85, 86, 87, 88, 89, 90, 321, 322, 323, 324, 325, 326, 327, 328, 329, 330] (by decide +kernel) (by decide +kernel)) (goodIn_sub (fun _ h => List.mem_append_left _ (List.mem_append_left _ (List.mem_append_right _ h))) (by decide +kernel))
set_option maxRecDepth 20000 in
theorem gL_law_L_obliged : GoodIn wsL_law (va_wsS RL 137 yL_obliged wsL_obliged) := goodIn_app (goodIn_of _ (by decide +kernel)) ggL_law_L_obliged
set_option maxRecDepth 20000 in
theorem ggL_law_L_trade : GoodIn wsL_law wsL_trade := goodIn_ca (goodIn_ca (goodIn_ca (goodIn_r _ [276, 100, 101, 102, 277, 278, 279, 2, 280, 107, 108, 109, 110, 111, 112, 22, 26, 113, 114, 115, 116, 117, 118, 184, 185, 186, 271, 272, 273, 281, 282, 283, 284, 259, 169, 76, 170, 85, 86, 87, 88, 89, 90, 321, 322, 323, 324, 325, 326, 327, 328, 329, 330] (by decide +kernel) (by decide +kernel)) (goodIn_sub (fun _ h => List.mem_append_left _ (List.mem_append_left _ (List.mem_append_right _ h))) (by decide +kernel))) (goodIn_sub (fun _ h => List.mem_append_left _ (List.mem_append_right _ h)) (by decide +kernel))) (goodIn_sub (fun _ h => List.mem_append_right _ h) (by decide +kernel))
set_option maxRecDepth 20000 in
theorem gL_law_L_trade : GoodIn wsL_law (va_wsS RL 140 yL_trade wsL_trade) := goodIn_app (goodIn_of _ (by decide +kernel)) ggL_law_L_trade
set_option maxRecDepth 20000 in
theorem ggL_law_L_stress : GoodIn wsL_law wsL_stress := goodIn_ca (goodIn_r _ [287, 100, 288, 289, 290, 2, 291, 107, 108, 25, 184, 185, 186, 116, 117, 118, 271, 272, 273, 321, 322, 323, 324, 325, 326, 327, 328, 329, 330] (by decide +kernel) (by decide +kernel)) (goodIn_sub (fun _ h => List.mem_append_left _ (List.mem_append_left _ (List.mem_append_right _ h))) (by decide +kernel))
set_option maxRecDepth 20000 in
theorem gL_law_L_stress : GoodIn wsL_law (va_wsS RL 143 yL_stress wsL_stress) := goodIn_app (goodIn_of _ (by decide +kernel)) ggL_law_L_stress
set_option maxRecDepth 20000 in
theorem ggL_law_L_lack : GoodIn wsL_law wsL_lack := goodIn_ca (goodIn_r _ [294, 100, 295, 296, 297, 298, 2, 299, 107, 108, 113, 114, 115, 116, 117, 118, 184, 185, 186, 81, 82, 83, 84, 25, 22, 23, 85, 86, 87, 88, 89, 90, 321, 322, 323, 324, 325, 326, 327, 328, 329, 330] (by decide +kernel) (by decide +kernel)) (goodIn_sub (fun _ h => List.mem_append_left _ (List.mem_append_left _ (List.mem_append_right _ h))) (by decide +kernel))
set_option maxRecDepth 20000 in
theorem gL_law_L_lack : GoodIn wsL_law (va_wsS RL 145 yL_lack wsL_lack) := goodIn_app (goodIn_of _ (by decide +kernel)) ggL_law_L_lack
set_option maxRecDepth 20000 in
theorem ggL_law_L_tell : GoodIn wsL_law wsL_tell := goodIn_ca (goodIn_ca (goodIn_r _ [302, 100, 101, 303, 304, 305, 2, 306, 107, 108, 109, 110, 23, 113, 114, 115, 116, 117, 118, 184, 185, 186, 271, 272, 273, 85, 86, 87, 88, 89, 90, 321, 322, 323, 324, 325, 326, 327, 328, 329, 330] (by decide +kernel) (by decide +kernel)) (goodIn_sub (fun _ h => List.mem_append_left _ (List.mem_append_left _ (List.mem_append_right _ h))) (by decide +kernel))) (goodIn_sub (fun _ h => List.mem_append_left _ (List.mem_append_right _ h)) (by decide +kernel))
set_option maxRecDepth 20000 in
theorem gL_law_L_tell : GoodIn wsL_law (va_wsS RL 147 yL_tell wsL_tell) := goodIn_app (goodIn_of _ (by decide +kernel)) ggL_law_L_tell
set_option maxRecDepth 20000 in
theorem ggL_law_L_setPenalty : GoodIn wsL_law wsL_setPenalty := goodIn_ca (goodIn_r _ [309, 101, 310, 311, 312, 2, 313, 109, 110, 27, 28, 116, 117, 118, 321, 322, 323, 324, 325, 326, 327, 328, 329, 330] (by decide +kernel) (by decide +kernel)) (goodIn_sub (fun _ h => List.mem_append_left _ (List.mem_append_right _ h)) (by decide +kernel))
set_option maxRecDepth 20000 in
theorem gL_law_L_setPenalty : GoodIn wsL_law (va_wsS RL 150 yL_setPenalty wsL_setPenalty) := goodIn_app (goodIn_of _ (by decide +kernel)) ggL_law_L_setPenalty
set_option maxRecDepth 20000 in
theorem ggL_law_L_penalty : GoodIn wsL_law wsL_penalty := goodIn_ca (goodIn_r _ [316, 100, 317, 318, 319, 2, 320, 107, 108, 113, 114, 115, 116, 117, 118, 184, 185, 186, 69, 70, 71, 72, 27, 21, 28, 73, 74, 75, 76, 77, 78, 79, 80, 81, 82, 83, 84, 25, 22, 23, 85, 86, 87, 88, 89, 90, 321, 322, 323, 324, 325, 326, 327, 328, 329, 330] (by decide +kernel) (by decide +kernel)) (goodIn_sub (fun _ h => List.mem_append_left _ (List.mem_append_left _ (List.mem_append_right _ h))) (by decide +kernel))
set_option maxRecDepth 20000 in
theorem gL_law_L_penalty : GoodIn wsL_law (va_wsS RL 152 yL_penalty wsL_penalty) := goodIn_app (goodIn_of _ (by decide +kernel)) ggL_law_L_penalty
end
section
theorem dL_law_0 : decode cL_law 0 = .ok (.new 10, 3) := by decide +kernel
theorem dL_law_3 : decode cL_law 3 = .ok (.dup, 1) := by decide +kernel
theorem dL_law_4 : decode cL_law 4 = .ok (.invokespecial 103, 3) := by decide +kernel
theorem dL_law_7 : decode cL_law 7 = .ok (.astore_n 1, 1) := by decide +kernel
theorem dL_law_8 : decode cL_law 8 = .ok (.bipush 12, 2) := by decide +kernel
theorem dL_law_10 : decode cL_law 10 = .ok (.newarray .int, 2) := by decide +kernel
theorem dL_law_12 : decode cL_law 12 = .ok (.astore_n 2, 1) := by decide +kernel
theorem dL_law_13 : decode cL_law 13 = .ok (.bipush 12, 2) := by decide +kernel
theorem dL_law_15 : decode cL_law 15 = .ok (.newarray .int, 2) := by decide +kernel
theorem dL_law_17 : decode cL_law 17 = .ok (.astore_n 3, 1) := by decide +kernel
theorem dL_law_18 : decode cL_law 18 = .ok (.aload_n 1, 1) := by decide +kernel
theorem dL_law_19 : decode cL_law 19 = .ok (.invokevirtual 88, 3) := by decide +kernel
theorem dL_law_22 : decode cL_law 22 = .ok (.ifCond .ne 23, 3) := by decide +kernel
theorem dL_law_25 : decode cL_law 25 = .ok (.aload_n 1, 1) := by decide +kernel
theorem dL_law_26 : decode cL_law 26 = .ok (.invokevirtual 104, 3) := by decide +kernel
theorem dL_law_29 : decode cL_law 29 = .ok (.ifCond .ne 16, 3) := by decide +kernel
theorem dL_law_32 : decode cL_law 32 = .ok (.aload_n 1, 1) := by decide +kernel
theorem dL_law_33 : decode cL_law 33 = .ok (.invokevirtual 107, 3) := by decide +kernel
theorem dL_law_36 : decode cL_law 36 = .ok (.lconst 0, 1) := by decide +kernel
theorem dL_law_37 : decode cL_law 37 = .ok (.lcmp, 1) := by decide +kernel
theorem dL_law_38 : decode cL_law 38 = .ok (.ifCond .ne 7, 3) := by decide +kernel
theorem dL_law_41 : decode cL_law 41 = .ok (.iconst 1, 1) := by decide +kernel
theorem dL_law_42 : decode cL_law 42 = .ok (.goto 4, 3) := by decide +kernel
theorem dL_law_45 : decode cL_law 45 = .ok (.iconst 0, 1) := by decide +kernel
theorem dL_law_46 : decode cL_law 46 = .ok (.istore 4, 2) := by decide +kernel
theorem dL_law_48 : decode cL_law 48 = .ok (.iconst 0, 1) := by decide +kernel
theorem dL_law_49 : decode cL_law 49 = .ok (.istore 5, 2) := by decide +kernel
theorem dL_law_51 : decode cL_law 51 = .ok (.iload 5, 2) := by decide +kernel
theorem dL_law_53 : decode cL_law 53 = .ok (.bipush 50, 2) := by decide +kernel
theorem dL_law_55 : decode cL_law 55 = .ok (.if_icmp .ge 1104, 3) := by decide +kernel
theorem dL_law_58 : decode cL_law 58 = .ok (.iload 4, 2) := by decide +kernel
theorem dL_law_60 : decode cL_law 60 = .ok (.ifCond .eq 1099, 3) := by decide +kernel
theorem dL_law_63 : decode cL_law 63 = .ok (.aload_n 0, 1) := by decide +kernel
theorem dL_law_64 : decode cL_law 64 = .ok (.iload 5, 2) := by decide +kernel
theorem dL_law_66 : decode cL_law 66 = .ok (.invokestatic 111, 3) := by decide +kernel
theorem dL_law_69 : decode cL_law 69 = .ok (.istore 6, 2) := by decide +kernel
theorem dL_law_71 : decode cL_law 71 = .ok (.iload 6, 2) := by decide +kernel
theorem dL_law_73 : decode cL_law 73 = .ok (.bipush 16, 2) := by decide +kernel
theorem dL_law_75 : decode cL_law 75 = .ok (.idiv, 1) := by decide +kernel
theorem dL_law_76 : decode cL_law 76 = .ok (.istore 7, 2) := by decide +kernel
theorem dL_law_78 : decode cL_law 78 = .ok (.iload 6, 2) := by decide +kernel
theorem dL_law_80 : decode cL_law 80 = .ok (.bipush 16, 2) := by decide +kernel
theorem dL_law_82 : decode cL_law 82 = .ok (.irem, 1) := by decide +kernel
theorem dL_law_83 : decode cL_law 83 = .ok (.istore 8, 2) := by decide +kernel
theorem dL_law_85 : decode cL_law 85 = .ok (.iload 7, 2) := by decide +kernel
theorem dL_law_87 : decode cL_law 87 = .ok (.iconst 5, 1) := by decide +kernel
theorem dL_law_88 : decode cL_law 88 = .ok (.irem, 1) := by decide +kernel
theorem dL_law_89 : decode cL_law 89 = .ok (.istore 9, 2) := by decide +kernel
theorem dL_law_91 : decode cL_law 91 = .ok (.iload 7, 2) := by decide +kernel
theorem dL_law_93 : decode cL_law 93 = .ok (.iconst 5, 1) := by decide +kernel
theorem dL_law_94 : decode cL_law 94 = .ok (.idiv, 1) := by decide +kernel
theorem dL_law_95 : decode cL_law 95 = .ok (.bipush 8, 2) := by decide +kernel
theorem dL_law_97 : decode cL_law 97 = .ok (.irem, 1) := by decide +kernel
theorem dL_law_98 : decode cL_law 98 = .ok (.istore 10, 2) := by decide +kernel
theorem dL_law_100 : decode cL_law 100 = .ok (.iload 7, 2) := by decide +kernel
theorem dL_law_102 : decode cL_law 102 = .ok (.bipush 40, 2) := by decide +kernel
theorem dL_law_104 : decode cL_law 104 = .ok (.idiv, 1) := by decide +kernel
theorem dL_law_105 : decode cL_law 105 = .ok (.bipush 12, 2) := by decide +kernel
theorem dL_law_107 : decode cL_law 107 = .ok (.irem, 1) := by decide +kernel
theorem dL_law_108 : decode cL_law 108 = .ok (.istore 11, 2) := by decide +kernel
theorem dL_law_110 : decode cL_law 110 = .ok (.aload_n 1, 1) := by decide +kernel
theorem dL_law_111 : decode cL_law 111 = .ok (.invokevirtual 88, 3) := by decide +kernel
theorem dL_law_114 : decode cL_law 114 = .ok (.istore 12, 2) := by decide +kernel
theorem dL_law_116 : decode cL_law 116 = .ok (.iload 8, 2) := by decide +kernel
theorem dL_law_118 : decode cL_law 118 = .ok (.bipush 7, 2) := by decide +kernel
theorem dL_law_120 : decode cL_law 120 = .ok (.if_icmp .ge 163, 3) := by decide +kernel
theorem dL_law_123 : decode cL_law 123 = .ok (.iconst 1, 1) := by decide +kernel
theorem dL_law_124 : decode cL_law 124 = .ok (.iload 7, 2) := by decide +kernel
theorem dL_law_126 : decode cL_law 126 = .ok (.bipush 120, 2) := by decide +kernel
theorem dL_law_128 : decode cL_law 128 = .ok (.irem, 1) := by decide +kernel
theorem dL_law_129 : decode cL_law 129 = .ok (.iadd, 1) := by decide +kernel
theorem dL_law_130 : decode cL_law 130 = .ok (.istore 13, 2) := by decide +kernel
theorem dL_law_132 : decode cL_law 132 = .ok (.iload 7, 2) := by decide +kernel
theorem dL_law_134 : decode cL_law 134 = .ok (.bipush 120, 2) := by decide +kernel
theorem dL_law_136 : decode cL_law 136 = .ok (.idiv, 1) := by decide +kernel
theorem dL_law_137 : decode cL_law 137 = .ok (.bipush 101, 2) := by decide +kernel
theorem dL_law_139 : decode cL_law 139 = .ok (.irem, 1) := by decide +kernel
theorem dL_law_140 : decode cL_law 140 = .ok (.istore 14, 2) := by decide +kernel
theorem dL_law_142 : decode cL_law 142 = .ok (.iload 7, 2) := by decide +kernel
theorem dL_law_144 : decode cL_law 144 = .ok (.bipush 11, 2) := by decide +kernel
theorem dL_law_146 : decode cL_law 146 = .ok (.idiv, 1) := by decide +kernel
theorem dL_law_147 : decode cL_law 147 = .ok (.bipush 70, 2) := by decide +kernel
theorem dL_law_149 : decode cL_law 149 = .ok (.irem, 1) := by decide +kernel
theorem dL_law_150 : decode cL_law 150 = .ok (.istore 15, 2) := by decide +kernel
theorem dL_law_152 : decode cL_law 152 = .ok (.aload_n 1, 1) := by decide +kernel
theorem dL_law_153 : decode cL_law 153 = .ok (.iload 9, 2) := by decide +kernel
theorem dL_law_155 : decode cL_law 155 = .ok (.iload 13, 2) := by decide +kernel
theorem dL_law_157 : decode cL_law 157 = .ok (.iload 14, 2) := by decide +kernel
theorem dL_law_159 : decode cL_law 159 = .ok (.iload 15, 2) := by decide +kernel
theorem dL_law_161 : decode cL_law 161 = .ok (.iconst 1, 1) := by decide +kernel
theorem dL_law_162 : decode cL_law 162 = .ok (.iload 7, 2) := by decide +kernel
theorem dL_law_164 : decode cL_law 164 = .ok (.bipush 7, 2) := by decide +kernel
theorem dL_law_166 : decode cL_law 166 = .ok (.idiv, 1) := by decide +kernel
theorem dL_law_167 : decode cL_law 167 = .ok (.iconst 4, 1) := by decide +kernel
theorem dL_law_168 : decode cL_law 168 = .ok (.irem, 1) := by decide +kernel
theorem dL_law_169 : decode cL_law 169 = .ok (.iadd, 1) := by decide +kernel
theorem dL_law_170 : decode cL_law 170 = .ok (.invokestatic 115, 3) := by decide +kernel
theorem dL_law_173 : decode cL_law 173 = .ok (.iload 12, 2) := by decide +kernel
theorem dL_law_175 : decode cL_law 175 = .ok (.bipush 12, 2) := by decide +kernel
theorem dL_law_177 : decode cL_law 177 = .ok (.if_icmp .ge 8, 3) := by decide +kernel
theorem dL_law_180 : decode cL_law 180 = .ok (.iload 12, 2) := by decide +kernel
theorem dL_law_182 : decode cL_law 182 = .ok (.goto 5, 3) := by decide +kernel
theorem dL_law_185 : decode cL_law 185 = .ok (.bipush (-103), 2) := by decide +kernel
theorem dL_law_187 : decode cL_law 187 = .ok (.if_icmp .ne 7, 3) := by decide +kernel
theorem dL_law_190 : decode cL_law 190 = .ok (.iconst 1, 1) := by decide +kernel
theorem dL_law_191 : decode cL_law 191 = .ok (.goto 4, 3) := by decide +kernel
theorem dL_law_194 : decode cL_law 194 = .ok (.iconst 0, 1) := by decide +kernel
theorem dL_law_195 : decode cL_law 195 = .ok (.istore 4, 2) := by decide +kernel
theorem dL_law_197 : decode cL_law 197 = .ok (.iload 12, 2) := by decide +kernel
theorem dL_law_199 : decode cL_law 199 = .ok (.bipush 12, 2) := by decide +kernel
theorem dL_law_201 : decode cL_law 201 = .ok (.if_icmp .ge 79, 3) := by decide +kernel
theorem dL_law_204 : decode cL_law 204 = .ok (.aload_n 2, 1) := by decide +kernel
theorem dL_law_205 : decode cL_law 205 = .ok (.iload 12, 2) := by decide +kernel
theorem dL_law_207 : decode cL_law 207 = .ok (.iload 13, 2) := by decide +kernel
theorem dL_law_209 : decode cL_law 209 = .ok (.iload 14, 2) := by decide +kernel
theorem dL_law_211 : decode cL_law 211 = .ok (.imul, 1) := by decide +kernel
theorem dL_law_212 : decode cL_law 212 = .ok (.bipush 100, 2) := by decide +kernel
theorem dL_law_214 : decode cL_law 214 = .ok (.idiv, 1) := by decide +kernel
theorem dL_law_215 : decode cL_law 215 = .ok (.iastore, 1) := by decide +kernel
theorem dL_law_216 : decode cL_law 216 = .ok (.aload_n 3, 1) := by decide +kernel
theorem dL_law_217 : decode cL_law 217 = .ok (.iload 12, 2) := by decide +kernel
theorem dL_law_219 : decode cL_law 219 = .ok (.iload 15, 2) := by decide +kernel
theorem dL_law_221 : decode cL_law 221 = .ok (.iastore, 1) := by decide +kernel
theorem dL_law_222 : decode cL_law 222 = .ok (.iload 15, 2) := by decide +kernel
theorem dL_law_224 : decode cL_law 224 = .ok (.ifCond .ne 7, 3) := by decide +kernel
theorem dL_law_227 : decode cL_law 227 = .ok (.iconst 0, 1) := by decide +kernel
theorem dL_law_228 : decode cL_law 228 = .ok (.goto 11, 3) := by decide +kernel
theorem dL_law_231 : decode cL_law 231 = .ok (.aload_n 1, 1) := by decide +kernel
theorem dL_law_232 : decode cL_law 232 = .ok (.iload 15, 2) := by decide +kernel
theorem dL_law_234 : decode cL_law 234 = .ok (.iconst 1, 1) := by decide +kernel
theorem dL_law_235 : decode cL_law 235 = .ok (.isub, 1) := by decide +kernel
theorem dL_law_236 : decode cL_law 236 = .ok (.invokestatic 118, 3) := by decide +kernel
theorem dL_law_239 : decode cL_law 239 = .ok (.istore 16, 2) := by decide +kernel
theorem dL_law_241 : decode cL_law 241 = .ok (.iload 4, 2) := by decide +kernel
theorem dL_law_243 : decode cL_law 243 = .ok (.ifCond .eq 34, 3) := by decide +kernel
theorem dL_law_246 : decode cL_law 246 = .ok (.aload_n 1, 1) := by decide +kernel
theorem dL_law_247 : decode cL_law 247 = .ok (.iload 15, 2) := by decide +kernel
theorem dL_law_249 : decode cL_law 249 = .ok (.invokestatic 118, 3) := by decide +kernel
theorem dL_law_252 : decode cL_law 252 = .ok (.iload 16, 2) := by decide +kernel
theorem dL_law_254 : decode cL_law 254 = .ok (.aload_n 2, 1) := by decide +kernel
theorem dL_law_255 : decode cL_law 255 = .ok (.iload 12, 2) := by decide +kernel
theorem dL_law_257 : decode cL_law 257 = .ok (.iaload, 1) := by decide +kernel
theorem dL_law_258 : decode cL_law 258 = .ok (.iadd, 1) := by decide +kernel
theorem dL_law_259 : decode cL_law 259 = .ok (.if_icmp .lt 18, 3) := by decide +kernel
theorem dL_law_262 : decode cL_law 262 = .ok (.aload_n 1, 1) := by decide +kernel
theorem dL_law_263 : decode cL_law 263 = .ok (.invokevirtual 88, 3) := by decide +kernel
theorem dL_law_266 : decode cL_law 266 = .ok (.iload 12, 2) := by decide +kernel
theorem dL_law_268 : decode cL_law 268 = .ok (.iconst 1, 1) := by decide +kernel
theorem dL_law_269 : decode cL_law 269 = .ok (.iadd, 1) := by decide +kernel
theorem dL_law_270 : decode cL_law 270 = .ok (.if_icmp .ne 7, 3) := by decide +kernel
theorem dL_law_273 : decode cL_law 273 = .ok (.iconst 1, 1) := by decide +kernel
theorem dL_law_274 : decode cL_law 274 = .ok (.goto 4, 3) := by decide +kernel
theorem dL_law_277 : decode cL_law 277 = .ok (.iconst 0, 1) := by decide +kernel
theorem dL_law_278 : decode cL_law 278 = .ok (.istore 4, 2) := by decide +kernel
theorem dL_law_280 : decode cL_law 280 = .ok (.goto 690, 3) := by decide +kernel
theorem dL_law_283 : decode cL_law 283 = .ok (.iload 8, 2) := by decide +kernel
theorem dL_law_285 : decode cL_law 285 = .ok (.bipush 7, 2) := by decide +kernel
theorem dL_law_287 : decode cL_law 287 = .ok (.if_icmp .ne 68, 3) := by decide +kernel
theorem dL_law_290 : decode cL_law 290 = .ok (.iload 7, 2) := by decide +kernel
theorem dL_law_292 : decode cL_law 292 = .ok (.bipush 120, 2) := by decide +kernel
theorem dL_law_294 : decode cL_law 294 = .ok (.irem, 1) := by decide +kernel
theorem dL_law_295 : decode cL_law 295 = .ok (.istore 13, 2) := by decide +kernel
theorem dL_law_297 : decode cL_law 297 = .ok (.aload_n 1, 1) := by decide +kernel
theorem dL_law_298 : decode cL_law 298 = .ok (.iload 13, 2) := by decide +kernel
theorem dL_law_300 : decode cL_law 300 = .ok (.iload 13, 2) := by decide +kernel
theorem dL_law_302 : decode cL_law 302 = .ok (.iconst 1, 1) := by decide +kernel
theorem dL_law_303 : decode cL_law 303 = .ok (.iadd, 1) := by decide +kernel
theorem dL_law_304 : decode cL_law 304 = .ok (.iload 7, 2) := by decide +kernel
theorem dL_law_306 : decode cL_law 306 = .ok (.bipush 120, 2) := by decide +kernel
theorem dL_law_308 : decode cL_law 308 = .ok (.idiv, 1) := by decide +kernel
theorem dL_law_309 : decode cL_law 309 = .ok (.sipush 300, 3) := by decide +kernel
theorem dL_law_312 : decode cL_law 312 = .ok (.irem, 1) := by decide +kernel
theorem dL_law_313 : decode cL_law 313 = .ok (.iadd, 1) := by decide +kernel
theorem dL_law_314 : decode cL_law 314 = .ok (.iconst 1, 1) := by decide +kernel
theorem dL_law_315 : decode cL_law 315 = .ok (.iload 7, 2) := by decide +kernel
theorem dL_law_317 : decode cL_law 317 = .ok (.ldc 120, 2) := by decide +kernel
theorem dL_law_319 : decode cL_law 319 = .ok (.idiv, 1) := by decide +kernel
theorem dL_law_320 : decode cL_law 320 = .ok (.bipush 99, 2) := by decide +kernel
theorem dL_law_322 : decode cL_law 322 = .ok (.irem, 1) := by decide +kernel
theorem dL_law_323 : decode cL_law 323 = .ok (.iadd, 1) := by decide +kernel
theorem dL_law_324 : decode cL_law 324 = .ok (.invokestatic 121, 3) := by decide +kernel
theorem dL_law_327 : decode cL_law 327 = .ok (.ifCond .ne 22, 3) := by decide +kernel
theorem dL_law_330 : decode cL_law 330 = .ok (.aload_n 1, 1) := by decide +kernel
theorem dL_law_331 : decode cL_law 331 = .ok (.iconst 1, 1) := by decide +kernel
theorem dL_law_332 : decode cL_law 332 = .ok (.iload 7, 2) := by decide +kernel
theorem dL_law_334 : decode cL_law 334 = .ok (.sipush 500, 3) := by decide +kernel
theorem dL_law_337 : decode cL_law 337 = .ok (.irem, 1) := by decide +kernel
theorem dL_law_338 : decode cL_law 338 = .ok (.iadd, 1) := by decide +kernel
theorem dL_law_339 : decode cL_law 339 = .ok (.invokestatic 125, 3) := by decide +kernel
theorem dL_law_342 : decode cL_law 342 = .ok (.ifCond .eq 7, 3) := by decide +kernel
theorem dL_law_345 : decode cL_law 345 = .ok (.iconst 1, 1) := by decide +kernel
theorem dL_law_346 : decode cL_law 346 = .ok (.goto 4, 3) := by decide +kernel
theorem dL_law_349 : decode cL_law 349 = .ok (.iconst 0, 1) := by decide +kernel
theorem dL_law_350 : decode cL_law 350 = .ok (.istore 4, 2) := by decide +kernel
theorem dL_law_352 : decode cL_law 352 = .ok (.goto 618, 3) := by decide +kernel
theorem dL_law_355 : decode cL_law 355 = .ok (.iload 8, 2) := by decide +kernel
theorem dL_law_357 : decode cL_law 357 = .ok (.bipush 10, 2) := by decide +kernel
theorem dL_law_359 : decode cL_law 359 = .ok (.if_icmp .ge 241, 3) := by decide +kernel
theorem dL_law_362 : decode cL_law 362 = .ok (.aload_n 1, 1) := by decide +kernel
theorem dL_law_363 : decode cL_law 363 = .ok (.iload 10, 2) := by decide +kernel
theorem dL_law_365 : decode cL_law 365 = .ok (.aload_n 2, 1) := by decide +kernel
theorem dL_law_366 : decode cL_law 366 = .ok (.aload_n 3, 1) := by decide +kernel
theorem dL_law_367 : decode cL_law 367 = .ok (.invokestatic 129, 3) := by decide +kernel
theorem dL_law_370 : decode cL_law 370 = .ok (.istore 4, 2) := by decide +kernel
theorem dL_law_372 : decode cL_law 372 = .ok (.aload_n 1, 1) := by decide +kernel
theorem dL_law_373 : decode cL_law 373 = .ok (.iload 10, 2) := by decide +kernel
theorem dL_law_375 : decode cL_law 375 = .ok (.invokestatic 97, 3) := by decide +kernel
theorem dL_law_378 : decode cL_law 378 = .ok (.istore 13, 2) := by decide +kernel
theorem dL_law_380 : decode cL_law 380 = .ok (.aload_n 1, 1) := by decide +kernel
theorem dL_law_381 : decode cL_law 381 = .ok (.iload 10, 2) := by decide +kernel
theorem dL_law_383 : decode cL_law 383 = .ok (.invokestatic 92, 3) := by decide +kernel
theorem dL_law_386 : decode cL_law 386 = .ok (.istore 14, 2) := by decide +kernel
theorem dL_law_388 : decode cL_law 388 = .ok (.iconst 0, 1) := by decide +kernel
theorem dL_law_389 : decode cL_law 389 = .ok (.istore 15, 2) := by decide +kernel
theorem dL_law_391 : decode cL_law 391 = .ok (.iconst 0, 1) := by decide +kernel
theorem dL_law_392 : decode cL_law 392 = .ok (.istore 16, 2) := by decide +kernel
theorem dL_law_394 : decode cL_law 394 = .ok (.iconst 0, 1) := by decide +kernel
theorem dL_law_395 : decode cL_law 395 = .ok (.istore 17, 2) := by decide +kernel
theorem dL_law_397 : decode cL_law 397 = .ok (.iload 17, 2) := by decide +kernel
theorem dL_law_399 : decode cL_law 399 = .ok (.iload 12, 2) := by decide +kernel
end
section
theorem dL_law_401 : decode cL_law 401 = .ok (.if_icmp .ge 61, 3) := by decide +kernel
theorem dL_law_404 : decode cL_law 404 = .ok (.aload_n 1, 1) := by decide +kernel
theorem dL_law_405 : decode cL_law 405 = .ok (.iload 17, 2) := by decide +kernel
theorem dL_law_407 : decode cL_law 407 = .ok (.iload 10, 2) := by decide +kernel
theorem dL_law_409 : decode cL_law 409 = .ok (.invokestatic 99, 3) := by decide +kernel
theorem dL_law_412 : decode cL_law 412 = .ok (.iconst 1, 1) := by decide +kernel
theorem dL_law_413 : decode cL_law 413 = .ok (.if_icmp .ne 7, 3) := by decide +kernel
theorem dL_law_416 : decode cL_law 416 = .ok (.iconst 1, 1) := by decide +kernel
theorem dL_law_417 : decode cL_law 417 = .ok (.goto 4, 3) := by decide +kernel
theorem dL_law_420 : decode cL_law 420 = .ok (.iconst 0, 1) := by decide +kernel
theorem dL_law_421 : decode cL_law 421 = .ok (.istore 18, 2) := by decide +kernel
theorem dL_law_423 : decode cL_law 423 = .ok (.iload 15, 2) := by decide +kernel
theorem dL_law_425 : decode cL_law 425 = .ok (.iload 18, 2) := by decide +kernel
theorem dL_law_427 : decode cL_law 427 = .ok (.ifCond .eq 10, 3) := by decide +kernel
theorem dL_law_430 : decode cL_law 430 = .ok (.aload_n 2, 1) := by decide +kernel
theorem dL_law_431 : decode cL_law 431 = .ok (.iload 17, 2) := by decide +kernel
theorem dL_law_433 : decode cL_law 433 = .ok (.iaload, 1) := by decide +kernel
theorem dL_law_434 : decode cL_law 434 = .ok (.goto 4, 3) := by decide +kernel
theorem dL_law_437 : decode cL_law 437 = .ok (.iconst 0, 1) := by decide +kernel
theorem dL_law_438 : decode cL_law 438 = .ok (.iadd, 1) := by decide +kernel
theorem dL_law_439 : decode cL_law 439 = .ok (.istore 15, 2) := by decide +kernel
theorem dL_law_441 : decode cL_law 441 = .ok (.iload 16, 2) := by decide +kernel
theorem dL_law_443 : decode cL_law 443 = .ok (.iload 18, 2) := by decide +kernel
theorem dL_law_445 : decode cL_law 445 = .ok (.ifCond .eq 7, 3) := by decide +kernel
theorem dL_law_448 : decode cL_law 448 = .ok (.iconst 1, 1) := by decide +kernel
theorem dL_law_449 : decode cL_law 449 = .ok (.goto 4, 3) := by decide +kernel
theorem dL_law_452 : decode cL_law 452 = .ok (.iconst 0, 1) := by decide +kernel
theorem dL_law_453 : decode cL_law 453 = .ok (.iadd, 1) := by decide +kernel
theorem dL_law_454 : decode cL_law 454 = .ok (.istore 16, 2) := by decide +kernel
theorem dL_law_456 : decode cL_law 456 = .ok (.iinc 17 1, 3) := by decide +kernel
theorem dL_law_459 : decode cL_law 459 = .ok (.goto (-62), 3) := by decide +kernel
theorem dL_law_462 : decode cL_law 462 = .ok (.iload 14, 2) := by decide +kernel
theorem dL_law_464 : decode cL_law 464 = .ok (.ineg, 1) := by decide +kernel
theorem dL_law_465 : decode cL_law 465 = .ok (.iload 15, 2) := by decide +kernel
theorem dL_law_467 : decode cL_law 467 = .ok (.imul, 1) := by decide +kernel
theorem dL_law_468 : decode cL_law 468 = .ok (.istore 17, 2) := by decide +kernel
theorem dL_law_470 : decode cL_law 470 = .ok (.iconst 0, 1) := by decide +kernel
theorem dL_law_471 : decode cL_law 471 = .ok (.istore 18, 2) := by decide +kernel
theorem dL_law_473 : decode cL_law 473 = .ok (.iload 18, 2) := by decide +kernel
theorem dL_law_475 : decode cL_law 475 = .ok (.iconst 5, 1) := by decide +kernel
theorem dL_law_476 : decode cL_law 476 = .ok (.if_icmp .ge 22, 3) := by decide +kernel
theorem dL_law_479 : decode cL_law 479 = .ok (.iload 17, 2) := by decide +kernel
theorem dL_law_481 : decode cL_law 481 = .ok (.aload_n 1, 1) := by decide +kernel
theorem dL_law_482 : decode cL_law 482 = .ok (.iload 18, 2) := by decide +kernel
theorem dL_law_484 : decode cL_law 484 = .ok (.iload 10, 2) := by decide +kernel
theorem dL_law_486 : decode cL_law 486 = .ok (.invokestatic 133, 3) := by decide +kernel
theorem dL_law_489 : decode cL_law 489 = .ok (.isub, 1) := by decide +kernel
theorem dL_law_490 : decode cL_law 490 = .ok (.istore 17, 2) := by decide +kernel
theorem dL_law_492 : decode cL_law 492 = .ok (.iinc 18 1, 3) := by decide +kernel
theorem dL_law_495 : decode cL_law 495 = .ok (.goto (-22), 3) := by decide +kernel
theorem dL_law_498 : decode cL_law 498 = .ok (.iload 4, 2) := by decide +kernel
theorem dL_law_500 : decode cL_law 500 = .ok (.ifCond .eq 49, 3) := by decide +kernel
theorem dL_law_503 : decode cL_law 503 = .ok (.aload_n 1, 1) := by decide +kernel
theorem dL_law_504 : decode cL_law 504 = .ok (.iload 10, 2) := by decide +kernel
theorem dL_law_506 : decode cL_law 506 = .ok (.invokestatic 135, 3) := by decide +kernel
theorem dL_law_509 : decode cL_law 509 = .ok (.iload 12, 2) := by decide +kernel
theorem dL_law_511 : decode cL_law 511 = .ok (.ifCond .ne 8, 3) := by decide +kernel
theorem dL_law_514 : decode cL_law 514 = .ok (.bipush (-103), 2) := by decide +kernel
theorem dL_law_516 : decode cL_law 516 = .ok (.goto 5, 3) := by decide +kernel
theorem dL_law_519 : decode cL_law 519 = .ok (.iload 16, 2) := by decide +kernel
theorem dL_law_521 : decode cL_law 521 = .ok (.if_icmp .ne 28, 3) := by decide +kernel
theorem dL_law_524 : decode cL_law 524 = .ok (.aload_n 1, 1) := by decide +kernel
theorem dL_law_525 : decode cL_law 525 = .ok (.iload 10, 2) := by decide +kernel
theorem dL_law_527 : decode cL_law 527 = .ok (.invokestatic 97, 3) := by decide +kernel
theorem dL_law_530 : decode cL_law 530 = .ok (.iload 13, 2) := by decide +kernel
theorem dL_law_532 : decode cL_law 532 = .ok (.iload 15, 2) := by decide +kernel
theorem dL_law_534 : decode cL_law 534 = .ok (.iadd, 1) := by decide +kernel
theorem dL_law_535 : decode cL_law 535 = .ok (.if_icmp .ne 14, 3) := by decide +kernel
theorem dL_law_538 : decode cL_law 538 = .ok (.aload_n 1, 1) := by decide +kernel
theorem dL_law_539 : decode cL_law 539 = .ok (.invokevirtual 88, 3) := by decide +kernel
theorem dL_law_542 : decode cL_law 542 = .ok (.ifCond .ne 7, 3) := by decide +kernel
theorem dL_law_545 : decode cL_law 545 = .ok (.iconst 1, 1) := by decide +kernel
theorem dL_law_546 : decode cL_law 546 = .ok (.goto 4, 3) := by decide +kernel
theorem dL_law_549 : decode cL_law 549 = .ok (.iconst 0, 1) := by decide +kernel
theorem dL_law_550 : decode cL_law 550 = .ok (.istore 4, 2) := by decide +kernel
theorem dL_law_552 : decode cL_law 552 = .ok (.iconst 0, 1) := by decide +kernel
theorem dL_law_553 : decode cL_law 553 = .ok (.istore 18, 2) := by decide +kernel
theorem dL_law_555 : decode cL_law 555 = .ok (.iload 18, 2) := by decide +kernel
theorem dL_law_557 : decode cL_law 557 = .ok (.iconst 5, 1) := by decide +kernel
theorem dL_law_558 : decode cL_law 558 = .ok (.if_icmp .ge 22, 3) := by decide +kernel
theorem dL_law_561 : decode cL_law 561 = .ok (.iload 17, 2) := by decide +kernel
theorem dL_law_563 : decode cL_law 563 = .ok (.aload_n 1, 1) := by decide +kernel
theorem dL_law_564 : decode cL_law 564 = .ok (.iload 18, 2) := by decide +kernel
theorem dL_law_566 : decode cL_law 566 = .ok (.iload 10, 2) := by decide +kernel
theorem dL_law_568 : decode cL_law 568 = .ok (.invokestatic 133, 3) := by decide +kernel
theorem dL_law_571 : decode cL_law 571 = .ok (.iadd, 1) := by decide +kernel
theorem dL_law_572 : decode cL_law 572 = .ok (.istore 17, 2) := by decide +kernel
theorem dL_law_574 : decode cL_law 574 = .ok (.iinc 18 1, 3) := by decide +kernel
theorem dL_law_577 : decode cL_law 577 = .ok (.goto (-22), 3) := by decide +kernel
theorem dL_law_580 : decode cL_law 580 = .ok (.iload 4, 2) := by decide +kernel
theorem dL_law_582 : decode cL_law 582 = .ok (.ifCond .eq 12, 3) := by decide +kernel
theorem dL_law_585 : decode cL_law 585 = .ok (.iload 17, 2) := by decide +kernel
theorem dL_law_587 : decode cL_law 587 = .ok (.ifCond .ne 7, 3) := by decide +kernel
theorem dL_law_590 : decode cL_law 590 = .ok (.iconst 1, 1) := by decide +kernel
theorem dL_law_591 : decode cL_law 591 = .ok (.goto 4, 3) := by decide +kernel
theorem dL_law_594 : decode cL_law 594 = .ok (.iconst 0, 1) := by decide +kernel
theorem dL_law_595 : decode cL_law 595 = .ok (.istore 4, 2) := by decide +kernel
theorem dL_law_597 : decode cL_law 597 = .ok (.goto 373, 3) := by decide +kernel
theorem dL_law_600 : decode cL_law 600 = .ok (.iload 8, 2) := by decide +kernel
theorem dL_law_602 : decode cL_law 602 = .ok (.bipush 12, 2) := by decide +kernel
theorem dL_law_604 : decode cL_law 604 = .ok (.if_icmp .ge 188, 3) := by decide +kernel
theorem dL_law_607 : decode cL_law 607 = .ok (.iload 7, 2) := by decide +kernel
theorem dL_law_609 : decode cL_law 609 = .ok (.sipush 480, 3) := by decide +kernel
theorem dL_law_612 : decode cL_law 612 = .ok (.idiv, 1) := by decide +kernel
theorem dL_law_613 : decode cL_law 613 = .ok (.iconst 5, 1) := by decide +kernel
theorem dL_law_614 : decode cL_law 614 = .ok (.irem, 1) := by decide +kernel
theorem dL_law_615 : decode cL_law 615 = .ok (.istore 13, 2) := by decide +kernel
theorem dL_law_617 : decode cL_law 617 = .ok (.iload 11, 2) := by decide +kernel
theorem dL_law_619 : decode cL_law 619 = .ok (.iload 7, 2) := by decide +kernel
theorem dL_law_621 : decode cL_law 621 = .ok (.sipush 2400, 3) := by decide +kernel
theorem dL_law_624 : decode cL_law 624 = .ok (.idiv, 1) := by decide +kernel
theorem dL_law_625 : decode cL_law 625 = .ok (.bipush 12, 2) := by decide +kernel
theorem dL_law_627 : decode cL_law 627 = .ok (.iload 11, 2) := by decide +kernel
theorem dL_law_629 : decode cL_law 629 = .ok (.isub, 1) := by decide +kernel
theorem dL_law_630 : decode cL_law 630 = .ok (.irem, 1) := by decide +kernel
theorem dL_law_631 : decode cL_law 631 = .ok (.iadd, 1) := by decide +kernel
theorem dL_law_632 : decode cL_law 632 = .ok (.istore 14, 2) := by decide +kernel
theorem dL_law_634 : decode cL_law 634 = .ok (.aload_n 1, 1) := by decide +kernel
theorem dL_law_635 : decode cL_law 635 = .ok (.iload 9, 2) := by decide +kernel
theorem dL_law_637 : decode cL_law 637 = .ok (.iload 10, 2) := by decide +kernel
theorem dL_law_639 : decode cL_law 639 = .ok (.iload 11, 2) := by decide +kernel
theorem dL_law_641 : decode cL_law 641 = .ok (.invokestatic 137, 3) := by decide +kernel
theorem dL_law_644 : decode cL_law 644 = .ok (.istore 15, 2) := by decide +kernel
theorem dL_law_646 : decode cL_law 646 = .ok (.aload_n 1, 1) := by decide +kernel
theorem dL_law_647 : decode cL_law 647 = .ok (.invokevirtual 104, 3) := by decide +kernel
theorem dL_law_650 : decode cL_law 650 = .ok (.istore 16, 2) := by decide +kernel
theorem dL_law_652 : decode cL_law 652 = .ok (.aload_n 1, 1) := by decide +kernel
theorem dL_law_653 : decode cL_law 653 = .ok (.iload 9, 2) := by decide +kernel
theorem dL_law_655 : decode cL_law 655 = .ok (.iload 13, 2) := by decide +kernel
theorem dL_law_657 : decode cL_law 657 = .ok (.iload 10, 2) := by decide +kernel
theorem dL_law_659 : decode cL_law 659 = .ok (.iload 11, 2) := by decide +kernel
theorem dL_law_661 : decode cL_law 661 = .ok (.iload 14, 2) := by decide +kernel
theorem dL_law_663 : decode cL_law 663 = .ok (.iconst 1, 1) := by decide +kernel
theorem dL_law_664 : decode cL_law 664 = .ok (.iload 7, 2) := by decide +kernel
theorem dL_law_666 : decode cL_law 666 = .ok (.bipush 77, 2) := by decide +kernel
theorem dL_law_668 : decode cL_law 668 = .ok (.idiv, 1) := by decide +kernel
theorem dL_law_669 : decode cL_law 669 = .ok (.bipush 30, 2) := by decide +kernel
theorem dL_law_671 : decode cL_law 671 = .ok (.irem, 1) := by decide +kernel
theorem dL_law_672 : decode cL_law 672 = .ok (.iadd, 1) := by decide +kernel
theorem dL_law_673 : decode cL_law 673 = .ok (.invokestatic 140, 3) := by decide +kernel
theorem dL_law_676 : decode cL_law 676 = .ok (.istore 17, 2) := by decide +kernel
theorem dL_law_678 : decode cL_law 678 = .ok (.iload 17, 2) := by decide +kernel
theorem dL_law_680 : decode cL_law 680 = .ok (.ifCond .lt 66, 3) := by decide +kernel
theorem dL_law_683 : decode cL_law 683 = .ok (.aload_n 1, 1) := by decide +kernel
theorem dL_law_684 : decode cL_law 684 = .ok (.invokevirtual 104, 3) := by decide +kernel
theorem dL_law_687 : decode cL_law 687 = .ok (.iload 16, 2) := by decide +kernel
theorem dL_law_689 : decode cL_law 689 = .ok (.iconst 1, 1) := by decide +kernel
theorem dL_law_690 : decode cL_law 690 = .ok (.iadd, 1) := by decide +kernel
theorem dL_law_691 : decode cL_law 691 = .ok (.if_icmp .ne 51, 3) := by decide +kernel
theorem dL_law_694 : decode cL_law 694 = .ok (.iload 17, 2) := by decide +kernel
theorem dL_law_696 : decode cL_law 696 = .ok (.iload 15, 2) := by decide +kernel
theorem dL_law_698 : decode cL_law 698 = .ok (.iconst 1, 1) := by decide +kernel
theorem dL_law_699 : decode cL_law 699 = .ok (.isub, 1) := by decide +kernel
theorem dL_law_700 : decode cL_law 700 = .ok (.iload 7, 2) := by decide +kernel
theorem dL_law_702 : decode cL_law 702 = .ok (.bipush 77, 2) := by decide +kernel
theorem dL_law_704 : decode cL_law 704 = .ok (.idiv, 1) := by decide +kernel
theorem dL_law_705 : decode cL_law 705 = .ok (.bipush 30, 2) := by decide +kernel
theorem dL_law_707 : decode cL_law 707 = .ok (.irem, 1) := by decide +kernel
theorem dL_law_708 : decode cL_law 708 = .ok (.isub, 1) := by decide +kernel
theorem dL_law_709 : decode cL_law 709 = .ok (.if_icmp .gt 33, 3) := by decide +kernel
theorem dL_law_712 : decode cL_law 712 = .ok (.aload_n 1, 1) := by decide +kernel
theorem dL_law_713 : decode cL_law 713 = .ok (.iload 9, 2) := by decide +kernel
theorem dL_law_715 : decode cL_law 715 = .ok (.iload 10, 2) := by decide +kernel
theorem dL_law_717 : decode cL_law 717 = .ok (.iload 11, 2) := by decide +kernel
theorem dL_law_719 : decode cL_law 719 = .ok (.invokestatic 137, 3) := by decide +kernel
theorem dL_law_722 : decode cL_law 722 = .ok (.iload 15, 2) := by decide +kernel
theorem dL_law_724 : decode cL_law 724 = .ok (.iconst 1, 1) := by decide +kernel
theorem dL_law_725 : decode cL_law 725 = .ok (.isub, 1) := by decide +kernel
theorem dL_law_726 : decode cL_law 726 = .ok (.iload 7, 2) := by decide +kernel
theorem dL_law_728 : decode cL_law 728 = .ok (.bipush 77, 2) := by decide +kernel
theorem dL_law_730 : decode cL_law 730 = .ok (.idiv, 1) := by decide +kernel
theorem dL_law_731 : decode cL_law 731 = .ok (.bipush 30, 2) := by decide +kernel
theorem dL_law_733 : decode cL_law 733 = .ok (.irem, 1) := by decide +kernel
theorem dL_law_734 : decode cL_law 734 = .ok (.isub, 1) := by decide +kernel
theorem dL_law_735 : decode cL_law 735 = .ok (.if_icmp .ne 7, 3) := by decide +kernel
theorem dL_law_738 : decode cL_law 738 = .ok (.iconst 1, 1) := by decide +kernel
theorem dL_law_739 : decode cL_law 739 = .ok (.goto 48, 3) := by decide +kernel
theorem dL_law_742 : decode cL_law 742 = .ok (.iconst 0, 1) := by decide +kernel
theorem dL_law_743 : decode cL_law 743 = .ok (.goto 44, 3) := by decide +kernel
theorem dL_law_746 : decode cL_law 746 = .ok (.iload 17, 2) := by decide +kernel
theorem dL_law_748 : decode cL_law 748 = .ok (.bipush (-102), 2) := by decide +kernel
theorem dL_law_750 : decode cL_law 750 = .ok (.if_icmp .ne 7, 3) := by decide +kernel
theorem dL_law_753 : decode cL_law 753 = .ok (.iconst 1, 1) := by decide +kernel
theorem dL_law_754 : decode cL_law 754 = .ok (.goto 4, 3) := by decide +kernel
theorem dL_law_757 : decode cL_law 757 = .ok (.iconst 0, 1) := by decide +kernel
theorem dL_law_758 : decode cL_law 758 = .ok (.iload 9, 2) := by decide +kernel
theorem dL_law_760 : decode cL_law 760 = .ok (.iload 13, 2) := by decide +kernel
theorem dL_law_762 : decode cL_law 762 = .ok (.if_icmp .ne 7, 3) := by decide +kernel
theorem dL_law_765 : decode cL_law 765 = .ok (.iconst 1, 1) := by decide +kernel
theorem dL_law_766 : decode cL_law 766 = .ok (.goto 4, 3) := by decide +kernel
theorem dL_law_769 : decode cL_law 769 = .ok (.iconst 0, 1) := by decide +kernel
theorem dL_law_770 : decode cL_law 770 = .ok (.if_icmp .ne 16, 3) := by decide +kernel
theorem dL_law_773 : decode cL_law 773 = .ok (.aload_n 1, 1) := by decide +kernel
theorem dL_law_774 : decode cL_law 774 = .ok (.invokevirtual 104, 3) := by decide +kernel
theorem dL_law_777 : decode cL_law 777 = .ok (.iload 16, 2) := by decide +kernel
theorem dL_law_779 : decode cL_law 779 = .ok (.if_icmp .ne 7, 3) := by decide +kernel
theorem dL_law_782 : decode cL_law 782 = .ok (.iconst 1, 1) := by decide +kernel
theorem dL_law_783 : decode cL_law 783 = .ok (.goto 4, 3) := by decide +kernel
theorem dL_law_786 : decode cL_law 786 = .ok (.iconst 0, 1) := by decide +kernel
theorem dL_law_787 : decode cL_law 787 = .ok (.istore 4, 2) := by decide +kernel
theorem dL_law_789 : decode cL_law 789 = .ok (.goto 181, 3) := by decide +kernel
theorem dL_law_792 : decode cL_law 792 = .ok (.iload 8, 2) := by decide +kernel
theorem dL_law_794 : decode cL_law 794 = .ok (.bipush 12, 2) := by decide +kernel
theorem dL_law_796 : decode cL_law 796 = .ok (.if_icmp .ne 52, 3) := by decide +kernel
theorem dL_law_799 : decode cL_law 799 = .ok (.aload_n 1, 1) := by decide +kernel
theorem dL_law_800 : decode cL_law 800 = .ok (.iload 10, 2) := by decide +kernel
theorem dL_law_802 : decode cL_law 802 = .ok (.iload 11, 2) := by decide +kernel
theorem dL_law_804 : decode cL_law 804 = .ok (.invokestatic 143, 3) := by decide +kernel
theorem dL_law_807 : decode cL_law 807 = .ok (.aload_n 1, 1) := by decide +kernel
theorem dL_law_808 : decode cL_law 808 = .ok (.iload 10, 2) := by decide +kernel
theorem dL_law_810 : decode cL_law 810 = .ok (.iload 11, 2) := by decide +kernel
theorem dL_law_812 : decode cL_law 812 = .ok (.invokestatic 143, 3) := by decide +kernel
theorem dL_law_815 : decode cL_law 815 = .ok (.iadd, 1) := by decide +kernel
theorem dL_law_816 : decode cL_law 816 = .ok (.iconst 1, 1) := by decide +kernel
theorem dL_law_817 : decode cL_law 817 = .ok (.if_icmp .ne 25, 3) := by decide +kernel
theorem dL_law_820 : decode cL_law 820 = .ok (.iload 7, 2) := by decide +kernel
theorem dL_law_822 : decode cL_law 822 = .ok (.iconst 2, 1) := by decide +kernel
theorem dL_law_823 : decode cL_law 823 = .ok (.irem, 1) := by decide +kernel
theorem dL_law_824 : decode cL_law 824 = .ok (.ifCond .eq 14, 3) := by decide +kernel
theorem dL_law_827 : decode cL_law 827 = .ok (.aload_n 1, 1) := by decide +kernel
end
section
theorem dL_law_828 : decode cL_law 828 = .ok (.iload 10, 2) := by decide +kernel
theorem dL_law_830 : decode cL_law 830 = .ok (.iload 11, 2) := by decide +kernel
theorem dL_law_832 : decode cL_law 832 = .ok (.invokestatic 143, 3) := by decide +kernel
theorem dL_law_835 : decode cL_law 835 = .ok (.ifCond .lt 7, 3) := by decide +kernel
theorem dL_law_838 : decode cL_law 838 = .ok (.iconst 1, 1) := by decide +kernel
theorem dL_law_839 : decode cL_law 839 = .ok (.goto 4, 3) := by decide +kernel
theorem dL_law_842 : decode cL_law 842 = .ok (.iconst 0, 1) := by decide +kernel
theorem dL_law_843 : decode cL_law 843 = .ok (.istore 4, 2) := by decide +kernel
theorem dL_law_845 : decode cL_law 845 = .ok (.goto 125, 3) := by decide +kernel
theorem dL_law_848 : decode cL_law 848 = .ok (.iload 8, 2) := by decide +kernel
theorem dL_law_850 : decode cL_law 850 = .ok (.bipush 15, 2) := by decide +kernel
theorem dL_law_852 : decode cL_law 852 = .ok (.if_icmp .ge 88, 3) := by decide +kernel
theorem dL_law_855 : decode cL_law 855 = .ok (.aload_n 1, 1) := by decide +kernel
theorem dL_law_856 : decode cL_law 856 = .ok (.iload 9, 2) := by decide +kernel
theorem dL_law_858 : decode cL_law 858 = .ok (.iload 10, 2) := by decide +kernel
theorem dL_law_860 : decode cL_law 860 = .ok (.invokestatic 145, 3) := by decide +kernel
theorem dL_law_863 : decode cL_law 863 = .ok (.istore 13, 2) := by decide +kernel
theorem dL_law_865 : decode cL_law 865 = .ok (.aload_n 1, 1) := by decide +kernel
theorem dL_law_866 : decode cL_law 866 = .ok (.iload 9, 2) := by decide +kernel
theorem dL_law_868 : decode cL_law 868 = .ok (.iload 10, 2) := by decide +kernel
theorem dL_law_870 : decode cL_law 870 = .ok (.iload 11, 2) := by decide +kernel
theorem dL_law_872 : decode cL_law 872 = .ok (.iload 7, 2) := by decide +kernel
theorem dL_law_874 : decode cL_law 874 = .ok (.sipush 480, 3) := by decide +kernel
theorem dL_law_877 : decode cL_law 877 = .ok (.idiv, 1) := by decide +kernel
theorem dL_law_878 : decode cL_law 878 = .ok (.sipush 200, 3) := by decide +kernel
theorem dL_law_881 : decode cL_law 881 = .ok (.irem, 1) := by decide +kernel
theorem dL_law_882 : decode cL_law 882 = .ok (.invokestatic 147, 3) := by decide +kernel
theorem dL_law_885 : decode cL_law 885 = .ok (.istore 14, 2) := by decide +kernel
theorem dL_law_887 : decode cL_law 887 = .ok (.aload_n 1, 1) := by decide +kernel
theorem dL_law_888 : decode cL_law 888 = .ok (.iload 9, 2) := by decide +kernel
theorem dL_law_890 : decode cL_law 890 = .ok (.iload 10, 2) := by decide +kernel
theorem dL_law_892 : decode cL_law 892 = .ok (.invokestatic 145, 3) := by decide +kernel
theorem dL_law_895 : decode cL_law 895 = .ok (.istore 15, 2) := by decide +kernel
theorem dL_law_897 : decode cL_law 897 = .ok (.iload 14, 2) := by decide +kernel
theorem dL_law_899 : decode cL_law 899 = .ok (.ifCond .lt 35, 3) := by decide +kernel
theorem dL_law_902 : decode cL_law 902 = .ok (.iload 15, 2) := by decide +kernel
theorem dL_law_904 : decode cL_law 904 = .ok (.iload 13, 2) := by decide +kernel
theorem dL_law_906 : decode cL_law 906 = .ok (.if_icmp .eq 24, 3) := by decide +kernel
theorem dL_law_909 : decode cL_law 909 = .ok (.iload 15, 2) := by decide +kernel
theorem dL_law_911 : decode cL_law 911 = .ok (.iload 13, 2) := by decide +kernel
theorem dL_law_913 : decode cL_law 913 = .ok (.iload 14, 2) := by decide +kernel
theorem dL_law_915 : decode cL_law 915 = .ok (.iadd, 1) := by decide +kernel
theorem dL_law_916 : decode cL_law 916 = .ok (.iload 7, 2) := by decide +kernel
theorem dL_law_918 : decode cL_law 918 = .ok (.sipush 480, 3) := by decide +kernel
theorem dL_law_921 : decode cL_law 921 = .ok (.idiv, 1) := by decide +kernel
theorem dL_law_922 : decode cL_law 922 = .ok (.sipush 200, 3) := by decide +kernel
theorem dL_law_925 : decode cL_law 925 = .ok (.irem, 1) := by decide +kernel
theorem dL_law_926 : decode cL_law 926 = .ok (.isub, 1) := by decide +kernel
theorem dL_law_927 : decode cL_law 927 = .ok (.if_icmp .ne 7, 3) := by decide +kernel
theorem dL_law_930 : decode cL_law 930 = .ok (.iconst 1, 1) := by decide +kernel
theorem dL_law_931 : decode cL_law 931 = .ok (.goto 4, 3) := by decide +kernel
theorem dL_law_934 : decode cL_law 934 = .ok (.iconst 0, 1) := by decide +kernel
theorem dL_law_935 : decode cL_law 935 = .ok (.istore 4, 2) := by decide +kernel
theorem dL_law_937 : decode cL_law 937 = .ok (.goto 33, 3) := by decide +kernel
theorem dL_law_940 : decode cL_law 940 = .ok (.aload_n 1, 1) := by decide +kernel
theorem dL_law_941 : decode cL_law 941 = .ok (.iload 7, 2) := by decide +kernel
theorem dL_law_943 : decode cL_law 943 = .ok (.sipush 1001, 3) := by decide +kernel
theorem dL_law_946 : decode cL_law 946 = .ok (.irem, 1) := by decide +kernel
theorem dL_law_947 : decode cL_law 947 = .ok (.iload 7, 2) := by decide +kernel
theorem dL_law_949 : decode cL_law 949 = .ok (.sipush 1001, 3) := by decide +kernel
theorem dL_law_952 : decode cL_law 952 = .ok (.idiv, 1) := by decide +kernel
theorem dL_law_953 : decode cL_law 953 = .ok (.sipush 201, 3) := by decide +kernel
theorem dL_law_956 : decode cL_law 956 = .ok (.irem, 1) := by decide +kernel
theorem dL_law_957 : decode cL_law 957 = .ok (.invokestatic 150, 3) := by decide +kernel
theorem dL_law_960 : decode cL_law 960 = .ok (.ifCond .ne 7, 3) := by decide +kernel
theorem dL_law_963 : decode cL_law 963 = .ok (.iconst 1, 1) := by decide +kernel
theorem dL_law_964 : decode cL_law 964 = .ok (.goto 4, 3) := by decide +kernel
theorem dL_law_967 : decode cL_law 967 = .ok (.iconst 0, 1) := by decide +kernel
theorem dL_law_968 : decode cL_law 968 = .ok (.istore 4, 2) := by decide +kernel
theorem dL_law_970 : decode cL_law 970 = .ok (.iconst 0, 1) := by decide +kernel
theorem dL_law_971 : decode cL_law 971 = .ok (.istore 13, 2) := by decide +kernel
theorem dL_law_973 : decode cL_law 973 = .ok (.lconst 0, 1) := by decide +kernel
theorem dL_law_974 : decode cL_law 974 = .ok (.lstore 14, 2) := by decide +kernel
theorem dL_law_976 : decode cL_law 976 = .ok (.iconst 0, 1) := by decide +kernel
theorem dL_law_977 : decode cL_law 977 = .ok (.istore 16, 2) := by decide +kernel
theorem dL_law_979 : decode cL_law 979 = .ok (.iload 16, 2) := by decide +kernel
theorem dL_law_981 : decode cL_law 981 = .ok (.iconst 5, 1) := by decide +kernel
theorem dL_law_982 : decode cL_law 982 = .ok (.if_icmp .ge 138, 3) := by decide +kernel
theorem dL_law_985 : decode cL_law 985 = .ok (.iload 4, 2) := by decide +kernel
theorem dL_law_987 : decode cL_law 987 = .ok (.ifCond .eq 133, 3) := by decide +kernel
theorem dL_law_990 : decode cL_law 990 = .ok (.iload 13, 2) := by decide +kernel
theorem dL_law_992 : decode cL_law 992 = .ok (.aload_n 1, 1) := by decide +kernel
theorem dL_law_993 : decode cL_law 993 = .ok (.iload 16, 2) := by decide +kernel
theorem dL_law_995 : decode cL_law 995 = .ok (.iload 10, 2) := by decide +kernel
theorem dL_law_997 : decode cL_law 997 = .ok (.iload 11, 2) := by decide +kernel
theorem dL_law_999 : decode cL_law 999 = .ok (.invokestatic 137, 3) := by decide +kernel
theorem dL_law_1002 : decode cL_law 1002 = .ok (.iadd, 1) := by decide +kernel
theorem dL_law_1003 : decode cL_law 1003 = .ok (.istore 13, 2) := by decide +kernel
theorem dL_law_1005 : decode cL_law 1005 = .ok (.aload_n 1, 1) := by decide +kernel
theorem dL_law_1006 : decode cL_law 1006 = .ok (.iload 16, 2) := by decide +kernel
theorem dL_law_1008 : decode cL_law 1008 = .ok (.iload 10, 2) := by decide +kernel
theorem dL_law_1010 : decode cL_law 1010 = .ok (.iload 11, 2) := by decide +kernel
theorem dL_law_1012 : decode cL_law 1012 = .ok (.invokestatic 137, 3) := by decide +kernel
theorem dL_law_1015 : decode cL_law 1015 = .ok (.ifCond .lt 66, 3) := by decide +kernel
theorem dL_law_1018 : decode cL_law 1018 = .ok (.aload_n 1, 1) := by decide +kernel
theorem dL_law_1019 : decode cL_law 1019 = .ok (.iload 16, 2) := by decide +kernel
theorem dL_law_1021 : decode cL_law 1021 = .ok (.iload 10, 2) := by decide +kernel
theorem dL_law_1023 : decode cL_law 1023 = .ok (.invokestatic 152, 3) := by decide +kernel
theorem dL_law_1026 : decode cL_law 1026 = .ok (.ifCond .lt 55, 3) := by decide +kernel
theorem dL_law_1029 : decode cL_law 1029 = .ok (.aload_n 1, 1) := by decide +kernel
theorem dL_law_1030 : decode cL_law 1030 = .ok (.iload 16, 2) := by decide +kernel
theorem dL_law_1032 : decode cL_law 1032 = .ok (.iload 10, 2) := by decide +kernel
theorem dL_law_1034 : decode cL_law 1034 = .ok (.invokestatic 145, 3) := by decide +kernel
theorem dL_law_1037 : decode cL_law 1037 = .ok (.ifCond .gt 14, 3) := by decide +kernel
theorem dL_law_1040 : decode cL_law 1040 = .ok (.aload_n 1, 1) := by decide +kernel
theorem dL_law_1041 : decode cL_law 1041 = .ok (.iload 16, 2) := by decide +kernel
theorem dL_law_1043 : decode cL_law 1043 = .ok (.iload 10, 2) := by decide +kernel
theorem dL_law_1045 : decode cL_law 1045 = .ok (.invokestatic 152, 3) := by decide +kernel
theorem dL_law_1048 : decode cL_law 1048 = .ok (.ifCond .ne 33, 3) := by decide +kernel
theorem dL_law_1051 : decode cL_law 1051 = .ok (.aload_n 1, 1) := by decide +kernel
theorem dL_law_1052 : decode cL_law 1052 = .ok (.iload 16, 2) := by decide +kernel
theorem dL_law_1054 : decode cL_law 1054 = .ok (.iload 10, 2) := by decide +kernel
theorem dL_law_1056 : decode cL_law 1056 = .ok (.invokestatic 152, 3) := by decide +kernel
theorem dL_law_1059 : decode cL_law 1059 = .ok (.i2l, 1) := by decide +kernel
theorem dL_law_1060 : decode cL_law 1060 = .ok (.ldc2_w 154, 3) := by decide +kernel
theorem dL_law_1063 : decode cL_law 1063 = .ok (.aload_n 1, 1) := by decide +kernel
theorem dL_law_1064 : decode cL_law 1064 = .ok (.iload 16, 2) := by decide +kernel
theorem dL_law_1066 : decode cL_law 1066 = .ok (.iload 10, 2) := by decide +kernel
theorem dL_law_1068 : decode cL_law 1068 = .ok (.invokestatic 133, 3) := by decide +kernel
theorem dL_law_1071 : decode cL_law 1071 = .ok (.i2l, 1) := by decide +kernel
theorem dL_law_1072 : decode cL_law 1072 = .ok (.lmul, 1) := by decide +kernel
theorem dL_law_1073 : decode cL_law 1073 = .ok (.lcmp, 1) := by decide +kernel
theorem dL_law_1074 : decode cL_law 1074 = .ok (.ifCond .gt 7, 3) := by decide +kernel
theorem dL_law_1077 : decode cL_law 1077 = .ok (.iconst 1, 1) := by decide +kernel
theorem dL_law_1078 : decode cL_law 1078 = .ok (.goto 4, 3) := by decide +kernel
theorem dL_law_1081 : decode cL_law 1081 = .ok (.iconst 0, 1) := by decide +kernel
theorem dL_law_1082 : decode cL_law 1082 = .ok (.istore 4, 2) := by decide +kernel
theorem dL_law_1084 : decode cL_law 1084 = .ok (.iconst 0, 1) := by decide +kernel
theorem dL_law_1085 : decode cL_law 1085 = .ok (.istore 17, 2) := by decide +kernel
theorem dL_law_1087 : decode cL_law 1087 = .ok (.iload 17, 2) := by decide +kernel
theorem dL_law_1089 : decode cL_law 1089 = .ok (.bipush 8, 2) := by decide +kernel
theorem dL_law_1091 : decode cL_law 1091 = .ok (.if_icmp .ge 23, 3) := by decide +kernel
theorem dL_law_1094 : decode cL_law 1094 = .ok (.lload 14, 2) := by decide +kernel
theorem dL_law_1096 : decode cL_law 1096 = .ok (.aload_n 1, 1) := by decide +kernel
theorem dL_law_1097 : decode cL_law 1097 = .ok (.iload 16, 2) := by decide +kernel
theorem dL_law_1099 : decode cL_law 1099 = .ok (.iload 17, 2) := by decide +kernel
theorem dL_law_1101 : decode cL_law 1101 = .ok (.invokestatic 152, 3) := by decide +kernel
theorem dL_law_1104 : decode cL_law 1104 = .ok (.i2l, 1) := by decide +kernel
theorem dL_law_1105 : decode cL_law 1105 = .ok (.ladd, 1) := by decide +kernel
theorem dL_law_1106 : decode cL_law 1106 = .ok (.lstore 14, 2) := by decide +kernel
theorem dL_law_1108 : decode cL_law 1108 = .ok (.iinc 17 1, 3) := by decide +kernel
theorem dL_law_1111 : decode cL_law 1111 = .ok (.goto (-24), 3) := by decide +kernel
theorem dL_law_1114 : decode cL_law 1114 = .ok (.iinc 16 1, 3) := by decide +kernel
theorem dL_law_1117 : decode cL_law 1117 = .ok (.goto (-138), 3) := by decide +kernel
theorem dL_law_1120 : decode cL_law 1120 = .ok (.iload 4, 2) := by decide +kernel
theorem dL_law_1122 : decode cL_law 1122 = .ok (.ifCond .eq 28, 3) := by decide +kernel
theorem dL_law_1125 : decode cL_law 1125 = .ok (.iload 13, 2) := by decide +kernel
theorem dL_law_1127 : decode cL_law 1127 = .ok (.aload_n 1, 1) := by decide +kernel
theorem dL_law_1128 : decode cL_law 1128 = .ok (.iload 10, 2) := by decide +kernel
theorem dL_law_1130 : decode cL_law 1130 = .ok (.invokestatic 97, 3) := by decide +kernel
theorem dL_law_1133 : decode cL_law 1133 = .ok (.if_icmp .ne 17, 3) := by decide +kernel
theorem dL_law_1136 : decode cL_law 1136 = .ok (.lload 14, 2) := by decide +kernel
theorem dL_law_1138 : decode cL_law 1138 = .ok (.aload_n 1, 1) := by decide +kernel
theorem dL_law_1139 : decode cL_law 1139 = .ok (.invokevirtual 107, 3) := by decide +kernel
theorem dL_law_1142 : decode cL_law 1142 = .ok (.lcmp, 1) := by decide +kernel
theorem dL_law_1143 : decode cL_law 1143 = .ok (.ifCond .ne 7, 3) := by decide +kernel
theorem dL_law_1146 : decode cL_law 1146 = .ok (.iconst 1, 1) := by decide +kernel
theorem dL_law_1147 : decode cL_law 1147 = .ok (.goto 4, 3) := by decide +kernel
theorem dL_law_1150 : decode cL_law 1150 = .ok (.iconst 0, 1) := by decide +kernel
theorem dL_law_1151 : decode cL_law 1151 = .ok (.istore 4, 2) := by decide +kernel
theorem dL_law_1153 : decode cL_law 1153 = .ok (.iinc 5 1, 3) := by decide +kernel
theorem dL_law_1156 : decode cL_law 1156 = .ok (.goto (-1105), 3) := by decide +kernel
theorem dL_law_1159 : decode cL_law 1159 = .ok (.iload 4, 2) := by decide +kernel
theorem dL_law_1161 : decode cL_law 1161 = .ok (.ireturn, 1) := by decide +kernel
end
section
/-! THE CLAIM OUT OF ONE WALK OF THE LAW'S BODY. Your part is whole_start (and what it stands on); all else here is the same for every law, but numbers. -/
def R_law : String := "CapacityRoundLaw"
def lw_P (b : Addr) (xs : List Int32) (args : Array Value) (s : State) : Prop := args = #[.ref b] ∧ s.IntsAt b xs ∧ xs.length ≤ 260 ∧ (Jvm.Cond.and given_1 narrow_1).before args s = true
def lw_Q (_ : Array Value) (s : State) (o : Outcome) (t : State) : Prop := o = .returned (some (.int 1)) ∧ Framed s o t [] 115 2959
def lw_Z (below : List Frame) (a : Array Value) (s : State) : State → Prop := fun t => ∃ o, t.status = .running ∧ Ended t below o ∧ lw_Q a s o t
/-- the law's own end, with 1 on the stack, nothing written that was there before, its room as the claim has it -/
theorem lw_ret {p : Program} {l : Launch} {e : Env} {s : State} {m : MethodId} {below : List Frame} {meth : Method} {c : Code} {b : Nat} (hx : p.tables.exec = Jvm.exec) (hb : c.code = code) (hr : meth.sig.returnType = ret) (hlocks : meth.locks = false) {pc : Nat} {H : Heap} {ls : Array Slot} (hdg : decode code pc = .ok (.ireturn, 1)) : W p l e room_1 s m #[Value.ref b] below meth c H [] 115 2959 (lw_Z below #[Value.ref b] s) (F0 m pc ls [.int 1]) := by
  intro T hT X
  obtain ⟨fs, hret, hrun, hended, hW, hframe⟩ := X.leave (v := some (.int 1)) (hlocks := hlocks) (fun h => by rw [hr] at h; cases h)
  have hmeth' : T.vm.method? m = some meth := X.method'
  refine ⟨T.setFrames fs, ?_, .returned (some (.int 1)), hrun, hended, rfl, ⟨_, rfl⟩, hW, hframe⟩
  jvm_step X.here [X.here.top, hx, hb, hdg, hmeth', hr, ret, narrow_b1]
  (try refine ⟨rfl, ?_⟩); (try refine ⟨rfl, ?_⟩)
  first | (intro acts; rw [hret _ acts rfl rfl rfl]) | rw [hret _ _ rfl rfl rfl]
  exact Steps.refl _
/-- what holds at the law's entry: the machine, the code, the tables' words (any of lw_tbl by 'hts w (by decide +kernel)'), the script of L ints xs at the cell b, what the Statement gives of the start (any of its parts by flat_of_before) -/
def lw_At (p : Program) (s : State) (m : MethodId) (meth : Method) (c : Code) (b L : Nat) (xs : Nat → Int32) : Prop :=
  p.tables.exec = Jvm.exec ∧ c.code = code ∧ meth.sig.returnType = ret ∧ c.maxLocals = 19 ∧ s.vm.findClass R_law = some m.cls ∧ (∀ w ∈ lw_tbl, w.before #[Value.ref b] s = true) ∧ va_X b L xs s s.heap ∧ b < s.heap.size ∧ meth.locks = false ∧ (Jvm.Cond.and given_1 narrow_1).before #[Value.ref b] s = true
end
