section
-- ===== PART A: goes FIRST, ahead of the names: the tables' words, and 'selects' of the private methods out of them =====
/-- a private method of a class that the tables say can be made, by its rows of tables_1 -/
def lw_okq (q : MethodName × Nat) : Prop := (q.1.cls ≠ "java/lang/invoke/MethodHandle" ∧ q.1.cls ≠ "java/lang/invoke/VarHandle") ∧ Cond.instantiable q.1.cls q.2 ∈ tables_1 ∧ Cond.privateMethod q.1 ∈ tables_1 ∧ Cond.instanceMethod q.1 ∈ tables_1
theorem lw_p0 : lw_okq (⟨"CapacityRound", "penaltyOf", "(II)I"⟩, 10) := ⟨⟨by decide +kernel, by decide +kernel⟩, List.mem_of_getElem? (i := 13) (by decide +kernel), List.mem_of_getElem? (i := 126) (by decide +kernel), List.mem_of_getElem? (i := 127) (by decide +kernel)⟩
theorem lw_p1 : lw_okq (⟨"CapacityRound", "lackOf", "(II)I"⟩, 10) := ⟨⟨by decide +kernel, by decide +kernel⟩, List.mem_of_getElem? (i := 13) (by decide +kernel), List.mem_of_getElem? (i := 130) (by decide +kernel), List.mem_of_getElem? (i := 131) (by decide +kernel)⟩
theorem lw_p2 : lw_okq (⟨"java/lang/Throwable", "fillInStackTrace", "(I)Ljava/lang/Throwable;"⟩, 6) := ⟨⟨by decide +kernel, by decide +kernel⟩, List.mem_of_getElem? (i := 196) (by decide +kernel), List.mem_of_getElem? (i := 194) (by decide +kernel), List.mem_of_getElem? (i := 195) (by decide +kernel)⟩
theorem lw_p3 : lw_okq (⟨"CapacityRound$Queue", "dearestIn", "()I"⟩, 7) := ⟨⟨by decide +kernel, by decide +kernel⟩, List.mem_of_getElem? (i := 49) (by decide +kernel), List.mem_of_getElem? (i := 350) (by decide +kernel), List.mem_of_getElem? (i := 351) (by decide +kernel)⟩
theorem lw_p4 : lw_okq (⟨"CapacityRound$Queue", "exitOf", "(I)I"⟩, 7) := ⟨⟨by decide +kernel, by decide +kernel⟩, List.mem_of_getElem? (i := 49) (by decide +kernel), List.mem_of_getElem? (i := 354) (by decide +kernel), List.mem_of_getElem? (i := 355) (by decide +kernel)⟩
theorem lw_p5 : lw_okq (⟨"CapacityRound", "take", "(III)V"⟩, 10) := ⟨⟨by decide +kernel, by decide +kernel⟩, List.mem_of_getElem? (i := 13) (by decide +kernel), List.mem_of_getElem? (i := 382) (by decide +kernel), List.mem_of_getElem? (i := 383) (by decide +kernel)⟩
theorem lw_p6 : lw_okq (⟨"CapacityRound", "leastObligation", "(IIII)I"⟩, 10) := ⟨⟨by decide +kernel, by decide +kernel⟩, List.mem_of_getElem? (i := 13) (by decide +kernel), List.mem_of_getElem? (i := 425) (by decide +kernel), List.mem_of_getElem? (i := 426) (by decide +kernel)⟩
theorem lw_p7 : lw_okq (⟨"CapacityRoundModel", "goes", "(ZZZ)Z"⟩, 17) := ⟨⟨by decide +kernel, by decide +kernel⟩, List.mem_of_getElem? (i := 468) (by decide +kernel), List.mem_of_getElem? (i := 537) (by decide +kernel), List.mem_of_getElem? (i := 538) (by decide +kernel)⟩
theorem lw_p8 : lw_okq (⟨"CapacityRoundModel", "valueOf", "(I)I"⟩, 17) := ⟨⟨by decide +kernel, by decide +kernel⟩, List.mem_of_getElem? (i := 468) (by decide +kernel), List.mem_of_getElem? (i := 545) (by decide +kernel), List.mem_of_getElem? (i := 546) (by decide +kernel)⟩
theorem lw_p9 : lw_okq (⟨"CapacityRoundModel", "worthOf", "(I)I"⟩, 17) := ⟨⟨by decide +kernel, by decide +kernel⟩, List.mem_of_getElem? (i := 468) (by decide +kernel), List.mem_of_getElem? (i := 553) (by decide +kernel), List.mem_of_getElem? (i := 554) (by decide +kernel)⟩
theorem lw_p10 : lw_okq (⟨"CapacityRoundModel", "taken", "(I)I"⟩, 17) := ⟨⟨by decide +kernel, by decide +kernel⟩, List.mem_of_getElem? (i := 468) (by decide +kernel), List.mem_of_getElem? (i := 579) (by decide +kernel), List.mem_of_getElem? (i := 580) (by decide +kernel)⟩
theorem lw_p11 : lw_okq (⟨"CapacityRoundModel", "rank", "(I)I"⟩, 17) := ⟨⟨by decide +kernel, by decide +kernel⟩, List.mem_of_getElem? (i := 468) (by decide +kernel), List.mem_of_getElem? (i := 583) (by decide +kernel), List.mem_of_getElem? (i := 584) (by decide +kernel)⟩
theorem lw_p12 : lw_okq (⟨"CapacityRoundModel", "price", "(I)I"⟩, 17) := ⟨⟨by decide +kernel, by decide +kernel⟩, List.mem_of_getElem? (i := 468) (by decide +kernel), List.mem_of_getElem? (i := 587) (by decide +kernel), List.mem_of_getElem? (i := 588) (by decide +kernel)⟩
theorem lw_p13 : lw_okq (⟨"CapacityRoundModel", "least", "(IIII)I"⟩, 17) := ⟨⟨by decide +kernel, by decide +kernel⟩, List.mem_of_getElem? (i := 468) (by decide +kernel), List.mem_of_getElem? (i := 626) (by decide +kernel), List.mem_of_getElem? (i := 627) (by decide +kernel)⟩
theorem lw_p14 : lw_okq (⟨"CapacityRoundModel", "lackOf", "(II)I"⟩, 17) := ⟨⟨by decide +kernel, by decide +kernel⟩, List.mem_of_getElem? (i := 468) (by decide +kernel), List.mem_of_getElem? (i := 650) (by decide +kernel), List.mem_of_getElem? (i := 651) (by decide +kernel)⟩
theorem lw_p15 : lw_okq (⟨"CapacityRoundModel", "penaltyOf", "(II)J"⟩, 17) := ⟨⟨by decide +kernel, by decide +kernel⟩, List.mem_of_getElem? (i := 468) (by decide +kernel), List.mem_of_getElem? (i := 658) (by decide +kernel), List.mem_of_getElem? (i := 659) (by decide +kernel)⟩
def lw_privs_1 : List (MethodName × Nat) := [(⟨"CapacityRound", "penaltyOf", "(II)I"⟩, 10), (⟨"CapacityRound", "lackOf", "(II)I"⟩, 10), (⟨"java/lang/Throwable", "fillInStackTrace", "(I)Ljava/lang/Throwable;"⟩, 6), (⟨"CapacityRound$Queue", "dearestIn", "()I"⟩, 7), (⟨"CapacityRound$Queue", "exitOf", "(I)I"⟩, 7), (⟨"CapacityRound", "take", "(III)V"⟩, 10), (⟨"CapacityRound", "leastObligation", "(IIII)I"⟩, 10), (⟨"CapacityRoundModel", "goes", "(ZZZ)Z"⟩, 17), (⟨"CapacityRoundModel", "valueOf", "(I)I"⟩, 17), (⟨"CapacityRoundModel", "worthOf", "(I)I"⟩, 17), (⟨"CapacityRoundModel", "taken", "(I)I"⟩, 17), (⟨"CapacityRoundModel", "rank", "(I)I"⟩, 17), (⟨"CapacityRoundModel", "price", "(I)I"⟩, 17), (⟨"CapacityRoundModel", "least", "(IIII)I"⟩, 17), (⟨"CapacityRoundModel", "lackOf", "(II)I"⟩, 17), (⟨"CapacityRoundModel", "penaltyOf", "(II)J"⟩, 17)]
theorem lw_r1 : ∀ q ∈ lw_privs_1, lw_okq q := List.forall_mem_cons.mpr ⟨lw_p0, List.forall_mem_cons.mpr ⟨lw_p1, List.forall_mem_cons.mpr ⟨lw_p2, List.forall_mem_cons.mpr ⟨lw_p3, List.forall_mem_cons.mpr ⟨lw_p4, List.forall_mem_cons.mpr ⟨lw_p5, List.forall_mem_cons.mpr ⟨lw_p6, List.forall_mem_cons.mpr ⟨lw_p7, List.forall_mem_cons.mpr ⟨lw_p8, List.forall_mem_cons.mpr ⟨lw_p9, List.forall_mem_cons.mpr ⟨lw_p10, List.forall_mem_cons.mpr ⟨lw_p11, List.forall_mem_cons.mpr ⟨lw_p12, List.forall_mem_cons.mpr ⟨lw_p13, List.forall_mem_cons.mpr ⟨lw_p14, List.forall_mem_cons.mpr ⟨lw_p15, fun _ h => absurd h List.not_mem_nil⟩⟩⟩⟩⟩⟩⟩⟩⟩⟩⟩⟩⟩⟩⟩⟩
def lw_privs : List (MethodName × Nat) := lw_privs_1
def lw_tbl : List Cond := k2_sels lw_privs ++ tables_1
theorem lw_privs_ok : ∀ q ∈ lw_privs, lw_okq q := lw_r1
/-! ===== BEGIN words of one list among another's, by their places ===== -/
theorem goodIn_r {big : List Cond} (ws : List Cond) (ps : List Nat) (hp : ws = ps.filterMap (fun i => big[i]?)) (h : ws.all goodWord = true) : GoodIn big ws := by
  intro w hw
  have h1 := List.all_eq_true.mp h w hw
  rw [hp] at hw
  obtain ⟨i, -, hi⟩ := List.mem_filterMap.mp hw
  have hm : w ∈ big := by first | exact List.mem_of_getElem? hi | exact List.getElem?_mem hi
  exact ⟨hm, good_of_word h1⟩
theorem goodIn_app {big a b : List Cond} (ha : GoodIn big a) (hb : GoodIn big b) : GoodIn big (a ++ b) := fun w h => (List.mem_append.mp h).elim (ha w) (hb w)
theorem goodIn_ca {big a b : List Cond} {c : Cond} (ha : GoodIn big (c :: a)) (hb : GoodIn big b) : GoodIn big (c :: (a ++ b)) := fun w h => (List.mem_cons.mp h).elim (fun e => ha w (List.mem_cons.mpr (Or.inl e))) (fun h => (List.mem_append.mp h).elim (fun h => ha w (List.mem_cons.mpr (Or.inr h))) (hb w))
theorem goodIn_sub {big ws : List Cond} (hm : ∀ w ∈ ws, w ∈ big) (h : ws.all goodWord = true) : GoodIn big ws := fun w hw => ⟨hm w hw, good_of_word (List.all_eq_true.mp h w hw)⟩
/-! ===== END ===== -/

/-! ===== BEGIN exceptions that leave a method, and their catching by the caller (launches without stack traces) ===== -/
section VXA
/-! The laws vx_back, vx_callV, vx_callS, vx_callSW, vx_throw0, vx_throwS follow proofs of the library, with one case more: JvmDerived/Free/Laws.lean (Back.of_free), Shelf42/LK1.lean (callV, callS), Shelf/KitTraced.lean (throwNew0V, throwNewS). -/
/-- where a method has thrown q: the class by its name, the cell, what was written, the world -/
def vx_T (XC : String → State → State → Prop) (st : State) (q : Addr) (t : State) (mc ms : Nat) (free : Addr → Prop) : Prop :=
  ∃ (E : String) (ce : Cell) (L : List Loc), XC E st t ∧ t.heap[q]? = some ce ∧ ce.vm = .none ∧ st.vm.findClass E = some ce.cls ∧ st.WarmedH t.vm ∧ st.sameButNew ({ t with vm := st.vm } : State) L mc ms ∧ ∀ z ∈ L, free z.base
def vx_Q (Qc : Array Value → State → Outcome → State → Prop) (XC : String → State → State → Prop) (mc ms : Nat) (free : Addr → Prop) : Array Value → State → Outcome → State → Prop := fun a st o t =>
  (Qc a st o t ∧ ∃ L, FrameEnd st o t L mc ms ∧ ∀ q ∈ L, free q.base) ∨ ∃ q, o = .threw q ∧ vx_T XC st q t mc ms free
/-- a callee that returns or throws -/
def vx_Met (l : Launch) (y : MethodName) (ws : List Cond) (rm : Room) (Pc : Array Value → State → Prop) (Qc : Array Value → State → Outcome → State → Prop) (XC : String → State → State → Prop) (mc ms : Nat) (free : Addr → Prop) : Prop :=
  MetFree l y (headSpec ws rm) Pc (fun _ _ _ _ _ => True) (vx_Q Qc XC mc ms free)
def vx_Post (XC : String → State → State → Prop) (mc ms : Nat) (free : Addr → Prop) : Pt → Array Value → Addr → Pt → Prop := fun A a q B =>
  ∃ (g : JFrame) (mk : MethodId) (t : State) (L : List Loc) (E : String) (ce : Cell), B.U.heap = t.heap ∧ B.U.vm = t.vm ∧ XC E (A.U.calling g mk a) t ∧ t.heap[q]? = some ce ∧ ce.vm = .none ∧ A.U.vm.findClass E = some ce.cls ∧ B.locs = A.locs ++ L ∧ (∀ z ∈ L, free z.base) ∧ B.cells = A.cells + mc ∧ B.slots = A.slots + ms
def vx_Back (l : Launch) (R : Room) (p : Program) (e : Env) (below : List Frame) (s : State) (sargs : Array Value) (y : MethodName) (len W9 : Nat)
    (Pre : Pt → Array Value → Prop) (Post : Pt → Array Value → Option Value → Pt → Prop) (PostX : Pt → Array Value → Addr → Pt → Prop) : Prop :=
  ∀ (m : MethodId) (meth : Method) (c : Code) (A : Pt) (g : JFrame) (ig : Instr) (mk : MethodId) (a : Array Value),
    Stand p l e R s m sargs below meth c A.U A.locs A.cells A.slots → g.method = m → g.locals.size = c.maxLocals → decode c.code g.pc = .ok (ig, len) →
    2 * g.monitorRoom + (g.stack.map fun v => v.category).sum ≤ W9 → A.U.methodNamed? y = some mk → Pre A a →
    (∃ (v : Option Value) (B : Pt), Stand p l e R s m sargs below meth c B.U B.locs B.cells B.slots ∧ Post A a v B ∧
      Steps p.tables e below (doInvoke e (A.U.setTop g) [] mk a).1 (B.U.setTop { g with pc := g.pc + len, stack := v.toList ++ g.stack })) ∨
    (∃ (q : Addr) (B : Pt), Stand p l e R s m sargs below meth c B.U B.locs B.cells B.slots ∧ PostX A a q B ∧
      Steps p.tables e below (doInvoke e (A.U.setTop g) [] mk a).1 ((B.U.setTop g).pushFrame (.throwing q)))
section Payer
variable {l : Launch} {R : Room} {p : Program} {e : Env} {below : List Frame} {s : State} {sargs : Array Value} {y : MethodName} {len W9 : Nat}
theorem vx_back {ws : List Cond} {rm : Room} {Pc : Array Value → State → Prop} {Qc : Array Value → State → Outcome → State → Prop} {XC : String → State → State → Prop} {mc ms : Nat} {free : Addr → Prop} {bytes : ByteArray} {maxL : Nat} {ret : Option FieldType}
    (hM : vx_Met l y ws rm Pc Qc XC mc ms free) (hblind : FrameBlind Pc) (hrc : rm.cells = mc) (hrs : rm.slots = ms)
    (hframes : rm.frames + 1 ≤ R.frames) (hlocals : W9 + (maxL + 11) + rm.locals ≤ R.locals)
    (hws : ∀ w ∈ ws, ∀ a' U, s.WarmedH U.vm → w.before a' U = true) (hcode : Cond.code y bytes maxL ret ∈ ws) (hinit : ∀ a' U, s.WarmedH U.vm → (Cond.initialized y.cls).before a' U = true) :
    vx_Back l R p e below s sargs y len W9 (PreOf R mc ms Pc) (PostOf Qc mc ms free) (vx_Post XC mc ms free) := by
  intro m meth c A g ig mk a X hg hsize hdg hW hn hp
  have h1 : (headSpec ws rm).pre.before a A.U = true := atoms_intro fun w hw => hws w hw _ _ X.warmed
  have h2 : (Cond.code y bytes maxL ret).before a A.U = true := hws _ hcode _ _ X.warmed
  have h3 : (Cond.initialized y.cls).before a A.U = true := hinit _ _ X.warmed
  have h4 : A.cells + (headSpec ws rm).room.cells ≤ R.cells := by rw [show (headSpec ws rm).room.cells = mc from hrc]; exact hp.1
  have h5 : A.slots + (headSpec ws rm).room.slots ≤ R.slots := by rw [show (headSpec ws rm).room.slots = ms from hrs]; exact hp.2.1
  have hPc : Pc a (A.U.calling g mk a) := hblind _ _ _ _ hp.2.2
  obtain ⟨U, Ls, c0, s0⟩ := A
  dsimp only [Pt.U, Pt.locs, Pt.cells, Pt.slots] at h1 h2 h3 h4 h5 X hn hPc ⊢
  obtain ⟨methY, cY, hmY, hcY, -, hlY, -, -, -, -⟩ := Cond.code_spec hn h2
  obtain ⟨kY, hkY, -⟩ := className_of_methodNamed hn
  have hinitY : kY.init = .initialized := Cond.initialized_spec (findClass_of_methodNamed hn) hkY h3
  have h : At U g.method c below := by rw [hg]; exact X.here
  have hlocals9 : W9 + (maxL + 11) + (headSpec ws rm).room.locals ≤ R.locals := hlocals
  have happ : (headSpec ws rm).appliesLoose y e.platform (U.calling g mk a) = true :=
    Spec.appliesLoose_calling (g := g) h hdg hn hkY hinitY
      (X.room_calling (g := g) (R' := (headSpec ws rm).room) hsize hmY hcY hframes (by rw [hlY]; omega) h4 h5) h1
  obtain ⟨mid, hmid⟩ := h.above
  have hfr : (U.setTop g).frames = (.java g :: mid) ++ below := by rw [State.frames_setTop' g h.top, hmid]; rfl
  obtain ⟨o, s₂, hsteps, -, hend, hq⟩ := Steps.callFree hM p X.admits X.cas X.clock (acts := []) hfr happ hPc trivial
  have hq' : vx_Q Qc XC mc ms free a (U.calling g mk a) o s₂ := hq
  rw [State.frames_setTop' g h.top] at hend
  obtain ⟨g₀, hg0⟩ := Option.isSome_iff_exists.mp h.top
  obtain ⟨r, hr⟩ := State.topJava?_eq_some.mp hg0
  have hr' : (({ U with heap := s₂.heap, slotsUsed := s₂.slotsUsed } : State).setVm s₂.vm).frames = .java g₀ :: r := hr
  rcases hq' with ⟨hqc, L, hfe, hL⟩ | ⟨q, rfl, E, ce, L, hx, hce, hcv, hcl, hW₂, hsm, hL⟩
  · obtain ⟨⟨v, rfl⟩, hW₂, e2, q2, q3, q4, q5, q6⟩ := id hfe
    have e3 : s₂ = ({ (U.calling g mk a).setFrames s₂.frames with heap := s₂.heap, slotsUsed := s₂.slotsUsed } : State).setVm s₂.vm := by
      have : s₂ = ({ s₂ with vm := (U.calling g mk a).vm } : State).setVm s₂.vm := rfl
      rw [e2] at this
      exact this
    obtain ⟨c₂, i₂, len₂, hc₂, hd₂, hf₂⟩ := hend
    have hW' : U.WarmedH s₂.vm := hW₂
    have hcc : c₂ = c := by
      have h1 : s₂.code? g.method = U.code? g.method := by
        rw [State.code?_eq, State.code?_eq, hW'.alike.method?]
      exact Option.some.inj (hc₂.symm.trans (h1.trans h.code))
    subst hcc
    have hlen : len₂ = len := by rw [hdg] at hd₂; cases hd₂; rfl
    subst hlen
    have hs₂ : s₂ = (({ U with heap := s₂.heap, slotsUsed := s₂.slotsUsed } : State).setVm s₂.vm).setTop { g with pc := g.pc + len₂, stack := v.toList ++ g.stack } := by
      refine e3.trans ?_
      rw [hf₂, State.calling_eq h.top, State.setFrames_setFrames, State.setTop_of_frames _ hr', hr]
      rfl
    have hsame : U.sameButNew ({ U with heap := s₂.heap, slotsUsed := s₂.slotsUsed } : State) L mc ms := by
      refine ⟨?_, q2, q3, q4, q5, q6⟩
      obtain ⟨t, ht, -⟩ := State.frames_cons hr
      show ({ U with heap := s₂.heap, slotsUsed := s₂.slotsUsed } : State) = { U.setFrames U.frames with heap := s₂.heap, slotsUsed := s₂.slotsUsed }
      rw [State.setFrames_self ht]
    subst hg
    refine Or.inl ⟨v, ⟨(({ U with heap := s₂.heap, slotsUsed := s₂.slotsUsed } : State).setVm s₂.vm), Ls ++ L, c0 + mc, s0 + ms⟩,
      ⟨X.admits, X.cas, X.clock, X.frames, X.room, X.hears, X.method, X.code, (X.here.setHeapUsed s₂.heap s₂.slotsUsed).setVm hW'.alike, X.tail, State.WarmedH.trans X.warmed hW', X.limits, X.bytes, X.same.trans (hsame.setVm s.vm)⟩,
      ⟨g, mk, s₂, L, rfl, rfl, hqc, rfl, hL, rfl, rfl⟩, ?_⟩
    show Steps p.tables e below _ ((({ U with heap := s₂.heap, slotsUsed := s₂.slotsUsed } : State).setVm s₂.vm).setTop { g with pc := g.pc + len₂, stack := v.toList ++ g.stack })
    rw [← hs₂]
    exact hsteps
  · obtain ⟨e2, q2, q3, q4, q5, q6⟩ := id hsm
    have e3 : s₂ = ({ (U.calling g mk a).setFrames s₂.frames with heap := s₂.heap, slotsUsed := s₂.slotsUsed } : State).setVm s₂.vm := by
      have : s₂ = ({ s₂ with vm := (U.calling g mk a).vm } : State).setVm s₂.vm := rfl
      rw [e2] at this
      exact this
    have hf₂ : s₂.frames = .throwing q :: .java g :: U.frames.tail := hend
    have hW' : U.WarmedH s₂.vm := hW₂
    have hs₂ : s₂ = ((({ U with heap := s₂.heap, slotsUsed := s₂.slotsUsed } : State).setVm s₂.vm).setTop g).pushFrame (.throwing q) := by
      refine e3.trans ?_
      rw [hf₂, State.calling_eq h.top, State.setFrames_setFrames, State.pushFrame, State.frames_setTop _ hr', State.setTop_of_frames _ hr', State.setFrames_setFrames, hr]
      rfl
    have hsame : U.sameButNew ({ U with heap := s₂.heap, slotsUsed := s₂.slotsUsed } : State) L mc ms := by
      refine ⟨?_, q2, q3, q4, q5, q6⟩
      obtain ⟨t, ht, -⟩ := State.frames_cons hr
      show ({ U with heap := s₂.heap, slotsUsed := s₂.slotsUsed } : State) = { U.setFrames U.frames with heap := s₂.heap, slotsUsed := s₂.slotsUsed }
      rw [State.setFrames_self ht]
    subst hg
    refine Or.inr ⟨q, ⟨(({ U with heap := s₂.heap, slotsUsed := s₂.slotsUsed } : State).setVm s₂.vm), Ls ++ L, c0 + mc, s0 + ms⟩,
      ⟨X.admits, X.cas, X.clock, X.frames, X.room, X.hears, X.method, X.code, (X.here.setHeapUsed s₂.heap s₂.slotsUsed).setVm hW'.alike, X.tail, State.WarmedH.trans X.warmed hW', X.limits, X.bytes, X.same.trans (hsame.setVm s.vm)⟩,
      ⟨g, mk, s₂, L, E, ce, rfl, rfl, hx, hce, hcv, hcl, rfl, hL, rfl, rfl⟩, ?_⟩
    show Steps p.tables e below _ (((({ U with heap := s₂.heap, slotsUsed := s₂.slotsUsed } : State).setVm s₂.vm).setTop g).pushFrame (.throwing q))
    rw [← hs₂]
    exact hsteps
end Payer
section Calls
variable {p : Program} {l : Launch} {e : Env} {R : Room} {s : State} {m : MethodId} {args : Array Value} {below : List Frame} {meth : Method} {c : Code} {T : State} {locs : List Loc} {cells slots : Nat}
theorem vx_callV (X : Stand p l e R s m args below meth c T locs cells slots) (hexec : p.tables.exec = Jvm.exec) {own C : String} {index : Nat} {y : MethodName} {bytes : ByteArray} {maxL : Nat} {ret : Option FieldType}
    (hown : s.vm.findClass own = some m.cls) (hlink : (Cond.methodLink own index y).before args s = true) (hinst : (Cond.instanceMethod y).before args s = true) (hsel : (Cond.selects C y y).before args s = true)
    (hcode : (Cond.code y bytes maxL ret).before args s = true) (hy : y.cls ≠ "java/lang/invoke/MethodHandle" ∧ y.cls ≠ "java/lang/invoke/VarHandle")
    {W9 : Nat} {Pre : Pt → Array Value → Prop} {Post : Pt → Array Value → Option Value → Pt → Prop} {PostX : Pt → Array Value → Addr → Pt → Prop} (hK : vx_Back l R p e below s args y 3 W9 Pre Post PostX)
    {b : Addr} {cellB : Cell} (hcell : T.heap[b]? = some cellB) (hobj : cellB.vm.isStatics = false) (hcls : s.vm.findClass C = some cellB.cls)
    {g : JFrame} (hg : g.method = m) (hsize : g.locals.size = c.maxLocals) {argsL rest : List Value} (hlen : ∀ sig, parseMethodDescriptor y.desc = some sig → argsL.length = sig.parameters.length)
    (hstack : g.stack = argsL.reverse ++ .ref b :: rest) (hW : 2 * g.monitorRoom + (rest.map fun v => v.category).sum ≤ W9) (hdg : decode c.code g.pc = .ok (.invokevirtual index, 3))
    (hpre : ∀ vm₁, s.WarmedH vm₁ → Pre ⟨T.setVm vm₁, locs, cells, slots⟩ (Value.ref b :: argsL).toArray) :
    (∃ (v : Option Value) (vm₁ : Vm) (B : Pt), s.WarmedH vm₁ ∧ Stand p l e R s m args below meth c B.U B.locs B.cells B.slots ∧ Post ⟨T.setVm vm₁, locs, cells, slots⟩ (Value.ref b :: argsL).toArray v B ∧
      ∀ target, Steps p.tables e below (B.U.setTop { g with pc := g.pc + 3, stack := v.toList ++ rest }) target → Steps p.tables e below (T.setTop g) target) ∨
    (∃ (q : Addr) (vm₁ : Vm) (B : Pt), s.WarmedH vm₁ ∧ Stand p l e R s m args below meth c B.U B.locs B.cells B.slots ∧ PostX ⟨T.setVm vm₁, locs, cells, slots⟩ (Value.ref b :: argsL).toArray q B ∧
      Steps p.tables e below (T.setTop g) ((B.U.setTop { g with stack := rest }).pushFrame (.throwing q))) := by
  obtain ⟨mk, methM, hnamed, hmethM, hstM, habM⟩ := Cond.instanceMethod_spec hinst
  obtain ⟨methM', cM, hmethM', -, -, -, -, -, -, hsigM⟩ := Cond.code_spec hnamed hcode
  cases hmethM.symm.trans hmethM'
  obtain ⟨c2, r2, m2, q1, q2, q3, q4, kP, hkP, hkPi⟩ := Cond.selects_spec hsel
  cases hcls.symm.trans q1
  cases (State.methodFound?_of_named hnamed hy).symm.trans q2
  cases hnamed.symm.trans q3
  have hselP : selectMethod e.platform s.vm cellB.cls mk = .method mk := by rw [Launch.admits_selectMethod X.admits]; exact q4
  obtain ⟨vm₁, X₁, hstep₁⟩ := X.invokevirtual hexec hown hlink hnamed hmethM hstM hkP hkPi hy (a := b) (cell := cellB) hcell
    (fun z h => by rw [h] at hobj; cases hobj) hselP hmethM habM hkP hkPi (g := g) hg (argsL := argsL) (rest := rest) (hlen _ hsigM) hstack hdg
  rcases hK m meth c ⟨T.setVm vm₁, locs, cells, slots⟩ { g with stack := rest } (.invokevirtual index) mk (Value.ref b :: argsL).toArray X₁ hg hsize hdg hW (X₁.named hnamed) (hpre vm₁ X₁.warmed) with ⟨v, B, X', hpost, hsteps⟩ | ⟨q, B, X', hpost, hsteps⟩
  · exact Or.inl ⟨v, vm₁, B, X₁.warmed, X', hpost, fun target h => hstep₁ _ fun acts => by rw [doInvoke_state]; exact hsteps.trans h⟩
  · exact Or.inr ⟨q, vm₁, B, X₁.warmed, X', hpost, hstep₁ _ fun acts => by rw [doInvoke_state]; exact hsteps⟩
theorem vx_callS (X : Stand p l e R s m args below meth c T locs cells slots) (hexec : p.tables.exec = Jvm.exec) {own : String} {index : Nat} {y : MethodName} {bytes : ByteArray} {maxL : Nat} {ret : Option FieldType}
    (hown : s.vm.findClass own = some m.cls) (hlink : (Cond.methodLink own index y).before args s = true) (hstat : (Cond.static y).before args s = true) (hinit : (Cond.initialized y.cls).before args s = true)
    (hcode : (Cond.code y bytes maxL ret).before args s = true) (hy : y.cls ≠ "java/lang/invoke/MethodHandle" ∧ y.cls ≠ "java/lang/invoke/VarHandle")
    {W9 : Nat} {Pre : Pt → Array Value → Prop} {Post : Pt → Array Value → Option Value → Pt → Prop} {PostX : Pt → Array Value → Addr → Pt → Prop} (hK : vx_Back l R p e below s args y 3 W9 Pre Post PostX)
    {g : JFrame} (hg : g.method = m) (hsize : g.locals.size = c.maxLocals) {argsL rest : List Value} (hlen : ∀ sig, parseMethodDescriptor y.desc = some sig → argsL.length = sig.parameters.length)
    (hstack : g.stack = argsL.reverse ++ rest) (hW : 2 * g.monitorRoom + (rest.map fun v => v.category).sum ≤ W9) (hdg : decode c.code g.pc = .ok (.invokestatic index, 3))
    (hpre : ∀ vm₁, s.WarmedH vm₁ → Pre ⟨T.setVm vm₁, locs, cells, slots⟩ argsL.toArray) :
    (∃ (v : Option Value) (vm₁ : Vm) (B : Pt), s.WarmedH vm₁ ∧ Stand p l e R s m args below meth c B.U B.locs B.cells B.slots ∧ Post ⟨T.setVm vm₁, locs, cells, slots⟩ argsL.toArray v B ∧
      ∀ target, Steps p.tables e below (B.U.setTop { g with pc := g.pc + 3, stack := v.toList ++ rest }) target → Steps p.tables e below (T.setTop g) target) ∨
    (∃ (q : Addr) (vm₁ : Vm) (B : Pt), s.WarmedH vm₁ ∧ Stand p l e R s m args below meth c B.U B.locs B.cells B.slots ∧ PostX ⟨T.setVm vm₁, locs, cells, slots⟩ argsL.toArray q B ∧
      Steps p.tables e below (T.setTop g) ((B.U.setTop { g with stack := rest }).pushFrame (.throwing q))) := by
  obtain ⟨mk, hnamed⟩ := Cond.code_named hcode
  obtain ⟨methM, cM, hmethM, -, -, -, -, -, -, hsigM⟩ := Cond.code_spec hnamed hcode
  have hstatic : methM.isStatic = true := Cond.static_spec hnamed hmethM hstat
  obtain ⟨kP, hkP, -⟩ := className_of_methodNamed hnamed
  have hinitP : kP.init = .initialized := Cond.initialized_spec (findClass_of_methodNamed hnamed) hkP hinit
  obtain ⟨vm₁, X₁, hstep₁⟩ := X.invokestatic hexec hown hlink hnamed hmethM hstatic hkP hinitP hy (g := g) hg (argsL := argsL) (rest := rest) (hlen _ hsigM) hstack hdg
  rcases hK m meth c ⟨T.setVm vm₁, locs, cells, slots⟩ { g with stack := rest } (.invokestatic index) mk argsL.toArray X₁ hg hsize hdg hW (X₁.named hnamed) (hpre vm₁ X₁.warmed) with ⟨v, B, X', hpost, hsteps⟩ | ⟨q, B, X', hpost, hsteps⟩
  · exact Or.inl ⟨v, vm₁, B, X₁.warmed, X', hpost, fun target h => hstep₁ _ fun acts => by rw [doInvoke_state]; exact hsteps.trans h⟩
  · exact Or.inr ⟨q, vm₁, B, X₁.warmed, X', hpost, hstep₁ _ fun acts => by rw [doInvoke_state]; exact hsteps⟩
end Calls
theorem vx_cls {s : State} {T : State} {vm₁ : Vm} {E : String} {k : ClassId} (hW : s.WarmedH vm₁) (h : (T.setVm vm₁).vm.findClass E = some k) : s.vm.findClass E = some k := by
  have h1 : vm₁.findClass E = some k := h
  rw [hW.alike.findClass] at h1
  exact h1
/-- the method's frame g, with q thrown over it -/
def vx_W (p : Program) (l : Launch) (e : Env) (R : Room) (s : State) (m : MethodId) (args : Array Value) (below : List Frame) (meth : Method) (c : Code) (H : Heap) (locs : List Loc) (cells slots : Nat) (Q : State → Prop) (g : JFrame) (q : Addr) : Prop :=
  ∀ T : State, T.heap = H → Stand p l e R s m args below meth c T locs cells slots → ∃ t, Steps p.tables e below ((T.setTop g).pushFrame (.throwing q)) t ∧ Q t
def vx_Run (p : Program) (l : Launch) (e : Env) (R : Room) (s : State) (m : MethodId) (args : Array Value) (below : List Frame) (meth : Method) (c : Code) (H : Heap) (locs : List Loc) (cells slots mc ms : Nat) (g : JFrame) (rest : List Value) (Qa : State → Outcome → State → Prop) (XC : String → State → State → Prop) (free : Addr → Prop) : Prop :=
  ∀ T : State, T.heap = H → Stand p l e R s m args below meth c T locs cells slots →
    (∃ (v : Option Value) (st₀ t T' : State) (L : List Loc), st₀.heap = H ∧ Stand p l e R s m args below meth c T' (locs ++ L) (cells + mc) (slots + ms) ∧ (∀ q ∈ L, free q.base) ∧ T'.heap = t.heap ∧ T'.vm = t.vm ∧ Qa st₀ (.returned v) t ∧
      Goes p e below T g T' { g with pc := g.pc + 3, stack := v.toList ++ rest }) ∨
    (∃ (q : Addr) (st₀ t T' : State) (L : List Loc) (E : String) (ce : Cell), st₀.heap = H ∧ Stand p l e R s m args below meth c T' (locs ++ L) (cells + mc) (slots + ms) ∧ (∀ z ∈ L, free z.base) ∧ T'.heap = t.heap ∧ T'.vm = t.vm ∧ XC E st₀ t ∧ t.heap[q]? = some ce ∧ ce.vm = .none ∧ s.vm.findClass E = some ce.cls ∧
      Steps p.tables e below (T.setTop g) ((T'.setTop { g with stack := rest }).pushFrame (.throwing q)))
def vx_X {S : Type} (px : S → Prop) (B : String → S → State → Prop) (A : Nat → Prop) : String → State → State → Prop := fun E st t => ∃ u : S, px u ∧ B E u t ∧ va_F A st t
section Runs
variable {p : Program} {l : Launch} {e : Env} {R : Room} {s : State} {m : MethodId} {args : Array Value} {below : List Frame} {meth : Method} {c : Code} {H : Heap} {locs : List Loc} {cells slots : Nat}
variable {y : MethodName} {bytes cc : ByteArray} {maxL nL mc ms n index : Nat} {ret : Option FieldType} {ws : List Cond} {rm : Room} {Pc : Array Value → State → Prop} {Qc : Array Value → State → Outcome → State → Prop} {XC : String → State → State → Prop} {free : Addr → Prop} {Ts : List Cond} {own C : String} {b : Addr} {As rest : List Value} {g : JFrame}
theorem vx_callBack (cb : CallB R s args own index y bytes maxL ret ws rm mc ms n) (hM : vx_Met l y ws rm Pc Qc XC mc ms free) (hbl : FrameBlind Pc) : vx_Back l R p e below s args y 3 8 (PreOf R mc ms Pc) (PostOf Qc mc ms free) (vx_Post XC mc ms free) := by
  obtain ⟨hrc, hrs, hfr, hlo, hws, hcw, -, hini, -⟩ := cb
  exact vx_back (bytes := bytes) (maxL := maxL) (ret := ret) hM hbl hrc hrs hfr hlo hws hcw (fun a' U hW => word_at hW (Or.inl (by first | rfl | simp [Cond.onTables, Cond.keeps, Cond.steady])) hini)
theorem vx_runV (S : CallFix p m c cc nL s args Ts own) (hM : vx_Met l y ws rm Pc Qc XC mc ms free) (cw : CallW R s args own C index y bytes maxL ret ws rm mc ms n) (hp : PreV s H C b Pc As)
    (hg : g.method = m) (hn : As.length = n) (hsize : g.locals.size = nL) (hstack : g.stack = As.reverse ++ .ref b :: rest) (hW : 2 * g.monitorRoom + (rest.map fun v => v.category).sum ≤ 8) (hdg : decode cc g.pc = .ok (.invokevirtual index, 3)) (hf : cells + mc ≤ R.cells ∧ slots + ms ≤ R.slots) :
    vx_Run p l e R s m args below meth c H locs cells slots mc ms g rest (Qc (Value.ref b :: As).toArray) XC free := by
  have hK : vx_Back l R p e below s args y 3 8 (PreOf R mc ms Pc) (PostOf Qc mc ms free) (vx_Post XC mc ms free) := vx_callBack cw.1 hM hp.1
  obtain ⟨⟨-, -, -, -, -, -, hcode, -, hy, hlen, hl⟩, hin, hse⟩ := cw
  obtain ⟨hx, hb, hml, ho, -⟩ := S
  obtain ⟨-, ⟨cellB, hcB, hoB, hclB⟩, hPc⟩ := hp
  intro T hT X
  rcases vx_callV X hx (C := C) (bytes := bytes) (maxL := maxL) (ret := ret) ho hl hin hse hcode hy hK (by rw [hT]; exact hcB) hoB hclB hg (hsize.trans hml.symm) (argsL := As) (rest := rest) (fun sig h => hn.trans (hlen sig h)) hstack hW (by rw [hb]; exact hdg)
    (fun vm₁ hW₁ => ⟨hf.1, hf.2, hPc (T.setVm vm₁) hT hW₁⟩) with ⟨v, vm₁, ⟨U', l2, c2, s2⟩, hW₁, X', ⟨g', mk, t, L, e1, e2, hq, h1, hL, h2, h3⟩, st⟩ | ⟨q, vm₁, ⟨U', l2, c2, s2⟩, hW₁, X', ⟨g', mk, t, L, E, ce, e1, e2, hq, hce, hcv, hcl, h1, hL, h2, h3⟩, st⟩
  · dsimp only [Pt.U, Pt.locs, Pt.cells, Pt.slots] at X' e1 e2 h1 h2 h3 st
    subst h1; subst h2; subst h3
    exact Or.inl ⟨v, (T.setVm vm₁).calling g' mk (Value.ref b :: As).toArray, t, U', L, hT, X', hL, e1, e2, hq, st⟩
  · dsimp only [Pt.U, Pt.locs, Pt.cells, Pt.slots] at X' e1 e2 h1 h2 h3 st hcl
    subst h1; subst h2; subst h3
    exact Or.inr ⟨q, (T.setVm vm₁).calling g' mk (Value.ref b :: As).toArray, t, U', L, E, ce, hT, X', hL, e1, e2, hq, hce, hcv, vx_cls hW₁ hcl, st⟩
theorem vx_runS (S : CallFix p m c cc nL s args Ts own) (hM : vx_Met l y ws rm Pc Qc XC mc ms free) (cw : CallB R s args own index y bytes maxL ret ws rm mc ms n ∧ (Cond.static y).before args s = true) (hp : PreS s H Pc As)
    (hg : g.method = m) (hn : As.length = n) (hsize : g.locals.size = nL) (hstack : g.stack = As.reverse ++ rest) (hW : 2 * g.monitorRoom + (rest.map fun v => v.category).sum ≤ 8) (hdg : decode cc g.pc = .ok (.invokestatic index, 3)) (hf : cells + mc ≤ R.cells ∧ slots + ms ≤ R.slots) :
    vx_Run p l e R s m args below meth c H locs cells slots mc ms g rest (Qc As.toArray) XC free := by
  have hK : vx_Back l R p e below s args y 3 8 (PreOf R mc ms Pc) (PostOf Qc mc ms free) (vx_Post XC mc ms free) := vx_callBack cw.1 hM hp.1
  obtain ⟨⟨-, -, -, -, -, -, hcode, hini, hy, hlen, hl⟩, hstt⟩ := cw
  obtain ⟨hx, hb, hml, ho, -⟩ := S
  intro T hT X
  rcases vx_callS X hx (bytes := bytes) (maxL := maxL) (ret := ret) ho hl hstt hini hcode hy hK hg (hsize.trans hml.symm) (argsL := As) (rest := rest) (fun sig h => hn.trans (hlen sig h)) hstack hW (by rw [hb]; exact hdg)
    (fun vm₁ hW₁ => ⟨hf.1, hf.2, hp.2 (T.setVm vm₁) hT hW₁⟩) with ⟨v, vm₁, ⟨U', l2, c2, s2⟩, hW₁, X', ⟨g', mk, t, L, e1, e2, hq, h1, hL, h2, h3⟩, st⟩ | ⟨q, vm₁, ⟨U', l2, c2, s2⟩, hW₁, X', ⟨g', mk, t, L, E, ce, e1, e2, hq, hce, hcv, hcl, h1, hL, h2, h3⟩, st⟩
  · dsimp only [Pt.U, Pt.locs, Pt.cells, Pt.slots] at X' e1 e2 h1 h2 h3 st
    subst h1; subst h2; subst h3
    exact Or.inl ⟨v, (T.setVm vm₁).calling g' mk As.toArray, t, U', L, hT, X', hL, e1, e2, hq, st⟩
  · dsimp only [Pt.U, Pt.locs, Pt.cells, Pt.slots] at X' e1 e2 h1 h2 h3 st hcl
    subst h1; subst h2; subst h3
    exact Or.inr ⟨q, (T.setVm vm₁).calling g' mk As.toArray, t, U', L, E, ce, hT, X', hL, e1, e2, hq, hce, hcv, vx_cls hW₁ hcl, st⟩
end Runs
section Rows
variable {p : Program} {l : Launch} {e : Env} {R : Room} {s : State} {m : MethodId} {args : Array Value} {below : List Frame} {meth : Method} {c : Code} {H : Heap} {locs : List Loc} {cells slots : Nat} {Q : State → Prop}
variable {mc ms : Nat} {free : Addr → Prop} {A0 A1 : Nat → Prop} {H0 : Heap} {a : Array Value} {pc : Nat} {ls : Array Slot} {st0 rest : List Value}
theorem vx_keep {st₀ t T' : State} {L : List Loc} (h0 : st₀.heap = H) (e1 : T'.heap = t.heap) (hS : va_S A0 H0 H locs) (hA : ∀ q, q < H.size → A1 q → A0 q) (hf : ∀ q, free q → A0 q) (hL : ∀ q ∈ L, free q.base) (hF : va_F A1 st₀ t) :
    H.size ≤ T'.heap.size ∧ (∀ q : Nat, q < H.size → ¬ A1 q → T'.heap[q]? = H[q]?) ∧ va_S A0 H0 T'.heap (locs ++ L) := by
  obtain ⟨hz, hk⟩ := hF
  rw [h0] at hz hk
  exact ⟨by rw [e1]; exact hz, fun q h1 h2 => by rw [e1]; exact hk q h1 h2,
    ⟨Nat.le_trans hS.1 (by rw [e1]; exact hz), fun q h1 h2 => by rw [e1, hk q (Nat.lt_of_lt_of_le h1 hS.1) (fun z => h2 (hA q (Nat.lt_of_lt_of_le h1 hS.1) z))]; exact hS.2.1 q h1 h2, fun q hq => by
      rcases List.mem_append.mp hq with h | h
      · exact hS.2.2 q h
      · exact hf _ (hL q h)⟩⟩
theorem vx_calli {S SX : Type} {post : Int32 → S → Prop} {px : SX → Prop} {B : S → State → Prop} {BX : String → SX → State → Prop} {AX : Nat → Prop} (hr : vx_Run p l e R s m args below meth c H locs cells slots mc ms (F0 m pc ls st0) rest (va_Qi post B A1 a) (vx_X px BX AX) free) (hS : va_S A0 H0 H locs) (hA : ∀ q, q < H.size → A1 q → A0 q) (hf : ∀ q, free q → A0 q) (hAX : ∀ q, q < H.size → AX q → A0 q)
    (kx : ∀ (E : String) (ce : Cell) (q9 : Addr) (u : SX) (t : State) (H1 : Heap) (locs1 : List Loc), t.heap = H1 → s.vm.Alike t.vm → px u → BX E u t → H.size ≤ H1.size → (∀ q : Nat, q < H.size → ¬ AX q → H1[q]? = H[q]?) → va_S A0 H0 H1 locs1 → H1[q9]? = some ce → ce.vm = .none → s.vm.findClass E = some ce.cls → vx_W p l e R s m args below meth c H1 locs1 (cells + mc) (slots + ms) Q (F0 m pc ls rest) q9)
    (kk : ∀ (r : Int32) (u : S) (t : State) (H1 : Heap) (locs1 : List Loc), t.heap = H1 → s.vm.Alike t.vm → post r u → B u t → H.size ≤ H1.size → (∀ q : Nat, q < H.size → ¬ A1 q → H1[q]? = H[q]?) → va_S A0 H0 H1 locs1 → W p l e R s m args below meth c H1 locs1 (cells + mc) (slots + ms) Q (F0 m (pc + 3) ls (.int r :: rest))) : W p l e R s m args below meth c H locs cells slots Q (F0 m pc ls st0) := by
  intro T hT X
  rcases hr T hT X with ⟨v, st₀, t, T', L, h0, X', hL, e1, e2, ⟨⟨r, u, hv, hp, hb⟩, hF⟩, st⟩ | ⟨q, st₀, t, T', L, E, ce, h0, X', hL, e1, e2, ⟨u, hp, hb, hF⟩, hce, hcv, hcl, st⟩
  · cases hv
    obtain ⟨k1, k2, k3⟩ := vx_keep h0 e1 hS hA hf hL hF
    obtain ⟨t2, a1, b1⟩ := kk r u t T'.heap (locs ++ L) e1.symm (by rw [← e2]; exact X'.warmed.alike) hp hb k1 k2 k3 T' rfl X'
    exact ⟨t2, st t2 a1, b1⟩
  · obtain ⟨k1, k2, k3⟩ := vx_keep h0 e1 hS hAX hf hL hF
    obtain ⟨t2, a1, b1⟩ := kx E ce q u t T'.heap (locs ++ L) e1.symm (by rw [← e2]; exact X'.warmed.alike) hp hb k1 k2 k3 (by rw [e1]; exact hce) hcv hcl T' rfl X'
    exact ⟨t2, st.trans a1, b1⟩
theorem vx_calll {S SX : Type} {post : Int64 → S → Prop} {px : SX → Prop} {B : S → State → Prop} {BX : String → SX → State → Prop} {AX : Nat → Prop} (hr : vx_Run p l e R s m args below meth c H locs cells slots mc ms (F0 m pc ls st0) rest (va_Ql post B A1 a) (vx_X px BX AX) free) (hS : va_S A0 H0 H locs) (hA : ∀ q, q < H.size → A1 q → A0 q) (hf : ∀ q, free q → A0 q) (hAX : ∀ q, q < H.size → AX q → A0 q)
    (kx : ∀ (E : String) (ce : Cell) (q9 : Addr) (u : SX) (t : State) (H1 : Heap) (locs1 : List Loc), t.heap = H1 → s.vm.Alike t.vm → px u → BX E u t → H.size ≤ H1.size → (∀ q : Nat, q < H.size → ¬ AX q → H1[q]? = H[q]?) → va_S A0 H0 H1 locs1 → H1[q9]? = some ce → ce.vm = .none → s.vm.findClass E = some ce.cls → vx_W p l e R s m args below meth c H1 locs1 (cells + mc) (slots + ms) Q (F0 m pc ls rest) q9)
    (kk : ∀ (r : Int64) (u : S) (t : State) (H1 : Heap) (locs1 : List Loc), t.heap = H1 → s.vm.Alike t.vm → post r u → B u t → H.size ≤ H1.size → (∀ q : Nat, q < H.size → ¬ A1 q → H1[q]? = H[q]?) → va_S A0 H0 H1 locs1 → W p l e R s m args below meth c H1 locs1 (cells + mc) (slots + ms) Q (F0 m (pc + 3) ls (.long r :: rest))) : W p l e R s m args below meth c H locs cells slots Q (F0 m pc ls st0) := by
  intro T hT X
  rcases hr T hT X with ⟨v, st₀, t, T', L, h0, X', hL, e1, e2, ⟨⟨r, u, hv, hp, hb⟩, hF⟩, st⟩ | ⟨q, st₀, t, T', L, E, ce, h0, X', hL, e1, e2, ⟨u, hp, hb, hF⟩, hce, hcv, hcl, st⟩
  · cases hv
    obtain ⟨k1, k2, k3⟩ := vx_keep h0 e1 hS hA hf hL hF
    obtain ⟨t2, a1, b1⟩ := kk r u t T'.heap (locs ++ L) e1.symm (by rw [← e2]; exact X'.warmed.alike) hp hb k1 k2 k3 T' rfl X'
    exact ⟨t2, st t2 a1, b1⟩
  · obtain ⟨k1, k2, k3⟩ := vx_keep h0 e1 hS hAX hf hL hF
    obtain ⟨t2, a1, b1⟩ := kx E ce q u t T'.heap (locs ++ L) e1.symm (by rw [← e2]; exact X'.warmed.alike) hp hb k1 k2 k3 (by rw [e1]; exact hce) hcv hcl T' rfl X'
    exact ⟨t2, st.trans a1, b1⟩
theorem vx_callf {S SX : Type} {post : UInt32 → S → Prop} {px : SX → Prop} {B : S → State → Prop} {BX : String → SX → State → Prop} {AX : Nat → Prop} (hr : vx_Run p l e R s m args below meth c H locs cells slots mc ms (F0 m pc ls st0) rest (va_Qf post B A1 a) (vx_X px BX AX) free) (hS : va_S A0 H0 H locs) (hA : ∀ q, q < H.size → A1 q → A0 q) (hf : ∀ q, free q → A0 q) (hAX : ∀ q, q < H.size → AX q → A0 q)
    (kx : ∀ (E : String) (ce : Cell) (q9 : Addr) (u : SX) (t : State) (H1 : Heap) (locs1 : List Loc), t.heap = H1 → s.vm.Alike t.vm → px u → BX E u t → H.size ≤ H1.size → (∀ q : Nat, q < H.size → ¬ AX q → H1[q]? = H[q]?) → va_S A0 H0 H1 locs1 → H1[q9]? = some ce → ce.vm = .none → s.vm.findClass E = some ce.cls → vx_W p l e R s m args below meth c H1 locs1 (cells + mc) (slots + ms) Q (F0 m pc ls rest) q9)
    (kk : ∀ (r : UInt32) (u : S) (t : State) (H1 : Heap) (locs1 : List Loc), t.heap = H1 → s.vm.Alike t.vm → post r u → B u t → H.size ≤ H1.size → (∀ q : Nat, q < H.size → ¬ A1 q → H1[q]? = H[q]?) → va_S A0 H0 H1 locs1 → W p l e R s m args below meth c H1 locs1 (cells + mc) (slots + ms) Q (F0 m (pc + 3) ls (.float r :: rest))) : W p l e R s m args below meth c H locs cells slots Q (F0 m pc ls st0) := by
  intro T hT X
  rcases hr T hT X with ⟨v, st₀, t, T', L, h0, X', hL, e1, e2, ⟨⟨r, u, hv, hp, hb⟩, hF⟩, st⟩ | ⟨q, st₀, t, T', L, E, ce, h0, X', hL, e1, e2, ⟨u, hp, hb, hF⟩, hce, hcv, hcl, st⟩
  · cases hv
    obtain ⟨k1, k2, k3⟩ := vx_keep h0 e1 hS hA hf hL hF
    obtain ⟨t2, a1, b1⟩ := kk r u t T'.heap (locs ++ L) e1.symm (by rw [← e2]; exact X'.warmed.alike) hp hb k1 k2 k3 T' rfl X'
    exact ⟨t2, st t2 a1, b1⟩
  · obtain ⟨k1, k2, k3⟩ := vx_keep h0 e1 hS hAX hf hL hF
    obtain ⟨t2, a1, b1⟩ := kx E ce q u t T'.heap (locs ++ L) e1.symm (by rw [← e2]; exact X'.warmed.alike) hp hb k1 k2 k3 (by rw [e1]; exact hce) hcv hcl T' rfl X'
    exact ⟨t2, st.trans a1, b1⟩
theorem vx_calld {S SX : Type} {post : UInt64 → S → Prop} {px : SX → Prop} {B : S → State → Prop} {BX : String → SX → State → Prop} {AX : Nat → Prop} (hr : vx_Run p l e R s m args below meth c H locs cells slots mc ms (F0 m pc ls st0) rest (va_Qd post B A1 a) (vx_X px BX AX) free) (hS : va_S A0 H0 H locs) (hA : ∀ q, q < H.size → A1 q → A0 q) (hf : ∀ q, free q → A0 q) (hAX : ∀ q, q < H.size → AX q → A0 q)
    (kx : ∀ (E : String) (ce : Cell) (q9 : Addr) (u : SX) (t : State) (H1 : Heap) (locs1 : List Loc), t.heap = H1 → s.vm.Alike t.vm → px u → BX E u t → H.size ≤ H1.size → (∀ q : Nat, q < H.size → ¬ AX q → H1[q]? = H[q]?) → va_S A0 H0 H1 locs1 → H1[q9]? = some ce → ce.vm = .none → s.vm.findClass E = some ce.cls → vx_W p l e R s m args below meth c H1 locs1 (cells + mc) (slots + ms) Q (F0 m pc ls rest) q9)
    (kk : ∀ (r : UInt64) (u : S) (t : State) (H1 : Heap) (locs1 : List Loc), t.heap = H1 → s.vm.Alike t.vm → post r u → B u t → H.size ≤ H1.size → (∀ q : Nat, q < H.size → ¬ A1 q → H1[q]? = H[q]?) → va_S A0 H0 H1 locs1 → W p l e R s m args below meth c H1 locs1 (cells + mc) (slots + ms) Q (F0 m (pc + 3) ls (.double r :: rest))) : W p l e R s m args below meth c H locs cells slots Q (F0 m pc ls st0) := by
  intro T hT X
  rcases hr T hT X with ⟨v, st₀, t, T', L, h0, X', hL, e1, e2, ⟨⟨r, u, hv, hp, hb⟩, hF⟩, st⟩ | ⟨q, st₀, t, T', L, E, ce, h0, X', hL, e1, e2, ⟨u, hp, hb, hF⟩, hce, hcv, hcl, st⟩
  · cases hv
    obtain ⟨k1, k2, k3⟩ := vx_keep h0 e1 hS hA hf hL hF
    obtain ⟨t2, a1, b1⟩ := kk r u t T'.heap (locs ++ L) e1.symm (by rw [← e2]; exact X'.warmed.alike) hp hb k1 k2 k3 T' rfl X'
    exact ⟨t2, st t2 a1, b1⟩
  · obtain ⟨k1, k2, k3⟩ := vx_keep h0 e1 hS hAX hf hL hF
    obtain ⟨t2, a1, b1⟩ := kx E ce q u t T'.heap (locs ++ L) e1.symm (by rw [← e2]; exact X'.warmed.alike) hp hb k1 k2 k3 (by rw [e1]; exact hce) hcv hcl T' rfl X'
    exact ⟨t2, st.trans a1, b1⟩
theorem vx_callv {S SX : Type} {post : S → Prop} {px : SX → Prop} {B : S → State → Prop} {BX : String → SX → State → Prop} {AX : Nat → Prop} (hr : vx_Run p l e R s m args below meth c H locs cells slots mc ms (F0 m pc ls st0) rest (va_Qv post B A1 a) (vx_X px BX AX) free) (hS : va_S A0 H0 H locs) (hA : ∀ q, q < H.size → A1 q → A0 q) (hf : ∀ q, free q → A0 q) (hAX : ∀ q, q < H.size → AX q → A0 q)
    (kx : ∀ (E : String) (ce : Cell) (q9 : Addr) (u : SX) (t : State) (H1 : Heap) (locs1 : List Loc), t.heap = H1 → s.vm.Alike t.vm → px u → BX E u t → H.size ≤ H1.size → (∀ q : Nat, q < H.size → ¬ AX q → H1[q]? = H[q]?) → va_S A0 H0 H1 locs1 → H1[q9]? = some ce → ce.vm = .none → s.vm.findClass E = some ce.cls → vx_W p l e R s m args below meth c H1 locs1 (cells + mc) (slots + ms) Q (F0 m pc ls rest) q9)
    (kk : ∀ (u : S) (t : State) (H1 : Heap) (locs1 : List Loc), t.heap = H1 → s.vm.Alike t.vm → post u → B u t → H.size ≤ H1.size → (∀ q : Nat, q < H.size → ¬ A1 q → H1[q]? = H[q]?) → va_S A0 H0 H1 locs1 → W p l e R s m args below meth c H1 locs1 (cells + mc) (slots + ms) Q (F0 m (pc + 3) ls (rest))) : W p l e R s m args below meth c H locs cells slots Q (F0 m pc ls st0) := by
  intro T hT X
  rcases hr T hT X with ⟨v, st₀, t, T', L, h0, X', hL, e1, e2, ⟨⟨u, hv, hp, hb⟩, hF⟩, st⟩ | ⟨q, st₀, t, T', L, E, ce, h0, X', hL, e1, e2, ⟨u, hp, hb, hF⟩, hce, hcv, hcl, st⟩
  · cases hv
    obtain ⟨k1, k2, k3⟩ := vx_keep h0 e1 hS hA hf hL hF
    obtain ⟨t2, a1, b1⟩ := kk u t T'.heap (locs ++ L) e1.symm (by rw [← e2]; exact X'.warmed.alike) hp hb k1 k2 k3 T' rfl X'
    exact ⟨t2, st t2 a1, b1⟩
  · obtain ⟨k1, k2, k3⟩ := vx_keep h0 e1 hS hAX hf hL hF
    obtain ⟨t2, a1, b1⟩ := kx E ce q u t T'.heap (locs ++ L) e1.symm (by rw [← e2]; exact X'.warmed.alike) hp hb k1 k2 k3 (by rw [e1]; exact hce) hcv hcl T' rfl X'
    exact ⟨t2, st.trans a1, b1⟩
/-- caught by the row x of this method's table; the rows ahead don't take it -/
theorem vx_catch {own name : String} {E : String} {ce : Cell} {q : Addr} (hown : s.vm.findClass own = some m.cls) (pre : List ExceptionTableEntry) (x : ExceptionTableEntry) (suf : List ExceptionTableEntry) (hsplit : c.exceptionTable.toList = pre ++ x :: suf)
    (hpass : ∀ z ∈ pre, covers z pc = false ∨ (z.catchType ≠ 0 ∧ ∃ nm : String, (Cond.classLink own z.catchType nm).before args s = true ∧ va_Nc E nm s)) (hx : covers x pc = true) (h0 : x.catchType ≠ 0)
    (hlink : (Cond.classLink own x.catchType name).before args s = true) (hcast : (Cond.castable E name).before args s = true) (hcell : H[q]? = some ce) (hv : ce.vm = .none) (hcl : s.vm.findClass E = some ce.cls)
    (kk : W p l e R s m args below meth c H locs cells slots Q (F0 m x.handlerPc ls [.ref q])) : vx_W p l e R s m args below meth c H locs cells slots Q (F0 m pc ls rest) q := by
  intro T hT X
  have hpl : e.platform.magicAccessors = ({} : Platform).magicAccessors := by rw [X.admits.platform]
  obtain ⟨c3, c4, hc3, hc4, hasg⟩ := Cond.castable_spec hcast
  cases Option.some.inj (hc3.symm.trans hcl)
  obtain ⟨c5, hc5, hcl5⟩ := Cond.classLink_spec hown hlink e.platform hpl
  cases Option.some.inj (hc4.symm.trans hc5)
  obtain ⟨vm', X', st⟩ := X.thenCaughtThrough q (g := F0 m pc ls rest) rfl (Steps.refl _) (by rw [hT]; exact hcell) (by rw [hv]; rfl) (by obtain ⟨k9, h9, -⟩ := Vm.findClass_spec hcl; exact ⟨k9, h9⟩) pre x suf hsplit
    (fun z hz => by
      rcases hpass z hz with h | ⟨hz0, nm, hl1, hn1⟩
      · exact Or.inl h
      · obtain ⟨c6, hc6, hcl6⟩ := Cond.classLink_spec hown hl1 e.platform hpl
        obtain ⟨a8, b8, h1, h2, h3⟩ := hn1
        cases Option.some.inj (h1.symm.trans hcl)
        cases Option.some.inj (h2.symm.trans hc6)
        exact Or.inr ⟨hz0, _, hcl6, h3⟩) hx (Or.inr ⟨h0, c4, hcl5, hasg⟩)
  obtain ⟨t, a1, b1⟩ := kk (T.setVm vm') hT X'
  exact ⟨t, st.trans a1, b1⟩
end Rows
section Ends
variable {p : Program} {l : Launch} {e : Env} {R : Room} {s : State} {m : MethodId} {args : Array Value} {below : List Frame} {meth : Method} {c : Code} {H : Heap} {locs : List Loc} {cells slots : Nat} {Q : State → Prop}
variable {mc ms : Nat} {free : Addr → Prop} {A0 A1 : Nat → Prop} {H0 : Heap} {a : Array Value} {ls : Array Slot} {st0 rest : List Value}
variable {Qc : Array Value → State → Outcome → State → Prop} {XC : String → State → State → Prop}
/-- what a body that may throw owes at its end -/
def vx_MQ (below : List Frame) (Qc : Array Value → State → Outcome → State → Prop) (XC : String → State → State → Prop) (a : Array Value) (s : State) (mc ms : Nat) (free : Addr → Prop) : State → Prop := fun t =>
  ∃ o, t.status = .running ∧ Ended t below o ∧ vx_Q Qc XC mc ms free a s o t
theorem vx_ret {g : JFrame} {mc ms : Nat} (k : W p l e R s m args below meth c H locs cells slots (MQ below Qc args s mc ms free) g) : W p l e R s m args below meth c H locs cells slots (vx_MQ below Qc XC args s mc ms free) g := by
  intro T hT X
  obtain ⟨t, a1, o, b1, b2, b3, b4⟩ := k T hT X
  exact ⟨t, a1, o, b1, b2, Or.inl ⟨b3, b4⟩⟩
/-- not caught here: it goes on to the caller -/
theorem vx_widen {g : JFrame} {q : Addr} {k n : Nat} (h1 : cells ≤ k) (h2 : slots ≤ n) (kk : vx_W p l e R s m args below meth c H locs k n Q g q) : vx_W p l e R s m args below meth c H locs cells slots Q g q := fun T hT X => kk T hT (stand_widen X h1 h2)
theorem vx_out {pc : Nat} {E : String} {ce : Cell} {q : Addr} {mc ms : Nat} (hout : ∀ x ∈ c.exceptionTable.toList, covers x pc = false) (hlocks : meth.locks = false) (hcell : H[q]? = some ce) (hv : ce.vm = .none) (hcl : s.vm.findClass E = some ce.cls)
    (hx : ∀ t : State, t.heap = H → s.vm.Alike t.vm → XC E s t) (hf : ∀ z ∈ locs, free z.base) (hc : cells ≤ mc) (hs : slots ≤ ms) :
    vx_W p l e R s m args below meth c H locs cells slots (vx_MQ below Qc XC args s mc ms free) (F0 m pc ls rest) q := by
  intro T hT X
  obtain ⟨st1, hrun, hend, hW, hsm⟩ := X.leaveThrown q (g := F0 m pc ls rest) rfl rfl rfl hout hlocks
  have hcell9 : (T.setFrames (.throwing q :: below)).heap[q]? = some ce := by
    show T.heap[q]? = some ce
    rw [hT]; exact hcell
  exact ⟨_, st1, .threw q, hrun, hend, Or.inr ⟨q, rfl, E, ce, locs, hx _ hT hW.alike, hcell9, hv, hcl, hW, hsm.mono hc hs, hf⟩⟩
theorem vx_frame {U : State} {k n : Nat} (h : s.sameButNew ({ U with vm := s.vm } : State) locs k n) : s.heap.size ≤ U.heap.size ∧ ∀ q : Nat, q < s.heap.size → (∀ z ∈ locs, z.base ≠ q) → U.heap[q]? = s.heap[q]? := by
  obtain ⟨-, h2, -, -, -, h6⟩ := h
  refine ⟨h2, fun q hq hz => ?_⟩
  obtain ⟨c9, e1, e2, e3, e4⟩ := h6 q _ (Array.getElem?_eq_getElem hq)
  have hs : c9.slots = (s.heap[q]).slots := Array.ext_getElem? fun i => e4 i fun hm => hz _ hm rfl
  have h9 : c9 = s.heap[q] := by
    rw [hs] at e2
    exact e2
  have e5 : U.heap[q]? = some c9 := e1
  rw [e5, h9, Array.getElem?_eq_getElem hq]
/-- the words of a throw but the four that speak of the heap -/
def vx_no (w : Cond) : Bool := decide (w ≠ .isRef (.static Bundle.tN "UNASSIGNED_STACK" Bundle.steD)) && decide (w ≠ .isRef (.static Bundle.tN "SUPPRESSED_SENTINEL" Bundle.listD)) && decide (w ≠ .laysStatic Bundle.tN "UNASSIGNED_STACK" Bundle.steD) && decide (w ≠ .laysStatic Bundle.tN "SUPPRESSED_SENTINEL" Bundle.listD)
def vx_at0 (own : String) (ic : Nat) (X : String) (names : List String) : List Cond := (Bundle.ownAtoms0 own ic X names).filter vx_no
def vx_atS (own : String) (ic : Nat) (X : String) (names : List String) : List Cond := (Bundle.ownAtoms own ic X names).filter vx_no
/-- a word that the tables alone decide, or a good one -/
def vx_ot (w : Cond) : Bool := w.onTables || goodWord w
theorem vx_ot_at {args a' : Array Value} {s U : State} {w : Cond} (hW : s.WarmedH U.vm) (hvm : s.vm = U.vm) (hg : vx_ot w = true) (h : w.before args s = true) : w.before a' U = true := by
  simp only [vx_ot, Bool.or_eq_true] at hg
  rcases hg with hg | hg
  · exact va_tabs hg hvm h
  · exact word_at hW (good_of_word hg) h
/-- a list's words: the good ones out of the method's own list, the others by premises of their own -/
theorem vx_hat {args : Array Value} {s : State} {L B : List Cond} (h1 : ∀ w ∈ L.filter goodWord, w.before args s = true) (h2 : ∀ w ∈ L.filter (fun w => !goodWord w), w ∈ B) (h3 : ∀ w ∈ B, w.before args s = true) : ∀ w ∈ L, w.before args s = true := by
  intro w hw
  by_cases g : goodWord w = true
  · exact h1 w (List.mem_filter.mpr ⟨hw, g⟩)
  · refine h3 w (h2 w (List.mem_filter.mpr ⟨hw, ?_⟩))
    show (!goodWord w) = true
    cases hgw : goodWord w
    · rfl
    · exact absurd hgw g
theorem vx_c {args : Array Value} {s : State} {w : Cond} {B : List Cond} (h : w.before args s = true) (t : ∀ w ∈ B, w.before args s = true) : ∀ w' ∈ w :: B, w'.before args s = true := fun w' h' => (List.mem_cons.mp h').elim (fun e => by rw [e]; exact h) (t w')
theorem vx_n {args : Array Value} {s : State} : ∀ w ∈ ([] : List Cond), w.before args s = true := fun _ h => nomatch h
theorem vx_own {args : Array Value} {s : State} {L : List Cond} (h1 : ∀ w ∈ L.filter vx_no, w.before args s = true)
    (hU : (Cond.isRef (.static Bundle.tN "UNASSIGNED_STACK" Bundle.steD)).before args s = true) (hN : (Cond.isRef (.static Bundle.tN "SUPPRESSED_SENTINEL" Bundle.listD)).before args s = true)
    (lU : (Cond.laysStatic Bundle.tN "UNASSIGNED_STACK" Bundle.steD).before args s = true) (lN : (Cond.laysStatic Bundle.tN "SUPPRESSED_SENTINEL" Bundle.listD).before args s = true) : ∀ w ∈ L, w.before args s = true := by
  intro w hw
  by_cases e1 : w = .isRef (.static Bundle.tN "UNASSIGNED_STACK" Bundle.steD)
  · rw [e1]; exact hU
  · by_cases e2 : w = .isRef (.static Bundle.tN "SUPPRESSED_SENTINEL" Bundle.listD)
    · rw [e2]; exact hN
    · by_cases e3 : w = .laysStatic Bundle.tN "UNASSIGNED_STACK" Bundle.steD
      · rw [e3]; exact lU
      · by_cases e4 : w = .laysStatic Bundle.tN "SUPPRESSED_SENTINEL" Bundle.listD
        · rw [e4]; exact lN
        · exact h1 w (List.mem_filter.mpr ⟨hw, by unfold vx_no; rw [decide_eq_true e1, decide_eq_true e2, decide_eq_true e3, decide_eq_true e4]; rfl⟩)
/-- where a static field lies, its class's statics cell in H -/
def vx_L (C n d : String) (A : Nat → Prop) (U : State) (H : Heap) : Prop := ∃ (c : ClassId) (k : Class) (i : Nat) (f : Field) (a : Nat) (cell : Cell), U.vm.findClass C = some c ∧ U.fieldFound? C n d = some (c, k, i, f) ∧ f.isStatic = true ∧ k.statics = some a ∧ H[a]? = some cell ∧ cell.vm.isStatics = true ∧ cell.cls = c ∧ f.slot < cell.slots.size ∧ k.staticTypes[f.slot]? = some f.type ∧ ¬ A a
theorem vx_L.moved {C n d : String} {A : Nat → Prop} {u U : State} {H : Heap} (hvm : u.vm.Alike U.vm) (h : vx_L C n d A u H) : vx_L C n d A U H := by
  obtain ⟨c, k, i, f, a, cell, h1, h2, h3, h4, h5, h6, h7, h8, h9, h10⟩ := h
  obtain ⟨k', hi', he⟩ := State.fieldFound?_setVm hvm h2
  exact ⟨c, k', i, f, a, cell, by rw [hvm.findClass]; exact h1, hi', h3, by rw [he]; exact h4, h5, h6, h7, h8, by rw [he]; exact h9, h10⟩
theorem vx_L.kept {C n d : String} {A : Nat → Prop} {U : State} {H H1 : Heap} (h : vx_L C n d A U H) (hq : ∀ a : Nat, a < H.size → ¬ A a → H1[a]? = H[a]?) : vx_L C n d A U H1 := by
  obtain ⟨c, k, i, f, a, cell, h1, h2, h3, h4, h5, h6, h7, h8, h9, h10⟩ := h
  exact ⟨c, k, i, f, a, cell, h1, h2, h3, h4, by rw [hq a (Array.getElem?_eq_some_iff.mp h5).1 h10]; exact h5, h6, h7, h8, h9, h10⟩
theorem vx_L.narrow {C n d : String} {A B : Nat → Prop} {U : State} {H : Heap} (h : vx_L C n d A U H) (hAB : ∀ q, B q → A q) : vx_L C n d B U H := by
  obtain ⟨c, k, i, f, a, cell, h1, h2, h3, h4, h5, h6, h7, h8, h9, h10⟩ := h
  exact ⟨c, k, i, f, a, cell, h1, h2, h3, h4, h5, h6, h7, h8, h9, fun z => h10 (hAB _ z)⟩
theorem vx_L.word {C n d : String} {A : Nat → Prop} {s : State} {args : Array Value} (h : vx_L C n d A s s.heap) : (Cond.laysStatic C n d).before args s = true := by
  obtain ⟨c, k, i, f, a, cell, h1, h2, h3, h4, h5, h6, h7, h8, h9, -⟩ := h
  show (Cond.laysStatic C n d).holds args s none s [] = true
  exact Cond.laysStatic_of h1 h2 h3 h4 h5 h6 h7 h8 h9
/-- .. and what it holds: null or some reference -/
def vx_Zq (C n d : String) (A : Nat → Prop) (U : State) (H : Heap) : Prop := va_Zq C n d A U H ∧ vx_L C n d A U H
theorem vx_Zq.moved {C n d : String} {A : Nat → Prop} {u U : State} {H : Heap} (hvm : u.vm.Alike U.vm) (h : vx_Zq C n d A u H) : vx_Zq C n d A U H := ⟨va_Zq.moved hvm h.1, vx_L.moved hvm h.2⟩
theorem vx_Zq.kept {C n d : String} {A : Nat → Prop} {U : State} {H H1 : Heap} (h : vx_Zq C n d A U H) (hq : ∀ a : Nat, a < H.size → ¬ A a → H1[a]? = H[a]?) : vx_Zq C n d A U H1 := ⟨va_Zq.kept h.1 hq, vx_L.kept h.2 hq⟩
theorem vx_Zq.narrow {C n d : String} {A B : Nat → Prop} {U : State} {H : Heap} (h : vx_Zq C n d A U H) (hAB : ∀ q, B q → A q) : vx_Zq C n d B U H := ⟨va_Zq.narrow h.1 hAB, vx_L.narrow h.2 hAB⟩
theorem vx_Zqof {args : Array Value} {s : State} {C n d : String} {A : Nat → Prop} (hl : (Cond.laysStatic C n d).before args s = true) (hini : (Cond.initialized C).before args s = true) (h : (Cond.isRef (.static C n d)).before args s = true) (hA : ∀ a : Nat, a < s.heap.size → ¬ A a) : vx_Zq C n d A s s.heap := by
  refine ⟨va_Zqof hl hini h hA, ?_⟩
  obtain ⟨c, k, i, f, a, cell, h1, h2, h3, h4, h5, h6, h7, h8, h9⟩ := Cond.laysStatic_spec hl
  exact ⟨c, k, i, f, a, cell, h1, h2, h3, h4, h5, h6, h7, h8, h9, hA a (Array.getElem?_eq_some_iff.mp h5).1⟩
theorem vx_isRef {C n d : String} {v : Value} {A : Nat → Prop} {s : State} {args : Array Value} (h : va_Z C n d v A s s.heap) (hv : v.isRef = true) : (Cond.isRef (.static C n d)).before args s = true := by
  obtain ⟨cf, kf, fi, f, a, cell, h1, h2, h3, h4, h5, h6, h7, -⟩ := h
  have he : (Term.static C n d).eval args s none [] s = some v := by
    simp [Term.eval, State.fieldNamed?, h1, h2, h4, h5, h6, h7]
  simp only [Cond.before, Cond.holds, Cond.value, he]
  cases v <;> simp_all [Value.isRef]
theorem vx_isRefq {C n d : String} {A : Nat → Prop} {s : State} {args : Array Value} (h : va_Zq C n d A s s.heap) : (Cond.isRef (.static C n d)).before args s = true := by
  rcases h with h | ⟨t, h⟩
  · exact vx_isRef h rfl
  · exact vx_isRef h rfl
/-- the same frame, seen from here: as if the method were called anew in this heap -/
theorem vx_rebase {T : State} (X : Stand p l e R s m args below meth c T locs cells slots) {R' : Room} (hf : R'.frames ≤ R.frames) (hl : R'.locals ≤ R.locals) (hc : cells + R'.cells ≤ R.cells) (hs : slots + R'.slots ≤ R.slots) :
    Stand p l e R' ((T.setVm s.vm).setFrames (.invoking m args :: below)) m args below meth c T [] 0 0 := by
  have htop : (T.setVm s.vm).topJava?.isSome := X.here.top
  have hF : ((T.setVm s.vm).setFrames (.invoking m args :: below)).frames = .invoking m args :: below := State.frames_setFrames _ (State.cur_lt_of_top htop)
  obtain ⟨g₀, hg0⟩ := Option.isSome_iff_exists.mp htop
  obtain ⟨r, hr⟩ := State.topJava?_eq_some.mp hg0
  have hl9 : e.platform.stackLimits (T.setVm s.vm).me = e.platform.stackLimits s.me := X.limits
  have hb9 : (T.setVm s.vm).me.stackBytes = s.me.stackBytes := X.bytes
  refine ⟨X.admits, X.cas, X.clock, hF, ?_, X.hears, X.method, X.code, X.here, X.tail, X.warmed, ?_, ?_, ?_⟩
  · have h := X.room
    have hU : ((T.setVm s.vm).setFrames (.invoking m args :: below)).localsInUse = s.localsInUse := by
      rw [State.localsInUse_invoking hF (meth := meth) (c := c) X.method X.code, State.localsInUse_invoking X.frames X.method X.code]
    simp only [State.hasRoom, Bool.and_eq_true, decide_eq_true_eq] at h ⊢
    obtain ⟨⟨⟨⟨h1, h2, h3, h4, h5, h6⟩, h7⟩, h8⟩, h9⟩ := h
    rw [X.frames, List.length_cons] at h2 h3
    have q1 := X.heapSize
    have q2 := X.used
    simp only [hF, hU, List.length_cons, State.stackLimits_setFrames, State.stackBytes_setFrames, hl9, hb9]
    refine ⟨⟨⟨⟨by omega, by omega, by omega, by omega, by omega, h6⟩, ?_⟩, ?_⟩, X.book⟩
    · show T.heap.size + R'.cells ≤ e.platform.maxCells
      omega
    · show T.slotsUsed + R'.slots ≤ e.platform.maxSlots
      omega
  · rw [State.stackLimits_setFrames]; rfl
  · rw [State.stackBytes_setFrames]; rfl
  · refine ⟨?_, Nat.le_refl _, Nat.le_refl _, ?_, ?_, fun a c9 h9 => ⟨c9, h9, rfl, rfl, fun _ _ => rfl⟩⟩
    · obtain ⟨t, ht, -⟩ := State.frames_cons hr
      show T.setVm s.vm = { ((T.setVm s.vm).setFrames (.invoking m args :: below)).setFrames (T.setVm s.vm).frames with heap := T.heap, slotsUsed := T.slotsUsed }
      rw [State.setFrames_setFrames, State.setFrames_self ht]
      rfl
    · show T.slotsUsed = T.slotsUsed + ((T.heap.toList.drop T.heap.size).map (·.slots.size)).sum
      rw [List.drop_eq_nil_of_le (Nat.le_of_eq Array.length_toList)]
      rfl
    · show ((T.heap.toList.drop T.heap.size).map (·.slots.size)).sum ≤ 0
      rw [List.drop_eq_nil_of_le (Nat.le_of_eq Array.length_toList)]
      exact Nat.le_refl _
/-- 'throw new E()': new; dup; invokespecial; athrow -/
theorem vx_throw0 {cc : ByteArray} {pc : Nat} (hexec : p.tables.exec = Jvm.exec) (hb : c.code = cc) (hl : l.stackTraces = false) {own cls : String} {names : List String} {ik ic mc ms : Nat} {A : Nat → Prop}
    (hown : s.vm.findClass own = some m.cls) (hcls : Bundle.fit cls = true) (hnames : ∀ n ∈ names, Bundle.fit n = true)
    (hk : (Cond.classLink own ik cls).before args s = true) (hini : (Cond.initialized cls).before args s = true) (hat : ∀ w ∈ vx_at0 own ic cls names, w.before args s = true)
    (hgood : ∀ w ∈ Cond.classLink own ik cls :: Cond.initialized cls :: vx_at0 own ic cls names, vx_ot w = true)
    (hU : vx_Zq Bundle.tN "UNASSIGNED_STACK" Bundle.steD A s s.heap) (hN : vx_Zq Bundle.tN "SUPPRESSED_SENTINEL" Bundle.listD A s s.heap) (hS : va_S A s.heap H locs) (hsize : ls.size = c.maxLocals)
    (d0 : decode cc pc = .ok (.new ik, 3)) (d3 : decode cc (pc + 3) = .ok (.dup, 1)) (d4 : decode cc (pc + 4) = .ok (.invokespecial ic, 3)) (d7 : decode cc (pc + 7) = .ok (.athrow, 1))
    (hout : ∀ x ∈ c.exceptionTable.toList, covers x (pc + 7) = false)
    (hRframes : names.length + 3 < R.frames) (hRlocals : (rest.map fun v => v.category).sum + (13 * (names.length + 1) + 42) ≤ R.locals) (hRcells : cells + 1 ≤ R.cells) (hRslots : slots + 6 ≤ R.slots) (hlocks : meth.locks = false)
    (hx : ∀ t : State, s.vm.Alike t.vm → H.size ≤ t.heap.size → (∀ q : Nat, q < H.size → t.heap[q]? = H[q]?) → XC cls s t)
    (hf : ∀ z ∈ locs, free z.base) (hc : cells + 1 ≤ mc) (hs : slots + 6 ≤ ms) :
    W p l e R s m args below meth c H locs cells slots (vx_MQ below Qc XC args s mc ms free) (F0 m pc ls rest) := by
  intro T hT X
  have htr : e.platform.stackTraces = false := (show e.platform.stackTraces = l.stackTraces by rw [X.admits.platform]).trans hl
  have Y := vx_rebase X (R' := { frames := R.frames, locals := R.locals, cells := 1, slots := 6 }) (Nat.le_refl _) (Nat.le_refl _) hRcells hRslots
  obtain ⟨s', hA⟩ : ∃ z, z = (T.setVm s.vm).setFrames (.invoking m args :: below) := ⟨_, rfl⟩
  rw [← hA] at Y
  have hvm : s'.vm = s.vm := by rw [hA]; rfl
  have hhp : s'.heap = H := by rw [hA]; exact hT
  have hW0 : s.WarmedH s'.vm := by rw [hvm]; exact State.WarmedH.refl s
  have hat' : ∀ w ∈ vx_at0 own ic cls names, w.before args s' = true := fun w hw => vx_ot_at hW0 hvm.symm (hgood w (List.mem_cons_of_mem _ (List.mem_cons_of_mem _ hw))) (hat w hw)
  have hk' : (Cond.classLink own ik cls).before args s' = true := vx_ot_at hW0 hvm.symm (hgood _ List.mem_cons_self) hk
  have hini' : (Cond.initialized cls).before args s' = true := vx_ot_at hW0 hvm.symm (hgood _ (List.mem_cons_of_mem _ List.mem_cons_self)) hini
  have hU' : vx_Zq Bundle.tN "UNASSIGNED_STACK" Bundle.steD A s' s'.heap := by rw [hhp]; exact vx_Zq.moved hW0.alike (hU.kept hS.2.1)
  have hN' : vx_Zq Bundle.tN "SUPPRESSED_SENTINEL" Bundle.listD A s' s'.heap := by rw [hhp]; exact vx_Zq.moved hW0.alike (hN.kept hS.2.1)
  have h : ∀ w ∈ Bundle.ownAtoms0 own ic cls names, w.before args s' = true := vx_own hat' (vx_isRefq hU'.1) (vx_isRefq hN'.1) hU'.2.word hN'.2.word
  have hown' : s'.vm.findClass own = some m.cls := by rw [hvm]; exact hown
  have hins : (Cond.instantiable cls 6).before args s' = true := h _ (by simp [Bundle.ownAtoms0])
  obtain ⟨vm₁, cX, kX, hfX, hkX, -, -, X₁, st1⟩ := Y.newCold hexec (own := own) (C := cls) (index := ik) (n := 6) hown' hk' hins hini'
    (g := F0 m pc ls rest) rfl (by rw [hb]; exact d0) (Nat.le_refl _) (Nat.le_refl _)
  generalize hT1 : (T.setVm vm₁).pushCell { cls := cX, slots := kX.instanceTypes.map defaultValue, vm := .none } = T1 at X₁ st1
  have hcat : (Value.ref T.heap.size).category = 1 := rfl
  have hcellA : T1.heap[T.heap.size]? = some (freshCell cX kX) := by rw [← hT1]; exact State.heap_pushCell_size _ _
  have d3' : decode c.code (pc + 3) = .ok (.dup, 1) := by rw [hb]; exact d3
  obtain ⟨U, hsteps, hrun, hend, hW, hsame, ce, hce, hO⟩ := X₁.ctorThrow0 hexec htr (own := own) (cls := cls) (names := names) (ic := ic) hown' hcls hnames h (fun x hx => nomatch hx) hfX hkX hcellA (by rw [hhp, hT]; exact Nat.le_refl _)
    (g := { method := m, pc := pc + 4, locals := ls, stack := .ref T.heap.size :: .ref T.heap.size :: rest, locked := none }) rfl hsize rfl rfl (rest := rest) rfl
    (by rw [hb]; exact d4) (by rw [hb]; exact d7) hout hRframes (by simp only [List.map_cons, List.sum_cons, hcat]; omega) hlocks
  obtain ⟨f1, f2⟩ := vx_frame hsame
  rw [hhp] at f1 f2
  have hWs : s.WarmedH U.vm := State.WarmedH.trans hW0 hW
  have hcl : s.vm.findClass cls = some ce.cls := by
    have h9 := hO.cls
    rw [hvm] at h9
    exact h9
  have hall : s.sameButNew ({ U with vm := s.vm } : State) locs mc ms := by
    subst hA
    obtain ⟨e1, e2⟩ := hsame
    rw [State.setFrames_setFrames] at e1
    have h2 : (T.setVm s.vm).sameButNew ({ U with vm := s.vm } : State) [] (0 + 1) (0 + 6) := ⟨e1, e2⟩
    have h3 := X.same.trans h2
    rw [List.append_nil] at h3
    exact h3.mono hc hs
  refine ⟨U, ?_, .threw T.heap.size, hrun, hend, Or.inr ⟨T.heap.size, rfl, cls, ce, locs, hx U hWs.alike f1 (fun q hq => f2 q hq (fun z hz => nomatch hz)), hce, hO.vm, hcl, hWs, hall, hf⟩⟩
  refine st1 _ ?_
  show Steps p.tables e below (T1.setTop { method := m, pc := pc + 3, locals := ls, stack := .ref T.heap.size :: rest, locked := none }) _
  jvm_step X₁.here [X₁.here.top, hexec, d3', Value.category]
  exact hsteps
/-- 'throw new E("text")': new; dup; ldc; invokespecial; athrow -/
theorem vx_throwS {cc : ByteArray} {pc : Nat} (hexec : p.tables.exec = Jvm.exec) (hb : c.code = cc) (hl : l.stackTraces = false) {own cls text : String} {names : List String} {ik is ic mc ms sa : Nat} {A : Nat → Prop}
    (hown : s.vm.findClass own = some m.cls) (hcls : Bundle.fit cls = true) (hnames : ∀ n ∈ names, Bundle.fit n = true)
    (hk : (Cond.classLink own ik cls).before args s = true) (hini : (Cond.initialized cls).before args s = true) (hstr : vk_R own is text sa s) (hat : ∀ w ∈ vx_atS own ic cls names, w.before args s = true)
    (hgood : ∀ w ∈ Cond.classLink own ik cls :: Cond.initialized cls :: vx_atS own ic cls names, vx_ot w = true)
    (hU : vx_Zq Bundle.tN "UNASSIGNED_STACK" Bundle.steD A s s.heap) (hN : vx_Zq Bundle.tN "SUPPRESSED_SENTINEL" Bundle.listD A s s.heap) (hS : va_S A s.heap H locs) (hsize : ls.size = c.maxLocals)
    (d0 : decode cc pc = .ok (.new ik, 3)) (d3 : decode cc (pc + 3) = .ok (.dup, 1)) (d4 : decode cc (pc + 4) = .ok (.ldc is, 2)) (d6 : decode cc (pc + 6) = .ok (.invokespecial ic, 3)) (d9 : decode cc (pc + 9) = .ok (.athrow, 1))
    (hout : ∀ x ∈ c.exceptionTable.toList, covers x (pc + 9) = false)
    (hRframes : names.length + 3 < R.frames) (hRlocals : (rest.map fun v => v.category).sum + (13 * (names.length + 1) + 43) ≤ R.locals) (hRcells : cells + 1 ≤ R.cells) (hRslots : slots + 6 ≤ R.slots) (hlocks : meth.locks = false)
    (hx : ∀ t : State, s.vm.Alike t.vm → H.size ≤ t.heap.size → (∀ q : Nat, q < H.size → t.heap[q]? = H[q]?) → XC cls s t)
    (hf : ∀ z ∈ locs, free z.base) (hc : cells + 1 ≤ mc) (hs : slots + 6 ≤ ms) :
    W p l e R s m args below meth c H locs cells slots (vx_MQ below Qc XC args s mc ms free) (F0 m pc ls rest) := by
  intro T hT X
  have htr : e.platform.stackTraces = false := (show e.platform.stackTraces = l.stackTraces by rw [X.admits.platform]).trans hl
  have Y := vx_rebase X (R' := { frames := R.frames, locals := R.locals, cells := 1, slots := 6 }) (Nat.le_refl _) (Nat.le_refl _) hRcells hRslots
  obtain ⟨s', hA⟩ : ∃ z, z = (T.setVm s.vm).setFrames (.invoking m args :: below) := ⟨_, rfl⟩
  rw [← hA] at Y
  have hvm : s'.vm = s.vm := by rw [hA]; rfl
  have hhp : s'.heap = H := by rw [hA]; exact hT
  have hW0 : s.WarmedH s'.vm := by rw [hvm]; exact State.WarmedH.refl s
  have hat' : ∀ w ∈ vx_atS own ic cls names, w.before args s' = true := fun w hw => vx_ot_at hW0 hvm.symm (hgood w (List.mem_cons_of_mem _ (List.mem_cons_of_mem _ hw))) (hat w hw)
  have hk' : (Cond.classLink own ik cls).before args s' = true := vx_ot_at hW0 hvm.symm (hgood _ List.mem_cons_self) hk
  have hini' : (Cond.initialized cls).before args s' = true := vx_ot_at hW0 hvm.symm (hgood _ (List.mem_cons_of_mem _ List.mem_cons_self)) hini
  have hU' : vx_Zq Bundle.tN "UNASSIGNED_STACK" Bundle.steD A s' s'.heap := by rw [hhp]; exact vx_Zq.moved hW0.alike (hU.kept hS.2.1)
  have hN' : vx_Zq Bundle.tN "SUPPRESSED_SENTINEL" Bundle.listD A s' s'.heap := by rw [hhp]; exact vx_Zq.moved hW0.alike (hN.kept hS.2.1)
  have h : ∀ w ∈ Bundle.ownAtoms own ic cls names, w.before args s' = true := vx_own hat' (vx_isRefq hU'.1) (vx_isRefq hN'.1) hU'.2.word hN'.2.word
  have hown' : s'.vm.findClass own = some m.cls := by rw [hvm]; exact hown
  have hins : (Cond.instantiable cls 6).before args s' = true := h _ (by simp [Bundle.ownAtoms])
  obtain ⟨vm₁, cX, kX, hfX, hkX, -, -, X₁, st1⟩ := Y.newCold hexec (own := own) (C := cls) (index := ik) (n := 6) hown' hk' hins hini'
    (g := F0 m pc ls rest) rfl (by rw [hb]; exact d0) (Nat.le_refl _) (Nat.le_refl _)
  generalize hT1 : (T.setVm vm₁).pushCell { cls := cX, slots := kX.instanceTypes.map defaultValue, vm := .none } = T1 at X₁ st1
  have hcat : (Value.ref T.heap.size).category = 1 := rfl
  have hcellA : T1.heap[T.heap.size]? = some (freshCell cX kX) := by rw [← hT1]; exact State.heap_pushCell_size _ _
  have d3' : decode c.code (pc + 3) = .ok (.dup, 1) := by rw [hb]; exact d3
  have d4' : decode c.code (pc + 4) = .ok (.ldc is, 2) := by rw [hb]; exact d4
  have hstr' : vk_R own is text sa s' := vk_R.warm hW0 hstr
  obtain ⟨U, hsteps, hrun, hend, hW, hsame, ce, hce, hO⟩ := X₁.ctorThrowS hexec htr (own := own) (cls := cls) (names := names) (ic := ic) hown' hcls hnames h (fun x hx => nomatch hx) hfX hkX hcellA (by rw [hhp, hT]; exact Nat.le_refl _) (msg := .ref sa) rfl
    (g := { method := m, pc := pc + 6, locals := ls, stack := .ref sa :: .ref T.heap.size :: .ref T.heap.size :: rest, locked := none }) rfl hsize rfl rfl (rest := rest) rfl
    (by rw [hb]; exact d6) (by rw [hb]; exact d9) hout hRframes (by simp only [List.map_cons, List.sum_cons, hcat]; omega) hlocks
  obtain ⟨f1, f2⟩ := vx_frame hsame
  rw [hhp] at f1 f2
  have hWs : s.WarmedH U.vm := State.WarmedH.trans hW0 hW
  have hcl : s.vm.findClass cls = some ce.cls := by
    have h9 := hO.cls
    rw [hvm] at h9
    exact h9
  have hall : s.sameButNew ({ U with vm := s.vm } : State) locs mc ms := by
    subst hA
    obtain ⟨e1, e2⟩ := hsame
    rw [State.setFrames_setFrames] at e1
    have h2 : (T.setVm s.vm).sameButNew ({ U with vm := s.vm } : State) [] (0 + 1) (0 + 6) := ⟨e1, e2⟩
    have h3 := X.same.trans h2
    rw [List.append_nil] at h3
    exact h3.mono hc hs
  refine ⟨U, ?_, .threw T.heap.size, hrun, hend, Or.inr ⟨T.heap.size, rfl, cls, ce, locs, hx U hWs.alike f1 (fun q hq => f2 q hq (fun z hz => nomatch hz)), hce, hO.vm, hcl, hWs, hall, hf⟩⟩
  refine st1 _ ?_
  show Steps p.tables e below (T1.setTop { method := m, pc := pc + 3, locals := ls, stack := .ref T.heap.size :: rest, locked := none }) _
  jvm_step X₁.here [X₁.here.top, hexec, d3', Value.category]
  exact X₁.ldcString hexec (own := own) (text := text) (index := is) (a := sa) hown' hstr'.1 hstr'.2
    (g := { method := m, pc := pc + 4, locals := ls, stack := .ref T.heap.size :: .ref T.heap.size :: rest, locked := none }) rfl d4' _ hsteps
/-- 'throw new E("text")', the text by a wide index -/
theorem vx_throwSW {cc : ByteArray} {pc : Nat} (hexec : p.tables.exec = Jvm.exec) (hb : c.code = cc) (hl : l.stackTraces = false) {own cls text : String} {names : List String} {ik is ic mc ms sa : Nat} {A : Nat → Prop}
    (hown : s.vm.findClass own = some m.cls) (hcls : Bundle.fit cls = true) (hnames : ∀ n ∈ names, Bundle.fit n = true)
    (hk : (Cond.classLink own ik cls).before args s = true) (hini : (Cond.initialized cls).before args s = true) (hstr : vk_R own is text sa s) (hat : ∀ w ∈ vx_atS own ic cls names, w.before args s = true)
    (hgood : ∀ w ∈ Cond.classLink own ik cls :: Cond.initialized cls :: vx_atS own ic cls names, vx_ot w = true)
    (hU : vx_Zq Bundle.tN "UNASSIGNED_STACK" Bundle.steD A s s.heap) (hN : vx_Zq Bundle.tN "SUPPRESSED_SENTINEL" Bundle.listD A s s.heap) (hS : va_S A s.heap H locs) (hsize : ls.size = c.maxLocals)
    (d0 : decode cc pc = .ok (.new ik, 3)) (d3 : decode cc (pc + 3) = .ok (.dup, 1)) (d4 : decode cc (pc + 4) = .ok (.ldc_w is, 3)) (d7 : decode cc (pc + 7) = .ok (.invokespecial ic, 3)) (d10 : decode cc (pc + 10) = .ok (.athrow, 1))
    (hout : ∀ x ∈ c.exceptionTable.toList, covers x (pc + 10) = false)
    (hRframes : names.length + 3 < R.frames) (hRlocals : (rest.map fun v => v.category).sum + (13 * (names.length + 1) + 43) ≤ R.locals) (hRcells : cells + 1 ≤ R.cells) (hRslots : slots + 6 ≤ R.slots) (hlocks : meth.locks = false)
    (hx : ∀ t : State, s.vm.Alike t.vm → H.size ≤ t.heap.size → (∀ q : Nat, q < H.size → t.heap[q]? = H[q]?) → XC cls s t)
    (hf : ∀ z ∈ locs, free z.base) (hc : cells + 1 ≤ mc) (hs : slots + 6 ≤ ms) :
    W p l e R s m args below meth c H locs cells slots (vx_MQ below Qc XC args s mc ms free) (F0 m pc ls rest) := by
  intro T hT X
  have htr : e.platform.stackTraces = false := (show e.platform.stackTraces = l.stackTraces by rw [X.admits.platform]).trans hl
  have Y := vx_rebase X (R' := { frames := R.frames, locals := R.locals, cells := 1, slots := 6 }) (Nat.le_refl _) (Nat.le_refl _) hRcells hRslots
  obtain ⟨s', hA⟩ : ∃ z, z = (T.setVm s.vm).setFrames (.invoking m args :: below) := ⟨_, rfl⟩
  rw [← hA] at Y
  have hvm : s'.vm = s.vm := by rw [hA]; rfl
  have hhp : s'.heap = H := by rw [hA]; exact hT
  have hW0 : s.WarmedH s'.vm := by rw [hvm]; exact State.WarmedH.refl s
  have hat' : ∀ w ∈ vx_atS own ic cls names, w.before args s' = true := fun w hw => vx_ot_at hW0 hvm.symm (hgood w (List.mem_cons_of_mem _ (List.mem_cons_of_mem _ hw))) (hat w hw)
  have hk' : (Cond.classLink own ik cls).before args s' = true := vx_ot_at hW0 hvm.symm (hgood _ List.mem_cons_self) hk
  have hini' : (Cond.initialized cls).before args s' = true := vx_ot_at hW0 hvm.symm (hgood _ (List.mem_cons_of_mem _ List.mem_cons_self)) hini
  have hU' : vx_Zq Bundle.tN "UNASSIGNED_STACK" Bundle.steD A s' s'.heap := by rw [hhp]; exact vx_Zq.moved hW0.alike (hU.kept hS.2.1)
  have hN' : vx_Zq Bundle.tN "SUPPRESSED_SENTINEL" Bundle.listD A s' s'.heap := by rw [hhp]; exact vx_Zq.moved hW0.alike (hN.kept hS.2.1)
  have h : ∀ w ∈ Bundle.ownAtoms own ic cls names, w.before args s' = true := vx_own hat' (vx_isRefq hU'.1) (vx_isRefq hN'.1) hU'.2.word hN'.2.word
  have hown' : s'.vm.findClass own = some m.cls := by rw [hvm]; exact hown
  have hins : (Cond.instantiable cls 6).before args s' = true := h _ (by simp [Bundle.ownAtoms])
  obtain ⟨vm₁, cX, kX, hfX, hkX, -, -, X₁, st1⟩ := Y.newCold hexec (own := own) (C := cls) (index := ik) (n := 6) hown' hk' hins hini'
    (g := F0 m pc ls rest) rfl (by rw [hb]; exact d0) (Nat.le_refl _) (Nat.le_refl _)
  generalize hT1 : (T.setVm vm₁).pushCell { cls := cX, slots := kX.instanceTypes.map defaultValue, vm := .none } = T1 at X₁ st1
  have hcat : (Value.ref T.heap.size).category = 1 := rfl
  have hcellA : T1.heap[T.heap.size]? = some (freshCell cX kX) := by rw [← hT1]; exact State.heap_pushCell_size _ _
  have d3' : decode c.code (pc + 3) = .ok (.dup, 1) := by rw [hb]; exact d3
  have d4' : decode c.code (pc + 4) = .ok (.ldc_w is, 3) := by rw [hb]; exact d4
  have hstr' : vk_R own is text sa s' := vk_R.warm hW0 hstr
  obtain ⟨U, hsteps, hrun, hend, hW, hsame, ce, hce, hO⟩ := X₁.ctorThrowS hexec htr (own := own) (cls := cls) (names := names) (ic := ic) hown' hcls hnames h (fun x hx => nomatch hx) hfX hkX hcellA (by rw [hhp, hT]; exact Nat.le_refl _) (msg := .ref sa) rfl
    (g := { method := m, pc := pc + 7, locals := ls, stack := .ref sa :: .ref T.heap.size :: .ref T.heap.size :: rest, locked := none }) rfl hsize rfl rfl (rest := rest) rfl
    (by rw [hb]; exact d7) (by rw [hb]; exact d10) hout hRframes (by simp only [List.map_cons, List.sum_cons, hcat]; omega) hlocks
  obtain ⟨f1, f2⟩ := vx_frame hsame
  rw [hhp] at f1 f2
  have hWs : s.WarmedH U.vm := State.WarmedH.trans hW0 hW
  have hcl : s.vm.findClass cls = some ce.cls := by
    have h9 := hO.cls
    rw [hvm] at h9
    exact h9
  have hall : s.sameButNew ({ U with vm := s.vm } : State) locs mc ms := by
    subst hA
    obtain ⟨e1, e2⟩ := hsame
    rw [State.setFrames_setFrames] at e1
    have h2 : (T.setVm s.vm).sameButNew ({ U with vm := s.vm } : State) [] (0 + 1) (0 + 6) := ⟨e1, e2⟩
    have h3 := X.same.trans h2
    rw [List.append_nil] at h3
    exact h3.mono hc hs
  refine ⟨U, ?_, .threw T.heap.size, hrun, hend, Or.inr ⟨T.heap.size, rfl, cls, ce, locs, hx U hWs.alike f1 (fun q hq => f2 q hq (fun z hz => nomatch hz)), hce, hO.vm, hcl, hWs, hall, hf⟩⟩
  refine st1 _ ?_
  show Steps p.tables e below (T1.setTop { method := m, pc := pc + 3, locals := ls, stack := .ref T.heap.size :: rest, locked := none }) _
  jvm_step X₁.here [X₁.here.top, hexec, d3', Value.category]
  exact X₁.ldcStringW hexec (own := own) (text := text) (index := is) (a := sa) hown' hstr'.1 hstr'.2
    (g := { method := m, pc := pc + 4, locals := ls, stack := .ref T.heap.size :: .ref T.heap.size :: rest, locked := none }) rfl d4' _ hsteps
end Ends
section Bodies
variable {l : Launch}
theorem vx_ofW {y : MethodName} {ws ws' : List Cond} {rm : Room} {Pc : Array Value → State → Prop} {Qc : Array Value → State → Outcome → State → Prop} {XC : String → State → State → Prop} {mc ms : Nat} {free : Addr → Prop} {cc : ByteArray} {maxL : Nat} {ret : Option FieldType}
    (hy : plainName y.cls = true) (hw : ws = Cond.code y cc maxL ret :: ws')
    (body : ∀ p e s m args below meth c s₁, BodyLoose p l y (headSpec ws rm) cc maxL ret e s m args below meth c s₁ → c.maxLocals = maxL → (∀ x ∈ c.exceptionTable.toList, False) → Pc args s →
      W p l e (headSpec ws rm).room s m args below meth c s.heap [] 0 0 (vx_MQ below Qc XC args s mc ms free) (entryFrame m args maxL)) : vx_Met l y ws rm Pc Qc XC mc ms free := by
  refine MetFree.of_bodyS (code := cc) (maxLocals := maxL) (ret := ret) hy ?_ ?_
  · intro args s m h hn
    obtain ⟨meth, c, h1, h2, h3, h4, h5, h6, -, -⟩ := Cond.code_spec hn (atoms_spec (ws := ws) h _ (by rw [hw]; exact List.mem_cons_self))
    exact ⟨meth, c, h1, h2, h3, h4, h5, h6⟩
  · intro p e s m args below meth c s₁ B hml hP _
    have hh0 : s₁.heap = s.heap := by rw [B.state]; rfl
    have ht : ∀ x ∈ c.exceptionTable.toList, False := by
      obtain ⟨meth9, c9, h1, h2, -, -, -, -, h7, -⟩ := Cond.code_spec B.named (atoms_spec (ws := ws) B.pre _ (by rw [hw]; exact List.mem_cons_self))
      cases Option.some.inj (h1.symm.trans B.method)
      cases Option.some.inj (h2.symm.trans (Stand.of_body B).code)
      intro x hx
      rw [Array.isEmpty_iff.mp h7] at hx
      cases hx
    obtain ⟨t, a1, o, b1, b2, b3⟩ := body p e s m args below meth c s₁ B hml ht hP s₁ hh0 (Stand.of_body B)
    exact ⟨t, o, a1, b1, b2, b3⟩
/-- the table of a body with handlers -/
theorem vx_table {p : Program} {x y : MethodName} {S : Spec} {cc bytes : ByteArray} {maxL maxL' : Nat} {ret ret' : Option FieldType} {e : Env} {s s₁ : State} {m : MethodId} {args : Array Value} {below : List Frame} {meth : Method} {c : Code} {hh : List (Nat × Nat × Nat × Nat)}
    (B : BodyLoose p l y S cc maxL ret e s m args below meth c s₁) (h : (Cond.codeWith y bytes maxL' ret' hh).before args s = true) : c.exceptionTable.toList = tableOf hh := by
  obtain ⟨m9, meth9, c9, hn9, h1, h2, -, -, h6, -⟩ := Cond.codeWith_spec h
  cases Option.some.inj (hn9.symm.trans B.named)
  cases Option.some.inj (h1.symm.trans B.method)
  cases Option.some.inj (h2.symm.trans (Stand.of_body B).code)
  rw [← h6, table_eq]
end Bodies
end VXA
/-! ===== END ===== -/
/-! ===== BEGIN a static call of a method with an exception table ===== -/
section VXS
variable {p : Program} {l : Launch} {e : Env} {R : Room} {s : State} {m : MethodId} {args : Array Value} {below : List Frame} {meth : Method} {c : Code} {T : State} {H : Heap} {locs : List Loc} {cells slots : Nat}
abbrev vx_CSW (R : Room) (s : State) (args : Array Value) (own : String) (index : Nat) (y : MethodName) (bytes : ByteArray) (maxL : Nat) (ret : Option FieldType) (hh : List (Nat × Nat × Nat × Nat)) (ws : List Cond) (rm : Room) (mc ms n : Nat) : Prop :=
  (rm.cells = mc ∧ rm.slots = ms ∧ rm.frames + 1 ≤ R.frames ∧ 8 + (maxL + 11) + rm.locals ≤ R.locals ∧ (∀ w ∈ ws, ∀ (a' : Array Value) (U : State), s.WarmedH U.vm → w.before a' U = true) ∧ Cond.codeWith y bytes maxL ret hh ∈ ws) ∧
  (Cond.codeWith y bytes maxL ret hh).before args s = true ∧ (Cond.initialized y.cls).before args s = true ∧ (y.cls ≠ "java/lang/invoke/MethodHandle" ∧ y.cls ≠ "java/lang/invoke/VarHandle") ∧
  (∀ sig, parseMethodDescriptor y.desc = some sig → n = sig.parameters.length) ∧ (Cond.methodLink own index y).before args s = true ∧ (Cond.static y).before args s = true
theorem vx_cwSW {own : String} {index maxL mc ms : Nat} {y : MethodName} {bytes : ByteArray} {ret : Option FieldType} {hh : List (Nat × Nat × Nat × Nat)} {Ts ws ws' : List Cond} {rm : Room} (n : Nat) (ht : ∀ w ∈ Ts, w.before args s = true) (hT : GoodIn Ts (va_wsS own index y ws)) (hw : ws = Cond.codeWith y bytes maxL ret hh :: ws') (hrc : rm.cells = mc) (hrs : rm.slots = ms)
    (hd : y.cls ≠ "java/lang/invoke/MethodHandle" ∧ y.cls ≠ "java/lang/invoke/VarHandle" ∧ (parseMethodDescriptor y.desc).map (fun d => d.parameters.length) = some n) (hR : rm.frames + 1 ≤ R.frames ∧ 8 + (maxL + 11) + rm.locals ≤ R.locals) :
    vx_CSW R s args own index y bytes maxL ret hh ws rm mc ms n := by
  have ok : ∀ w ∈ va_wsS own index y ws, w.before args s = true := fun w h => ht w (hT w h).1
  have hG : GoodIn Ts ws := fun w h => hT w (by unfold va_wsS; exact List.mem_append_right _ h)
  have hc : Cond.codeWith y bytes maxL ret hh ∈ ws := by rw [hw]; exact List.mem_cons_self
  refine ⟨⟨hrc, hrs, hR.1, hR.2, pay_in ht hG, hc⟩, ht _ (hG _ hc).1, ok _ (by simp [va_wsS]), ⟨hd.1, hd.2.1⟩, fun sig h => ?_, ok _ (by simp [va_wsS]), ok _ (by simp [va_wsS])⟩
  have h2 := hd.2.2
  rw [h] at h2
  exact (Option.some.inj h2).symm
theorem vx_callSW (X : Stand p l e R s m args below meth c T locs cells slots) (hexec : p.tables.exec = Jvm.exec) {own : String} {index : Nat} {y : MethodName} {bytes : ByteArray} {maxL : Nat} {ret : Option FieldType} {hh : List (Nat × Nat × Nat × Nat)}
    (hown : s.vm.findClass own = some m.cls) (hlink : (Cond.methodLink own index y).before args s = true) (hstat : (Cond.static y).before args s = true) (hinit : (Cond.initialized y.cls).before args s = true)
    (hcode : (Cond.codeWith y bytes maxL ret hh).before args s = true) (hy : y.cls ≠ "java/lang/invoke/MethodHandle" ∧ y.cls ≠ "java/lang/invoke/VarHandle")
    {W9 : Nat} {Pre : Pt → Array Value → Prop} {Post : Pt → Array Value → Option Value → Pt → Prop} (hK : Back l R p e below s args y 3 W9 Pre Post)
    {g : JFrame} (hg : g.method = m) (hsize : g.locals.size = c.maxLocals) {argsL rest : List Value} (hlen : ∀ sig, parseMethodDescriptor y.desc = some sig → argsL.length = sig.parameters.length)
    (hstack : g.stack = argsL.reverse ++ rest) (hW : 2 * g.monitorRoom + (rest.map fun v => v.category).sum ≤ W9) (hdg : decode c.code g.pc = .ok (.invokestatic index, 3))
    (hpre : ∀ vm₁, s.WarmedH vm₁ → Pre ⟨T.setVm vm₁, locs, cells, slots⟩ argsL.toArray) :
    ∃ (v : Option Value) (vm₁ : Vm) (B : Pt), s.WarmedH vm₁ ∧ Stand p l e R s m args below meth c B.U B.locs B.cells B.slots ∧ Post ⟨T.setVm vm₁, locs, cells, slots⟩ argsL.toArray v B ∧
      ∀ target, Steps p.tables e below (B.U.setTop { g with pc := g.pc + 3, stack := v.toList ++ rest }) target → Steps p.tables e below (T.setTop g) target := by
  obtain ⟨mk, methM, cM, hnamed, hmethM, -, -, -, -, -, -, hsigM⟩ := Cond.codeWith_spec hcode
  have hstatic : methM.isStatic = true := Cond.static_spec hnamed hmethM hstat
  obtain ⟨kP, hkP, -⟩ := className_of_methodNamed hnamed
  have hinitP : kP.init = .initialized := Cond.initialized_spec (findClass_of_methodNamed hnamed) hkP hinit
  obtain ⟨vm₁, X₁, hstep₁⟩ := X.invokestatic hexec hown hlink hnamed hmethM hstatic hkP hinitP hy (g := g) hg (argsL := argsL) (rest := rest) (hlen _ hsigM) hstack hdg
  obtain ⟨v, B, X', hpost, hsteps⟩ := hK m meth c ⟨T.setVm vm₁, locs, cells, slots⟩ { g with stack := rest } (.invokestatic index) mk argsL.toArray X₁ hg hsize hdg hW (X₁.named hnamed) (hpre vm₁ X₁.warmed)
  exact ⟨v, vm₁, B, X₁.warmed, X', hpost, fun target h => hstep₁ _ fun acts => by rw [doInvoke_state]; exact hsteps.trans h⟩
theorem vx_runSW {y : MethodName} {bytes cc : ByteArray} {maxL nL mc ms n index : Nat} {ret : Option FieldType} {hh : List (Nat × Nat × Nat × Nat)} {ws : List Cond} {rm : Room} {Pc : Array Value → State → Prop} {Qc : Array Value → State → Outcome → State → Prop} {free : Addr → Prop} {Ts : List Cond} {own : String} {As rest : List Value} {g : JFrame}
    (S : CallFix p m c cc nL s args Ts own) (hM : Met l y ws rm Pc Qc mc ms free) (cw : vx_CSW R s args own index y bytes maxL ret hh ws rm mc ms n) (hp : PreS s H Pc As)
    (hg : g.method = m) (hn : As.length = n) (hsize : g.locals.size = nL) (hstack : g.stack = As.reverse ++ rest) (hW : 2 * g.monitorRoom + (rest.map fun v => v.category).sum ≤ 8) (hdg : decode cc g.pc = .ok (.invokestatic index, 3)) (hf : cells + mc ≤ R.cells ∧ slots + ms ≤ R.slots) :
    va_Run p l e R s m args below meth c H locs cells slots mc ms g rest (Qc As.toArray) (free) := by
  obtain ⟨⟨hrc, hrs, hfr, hlo, hws, hcw⟩, hcode, hini, hy, hlen, hl, hstt⟩ := cw
  have hK : Back l R p e below s args y 3 8 (PreOf R mc ms Pc) (PostOf Qc mc ms free) := va_backW (hh := hh) (bytes := bytes) (maxL := maxL) (ret := ret) hM hp.1 hrc hrs hfr hlo hws hcw (fun a' U hW => word_at hW (Or.inl (by first | rfl | simp [Cond.onTables, Cond.keeps, Cond.steady])) hini)
  obtain ⟨hx, hb, hml, ho, -⟩ := S
  intro T hT X
  obtain ⟨v, vm₁, ⟨U', l2, c2, s2⟩, hW₁, X', ⟨g', mk, t, L, e1, e2, hq, h1, hL, h2, h3⟩, st⟩ := vx_callSW X hx (hh := hh) (bytes := bytes) (maxL := maxL) (ret := ret) ho hl hstt hini hcode hy hK hg (hsize.trans hml.symm) (argsL := As) (rest := rest) (fun sig h => hn.trans (hlen sig h)) hstack hW (by rw [hb]; exact hdg)
    (fun vm₁ hW₁ => ⟨hf.1, hf.2, hp.2 (T.setVm vm₁) hT hW₁⟩)
  dsimp only [Pt.U, Pt.locs, Pt.cells, Pt.slots] at X' e1 e2 h1 h2 h3 st
  subst h1; subst h2; subst h3
  exact ⟨v, (T.setVm vm₁).calling g' mk As.toArray, t, U', L, hT, X', hL, e1, e2, hq, st⟩
/-- not caught here, past rows that name other classes: it goes on to the caller -/
theorem vx_outP {p : Program} {l : Launch} {e : Env} {R : Room} {s : State} {m : MethodId} {args : Array Value} {below : List Frame} {meth : Method} {c : Code} {H : Heap} {locs : List Loc} {cells slots : Nat} {free : Addr → Prop} {ls : Array Slot} {rest : List Value} {Qc : Array Value → State → Outcome → State → Prop} {XC : String → State → State → Prop}
    {pc : Nat} {own E : String} {ce : Cell} {q : Addr} {mc ms : Nat} (hown : s.vm.findClass own = some m.cls) (hlocks : meth.locks = false)
    (hpass : ∀ z ∈ c.exceptionTable.toList, covers z pc = false ∨ (z.catchType ≠ 0 ∧ ∃ nm : String, (Cond.classLink own z.catchType nm).before args s = true ∧ va_Nc E nm s)) (hcell : H[q]? = some ce) (hv : ce.vm = .none) (hcl : s.vm.findClass E = some ce.cls)
    (hx : ∀ t : State, t.heap = H → s.vm.Alike t.vm → XC E s t) (hf : ∀ z ∈ locs, free z.base) (hc : cells ≤ mc) (hs : slots ≤ ms) :
    vx_W p l e R s m args below meth c H locs cells slots (vx_MQ below Qc XC args s mc ms free) (F0 m pc ls rest) q := by
  intro T hT X
  have hpl : e.platform.magicAccessors = ({} : Platform).magicAccessors := by rw [X.admits.platform]
  obtain ⟨vm', hW', X', st⟩ := X.outThrough hlocks q (g := F0 m pc ls rest) rfl rfl rfl (cell := ce) (by rw [hT]; exact hcell) (by rw [hv]; rfl)
    (by obtain ⟨k9, h9, -⟩ := Vm.findClass_spec hcl; exact ⟨k9, h9⟩) (fun z hz => by
      rcases hpass z hz with h | ⟨hz0, nm, hl1, hn1⟩
      · exact Or.inl h
      · obtain ⟨c6, hc6, hcl6⟩ := Cond.classLink_spec hown hl1 e.platform hpl
        obtain ⟨a8, b8, h1, h2, h3⟩ := hn1
        cases Option.some.inj (h1.symm.trans hcl)
        cases Option.some.inj (h2.symm.trans hc6)
        exact Or.inr ⟨hz0, _, hcl6, h3⟩)
  obtain ⟨g₀, hfr⟩ := X'.frames_eq
  have hcell9 : ((T.setVm vm').setFrames (.throwing q :: below)).heap[q]? = some ce := by
    show T.heap[q]? = some ce
    rw [hT]; exact hcell
  have hend : Ended ((T.setVm vm').setFrames (.throwing q :: below)) below (.threw q) := State.frames_setFrames _ (State.cur_lt_of_frames hfr)
  refine ⟨(T.setVm vm').setFrames (.throwing q :: below), ?_, .threw q, X'.here.running, hend, Or.inr ⟨q, rfl, E, ce, locs, hx _ hT (X'.ends _).1.alike, hcell9, hv, hcl, (X'.ends _).1, (X'.ends _).2.mono hc hs, hf⟩⟩
  rw [X.pushThrowing_eq]
  exact st
/-- a thing of a world lies in the heap -/
theorem vx_lt {D : va_G} {cl : List vw_C} {ws : va_W} {H1 : Heap} (h : va_P D cl ws H1) {k : Nat} {q : Nat × va_E} (hk : ws[k]? = some q) : q.1 < H1.size := (h k q hk).lt
end VXS
/-! ===== END ===== -/
/-! ===== BEGIN methods with a table of their own: called by a name, returning or throwing ===== -/
section VXH
/-! vx_backW, vx_callVX, vx_callSX, vx_callVW, vx_runVW, vx_runVX, vx_runSX, vx_ofWH follow the same proofs as their sisters above (Free/Laws.lean, Shelf42/LK1.lean); vx_outP calls Shelf42/NT130.lean (outThrough). -/
section
variable {l : Launch} {R : Room} {p : Program} {e : Env} {below : List Frame} {s : State} {sargs : Array Value} {y : MethodName} {len W9 : Nat}
theorem vx_backW {ws : List Cond} {rm : Room} {Pc : Array Value → State → Prop} {Qc : Array Value → State → Outcome → State → Prop} {XC : String → State → State → Prop} {mc ms : Nat} {free : Addr → Prop} {bytes : ByteArray} {maxL : Nat} {ret : Option FieldType} {hh : List (Nat × Nat × Nat × Nat)}
    (hM : vx_Met l y ws rm Pc Qc XC mc ms free) (hblind : FrameBlind Pc) (hrc : rm.cells = mc) (hrs : rm.slots = ms)
    (hframes : rm.frames + 1 ≤ R.frames) (hlocals : W9 + (maxL + 11) + rm.locals ≤ R.locals)
    (hws : ∀ w ∈ ws, ∀ a' U, s.WarmedH U.vm → w.before a' U = true) (hcode : Cond.codeWith y bytes maxL ret hh ∈ ws) (hinit : ∀ a' U, s.WarmedH U.vm → (Cond.initialized y.cls).before a' U = true) :
    vx_Back l R p e below s sargs y len W9 (PreOf R mc ms Pc) (PostOf Qc mc ms free) (vx_Post XC mc ms free) := by
  intro m meth c A g ig mk a X hg hsize hdg hW hn hp
  have h1 : (headSpec ws rm).pre.before a A.U = true := atoms_intro fun w hw => hws w hw _ _ X.warmed
  have h2 : (Cond.codeWith y bytes maxL ret hh).before a A.U = true := hws _ hcode _ _ X.warmed
  have h3 : (Cond.initialized y.cls).before a A.U = true := hinit _ _ X.warmed
  have h4 : A.cells + (headSpec ws rm).room.cells ≤ R.cells := by rw [show (headSpec ws rm).room.cells = mc from hrc]; exact hp.1
  have h5 : A.slots + (headSpec ws rm).room.slots ≤ R.slots := by rw [show (headSpec ws rm).room.slots = ms from hrs]; exact hp.2.1
  have hPc : Pc a (A.U.calling g mk a) := hblind _ _ _ _ hp.2.2
  obtain ⟨U, Ls, c0, s0⟩ := A
  dsimp only [Pt.U, Pt.locs, Pt.cells, Pt.slots] at h1 h2 h3 h4 h5 X hn hPc ⊢
  obtain ⟨m9, methY, cY, hn9, hmY, hcY, -, hlY, -⟩ := Cond.codeWith_spec h2
  cases Option.some.inj (hn9.symm.trans hn)
  obtain ⟨kY, hkY, -⟩ := className_of_methodNamed hn
  have hinitY : kY.init = .initialized := Cond.initialized_spec (findClass_of_methodNamed hn) hkY h3
  have h : At U g.method c below := by rw [hg]; exact X.here
  have hlocals9 : W9 + (maxL + 11) + (headSpec ws rm).room.locals ≤ R.locals := hlocals
  have happ : (headSpec ws rm).appliesLoose y e.platform (U.calling g mk a) = true :=
    Spec.appliesLoose_calling (g := g) h hdg hn hkY hinitY
      (X.room_calling (g := g) (R' := (headSpec ws rm).room) hsize hmY hcY hframes (by rw [hlY]; omega) h4 h5) h1
  obtain ⟨mid, hmid⟩ := h.above
  have hfr : (U.setTop g).frames = (.java g :: mid) ++ below := by rw [State.frames_setTop' g h.top, hmid]; rfl
  obtain ⟨o, s₂, hsteps, -, hend, hq⟩ := Steps.callFree hM p X.admits X.cas X.clock (acts := []) hfr happ hPc trivial
  have hq' : vx_Q Qc XC mc ms free a (U.calling g mk a) o s₂ := hq
  rw [State.frames_setTop' g h.top] at hend
  obtain ⟨g₀, hg0⟩ := Option.isSome_iff_exists.mp h.top
  obtain ⟨r, hr⟩ := State.topJava?_eq_some.mp hg0
  have hr' : (({ U with heap := s₂.heap, slotsUsed := s₂.slotsUsed } : State).setVm s₂.vm).frames = .java g₀ :: r := hr
  rcases hq' with ⟨hqc, L, hfe, hL⟩ | ⟨q, rfl, E, ce, L, hx, hce, hcv, hcl, hW₂, hsm, hL⟩
  · obtain ⟨⟨v, rfl⟩, hW₂, e2, q2, q3, q4, q5, q6⟩ := id hfe
    have e3 : s₂ = ({ (U.calling g mk a).setFrames s₂.frames with heap := s₂.heap, slotsUsed := s₂.slotsUsed } : State).setVm s₂.vm := by
      have : s₂ = ({ s₂ with vm := (U.calling g mk a).vm } : State).setVm s₂.vm := rfl
      rw [e2] at this
      exact this
    obtain ⟨c₂, i₂, len₂, hc₂, hd₂, hf₂⟩ := hend
    have hW' : U.WarmedH s₂.vm := hW₂
    have hcc : c₂ = c := by
      have h1 : s₂.code? g.method = U.code? g.method := by
        rw [State.code?_eq, State.code?_eq, hW'.alike.method?]
      exact Option.some.inj (hc₂.symm.trans (h1.trans h.code))
    subst hcc
    have hlen : len₂ = len := by rw [hdg] at hd₂; cases hd₂; rfl
    subst hlen
    have hs₂ : s₂ = (({ U with heap := s₂.heap, slotsUsed := s₂.slotsUsed } : State).setVm s₂.vm).setTop { g with pc := g.pc + len₂, stack := v.toList ++ g.stack } := by
      refine e3.trans ?_
      rw [hf₂, State.calling_eq h.top, State.setFrames_setFrames, State.setTop_of_frames _ hr', hr]
      rfl
    have hsame : U.sameButNew ({ U with heap := s₂.heap, slotsUsed := s₂.slotsUsed } : State) L mc ms := by
      refine ⟨?_, q2, q3, q4, q5, q6⟩
      obtain ⟨t, ht, -⟩ := State.frames_cons hr
      show ({ U with heap := s₂.heap, slotsUsed := s₂.slotsUsed } : State) = { U.setFrames U.frames with heap := s₂.heap, slotsUsed := s₂.slotsUsed }
      rw [State.setFrames_self ht]
    subst hg
    refine Or.inl ⟨v, ⟨(({ U with heap := s₂.heap, slotsUsed := s₂.slotsUsed } : State).setVm s₂.vm), Ls ++ L, c0 + mc, s0 + ms⟩,
      ⟨X.admits, X.cas, X.clock, X.frames, X.room, X.hears, X.method, X.code, (X.here.setHeapUsed s₂.heap s₂.slotsUsed).setVm hW'.alike, X.tail, State.WarmedH.trans X.warmed hW', X.limits, X.bytes, X.same.trans (hsame.setVm s.vm)⟩,
      ⟨g, mk, s₂, L, rfl, rfl, hqc, rfl, hL, rfl, rfl⟩, ?_⟩
    show Steps p.tables e below _ ((({ U with heap := s₂.heap, slotsUsed := s₂.slotsUsed } : State).setVm s₂.vm).setTop { g with pc := g.pc + len₂, stack := v.toList ++ g.stack })
    rw [← hs₂]
    exact hsteps
  · obtain ⟨e2, q2, q3, q4, q5, q6⟩ := id hsm
    have e3 : s₂ = ({ (U.calling g mk a).setFrames s₂.frames with heap := s₂.heap, slotsUsed := s₂.slotsUsed } : State).setVm s₂.vm := by
      have : s₂ = ({ s₂ with vm := (U.calling g mk a).vm } : State).setVm s₂.vm := rfl
      rw [e2] at this
      exact this
    have hf₂ : s₂.frames = .throwing q :: .java g :: U.frames.tail := hend
    have hW' : U.WarmedH s₂.vm := hW₂
    have hs₂ : s₂ = ((({ U with heap := s₂.heap, slotsUsed := s₂.slotsUsed } : State).setVm s₂.vm).setTop g).pushFrame (.throwing q) := by
      refine e3.trans ?_
      rw [hf₂, State.calling_eq h.top, State.setFrames_setFrames, State.pushFrame, State.frames_setTop _ hr', State.setTop_of_frames _ hr', State.setFrames_setFrames, hr]
      rfl
    have hsame : U.sameButNew ({ U with heap := s₂.heap, slotsUsed := s₂.slotsUsed } : State) L mc ms := by
      refine ⟨?_, q2, q3, q4, q5, q6⟩
      obtain ⟨t, ht, -⟩ := State.frames_cons hr
      show ({ U with heap := s₂.heap, slotsUsed := s₂.slotsUsed } : State) = { U.setFrames U.frames with heap := s₂.heap, slotsUsed := s₂.slotsUsed }
      rw [State.setFrames_self ht]
    subst hg
    refine Or.inr ⟨q, ⟨(({ U with heap := s₂.heap, slotsUsed := s₂.slotsUsed } : State).setVm s₂.vm), Ls ++ L, c0 + mc, s0 + ms⟩,
      ⟨X.admits, X.cas, X.clock, X.frames, X.room, X.hears, X.method, X.code, (X.here.setHeapUsed s₂.heap s₂.slotsUsed).setVm hW'.alike, X.tail, State.WarmedH.trans X.warmed hW', X.limits, X.bytes, X.same.trans (hsame.setVm s.vm)⟩,
      ⟨g, mk, s₂, L, E, ce, rfl, rfl, hx, hce, hcv, hcl, rfl, hL, rfl, rfl⟩, ?_⟩
    show Steps p.tables e below _ (((({ U with heap := s₂.heap, slotsUsed := s₂.slotsUsed } : State).setVm s₂.vm).setTop g).pushFrame (.throwing q))
    rw [← hs₂]
    exact hsteps
end
variable {p : Program} {l : Launch} {e : Env} {R : Room} {s : State} {m : MethodId} {args : Array Value} {below : List Frame} {meth : Method} {c : Code} {T : State} {H : Heap} {locs : List Loc} {cells slots : Nat}
theorem vx_callVX (X : Stand p l e R s m args below meth c T locs cells slots) (hexec : p.tables.exec = Jvm.exec) {own C : String} {index : Nat} {y : MethodName} {bytes : ByteArray} {maxL : Nat} {ret : Option FieldType} {hh : List (Nat × Nat × Nat × Nat)}
    (hown : s.vm.findClass own = some m.cls) (hlink : (Cond.methodLink own index y).before args s = true) (hinst : (Cond.instanceMethod y).before args s = true) (hsel : (Cond.selects C y y).before args s = true)
    (hcode : (Cond.codeWith y bytes maxL ret hh).before args s = true) (hy : y.cls ≠ "java/lang/invoke/MethodHandle" ∧ y.cls ≠ "java/lang/invoke/VarHandle")
    {W9 : Nat} {Pre : Pt → Array Value → Prop} {Post : Pt → Array Value → Option Value → Pt → Prop} {PostX : Pt → Array Value → Addr → Pt → Prop} (hK : vx_Back l R p e below s args y 3 W9 Pre Post PostX)
    {b : Addr} {cellB : Cell} (hcell : T.heap[b]? = some cellB) (hobj : cellB.vm.isStatics = false) (hcls : s.vm.findClass C = some cellB.cls)
    {g : JFrame} (hg : g.method = m) (hsize : g.locals.size = c.maxLocals) {argsL rest : List Value} (hlen : ∀ sig, parseMethodDescriptor y.desc = some sig → argsL.length = sig.parameters.length)
    (hstack : g.stack = argsL.reverse ++ .ref b :: rest) (hW : 2 * g.monitorRoom + (rest.map fun v => v.category).sum ≤ W9) (hdg : decode c.code g.pc = .ok (.invokevirtual index, 3))
    (hpre : ∀ vm₁, s.WarmedH vm₁ → Pre ⟨T.setVm vm₁, locs, cells, slots⟩ (Value.ref b :: argsL).toArray) :
    (∃ (v : Option Value) (vm₁ : Vm) (B : Pt), s.WarmedH vm₁ ∧ Stand p l e R s m args below meth c B.U B.locs B.cells B.slots ∧ Post ⟨T.setVm vm₁, locs, cells, slots⟩ (Value.ref b :: argsL).toArray v B ∧
      ∀ target, Steps p.tables e below (B.U.setTop { g with pc := g.pc + 3, stack := v.toList ++ rest }) target → Steps p.tables e below (T.setTop g) target) ∨
    (∃ (q : Addr) (vm₁ : Vm) (B : Pt), s.WarmedH vm₁ ∧ Stand p l e R s m args below meth c B.U B.locs B.cells B.slots ∧ PostX ⟨T.setVm vm₁, locs, cells, slots⟩ (Value.ref b :: argsL).toArray q B ∧
      Steps p.tables e below (T.setTop g) ((B.U.setTop { g with stack := rest }).pushFrame (.throwing q))) := by
  obtain ⟨mk, methM, hnamed, hmethM, hstM, habM⟩ := Cond.instanceMethod_spec hinst
  obtain ⟨m8, methM', cM, hn8, hmethM', -, -, -, -, -, -, hsigM⟩ := Cond.codeWith_spec hcode
  cases Option.some.inj (hn8.symm.trans hnamed)
  cases hmethM.symm.trans hmethM'
  obtain ⟨c2, r2, m2, q1, q2, q3, q4, kP, hkP, hkPi⟩ := Cond.selects_spec hsel
  cases hcls.symm.trans q1
  cases (State.methodFound?_of_named hnamed hy).symm.trans q2
  cases hnamed.symm.trans q3
  have hselP : selectMethod e.platform s.vm cellB.cls mk = .method mk := by rw [Launch.admits_selectMethod X.admits]; exact q4
  obtain ⟨vm₁, X₁, hstep₁⟩ := X.invokevirtual hexec hown hlink hnamed hmethM hstM hkP hkPi hy (a := b) (cell := cellB) hcell
    (fun z h => by rw [h] at hobj; cases hobj) hselP hmethM habM hkP hkPi (g := g) hg (argsL := argsL) (rest := rest) (hlen _ hsigM) hstack hdg
  rcases hK m meth c ⟨T.setVm vm₁, locs, cells, slots⟩ { g with stack := rest } (.invokevirtual index) mk (Value.ref b :: argsL).toArray X₁ hg hsize hdg hW (X₁.named hnamed) (hpre vm₁ X₁.warmed) with ⟨v, B, X', hpost, hsteps⟩ | ⟨q, B, X', hpost, hsteps⟩
  · exact Or.inl ⟨v, vm₁, B, X₁.warmed, X', hpost, fun target h => hstep₁ _ fun acts => by rw [doInvoke_state]; exact hsteps.trans h⟩
  · exact Or.inr ⟨q, vm₁, B, X₁.warmed, X', hpost, hstep₁ _ fun acts => by rw [doInvoke_state]; exact hsteps⟩
theorem vx_callSX (X : Stand p l e R s m args below meth c T locs cells slots) (hexec : p.tables.exec = Jvm.exec) {own : String} {index : Nat} {y : MethodName} {bytes : ByteArray} {maxL : Nat} {ret : Option FieldType} {hh : List (Nat × Nat × Nat × Nat)}
    (hown : s.vm.findClass own = some m.cls) (hlink : (Cond.methodLink own index y).before args s = true) (hstat : (Cond.static y).before args s = true) (hinit : (Cond.initialized y.cls).before args s = true)
    (hcode : (Cond.codeWith y bytes maxL ret hh).before args s = true) (hy : y.cls ≠ "java/lang/invoke/MethodHandle" ∧ y.cls ≠ "java/lang/invoke/VarHandle")
    {W9 : Nat} {Pre : Pt → Array Value → Prop} {Post : Pt → Array Value → Option Value → Pt → Prop} {PostX : Pt → Array Value → Addr → Pt → Prop} (hK : vx_Back l R p e below s args y 3 W9 Pre Post PostX)
    {g : JFrame} (hg : g.method = m) (hsize : g.locals.size = c.maxLocals) {argsL rest : List Value} (hlen : ∀ sig, parseMethodDescriptor y.desc = some sig → argsL.length = sig.parameters.length)
    (hstack : g.stack = argsL.reverse ++ rest) (hW : 2 * g.monitorRoom + (rest.map fun v => v.category).sum ≤ W9) (hdg : decode c.code g.pc = .ok (.invokestatic index, 3))
    (hpre : ∀ vm₁, s.WarmedH vm₁ → Pre ⟨T.setVm vm₁, locs, cells, slots⟩ argsL.toArray) :
    (∃ (v : Option Value) (vm₁ : Vm) (B : Pt), s.WarmedH vm₁ ∧ Stand p l e R s m args below meth c B.U B.locs B.cells B.slots ∧ Post ⟨T.setVm vm₁, locs, cells, slots⟩ argsL.toArray v B ∧
      ∀ target, Steps p.tables e below (B.U.setTop { g with pc := g.pc + 3, stack := v.toList ++ rest }) target → Steps p.tables e below (T.setTop g) target) ∨
    (∃ (q : Addr) (vm₁ : Vm) (B : Pt), s.WarmedH vm₁ ∧ Stand p l e R s m args below meth c B.U B.locs B.cells B.slots ∧ PostX ⟨T.setVm vm₁, locs, cells, slots⟩ argsL.toArray q B ∧
      Steps p.tables e below (T.setTop g) ((B.U.setTop { g with stack := rest }).pushFrame (.throwing q))) := by
  obtain ⟨mk, methM, cM, hnamed, hmethM, -, -, -, -, -, -, hsigM⟩ := Cond.codeWith_spec hcode
  have hstatic : methM.isStatic = true := Cond.static_spec hnamed hmethM hstat
  obtain ⟨kP, hkP, -⟩ := className_of_methodNamed hnamed
  have hinitP : kP.init = .initialized := Cond.initialized_spec (findClass_of_methodNamed hnamed) hkP hinit
  obtain ⟨vm₁, X₁, hstep₁⟩ := X.invokestatic hexec hown hlink hnamed hmethM hstatic hkP hinitP hy (g := g) hg (argsL := argsL) (rest := rest) (hlen _ hsigM) hstack hdg
  rcases hK m meth c ⟨T.setVm vm₁, locs, cells, slots⟩ { g with stack := rest } (.invokestatic index) mk argsL.toArray X₁ hg hsize hdg hW (X₁.named hnamed) (hpre vm₁ X₁.warmed) with ⟨v, B, X', hpost, hsteps⟩ | ⟨q, B, X', hpost, hsteps⟩
  · exact Or.inl ⟨v, vm₁, B, X₁.warmed, X', hpost, fun target h => hstep₁ _ fun acts => by rw [doInvoke_state]; exact hsteps.trans h⟩
  · exact Or.inr ⟨q, vm₁, B, X₁.warmed, X', hpost, hstep₁ _ fun acts => by rw [doInvoke_state]; exact hsteps⟩
theorem vx_callVW (X : Stand p l e R s m args below meth c T locs cells slots) (hexec : p.tables.exec = Jvm.exec) {own C : String} {index : Nat} {y : MethodName} {bytes : ByteArray} {maxL : Nat} {ret : Option FieldType} {hh : List (Nat × Nat × Nat × Nat)}
    (hown : s.vm.findClass own = some m.cls) (hlink : (Cond.methodLink own index y).before args s = true) (hinst : (Cond.instanceMethod y).before args s = true) (hsel : (Cond.selects C y y).before args s = true)
    (hcode : (Cond.codeWith y bytes maxL ret hh).before args s = true) (hy : y.cls ≠ "java/lang/invoke/MethodHandle" ∧ y.cls ≠ "java/lang/invoke/VarHandle")
    {W9 : Nat} {Pre : Pt → Array Value → Prop} {Post : Pt → Array Value → Option Value → Pt → Prop} (hK : Back l R p e below s args y 3 W9 Pre Post)
    {b : Addr} {cellB : Cell} (hcell : T.heap[b]? = some cellB) (hobj : cellB.vm.isStatics = false) (hcls : s.vm.findClass C = some cellB.cls)
    {g : JFrame} (hg : g.method = m) (hsize : g.locals.size = c.maxLocals) {argsL rest : List Value} (hlen : ∀ sig, parseMethodDescriptor y.desc = some sig → argsL.length = sig.parameters.length)
    (hstack : g.stack = argsL.reverse ++ .ref b :: rest) (hW : 2 * g.monitorRoom + (rest.map fun v => v.category).sum ≤ W9) (hdg : decode c.code g.pc = .ok (.invokevirtual index, 3))
    (hpre : ∀ vm₁, s.WarmedH vm₁ → Pre ⟨T.setVm vm₁, locs, cells, slots⟩ (Value.ref b :: argsL).toArray) :
    ∃ (v : Option Value) (vm₁ : Vm) (B : Pt), s.WarmedH vm₁ ∧ Stand p l e R s m args below meth c B.U B.locs B.cells B.slots ∧ Post ⟨T.setVm vm₁, locs, cells, slots⟩ (Value.ref b :: argsL).toArray v B ∧
      ∀ target, Steps p.tables e below (B.U.setTop { g with pc := g.pc + 3, stack := v.toList ++ rest }) target → Steps p.tables e below (T.setTop g) target := by
  obtain ⟨mk, methM, hnamed, hmethM, hstM, habM⟩ := Cond.instanceMethod_spec hinst
  obtain ⟨m8, methM', cM, hn8, hmethM', -, -, -, -, -, -, hsigM⟩ := Cond.codeWith_spec hcode
  cases Option.some.inj (hn8.symm.trans hnamed)
  cases hmethM.symm.trans hmethM'
  obtain ⟨c2, r2, m2, q1, q2, q3, q4, kP, hkP, hkPi⟩ := Cond.selects_spec hsel
  cases hcls.symm.trans q1
  cases (State.methodFound?_of_named hnamed hy).symm.trans q2
  cases hnamed.symm.trans q3
  have hselP : selectMethod e.platform s.vm cellB.cls mk = .method mk := by rw [Launch.admits_selectMethod X.admits]; exact q4
  obtain ⟨vm₁, X₁, hstep₁⟩ := X.invokevirtual hexec hown hlink hnamed hmethM hstM hkP hkPi hy (a := b) (cell := cellB) hcell
    (fun z h => by rw [h] at hobj; cases hobj) hselP hmethM habM hkP hkPi (g := g) hg (argsL := argsL) (rest := rest) (hlen _ hsigM) hstack hdg
  obtain ⟨v, B, X', hpost, hsteps⟩ := hK m meth c ⟨T.setVm vm₁, locs, cells, slots⟩ { g with stack := rest } (.invokevirtual index) mk (Value.ref b :: argsL).toArray X₁ hg hsize hdg hW (X₁.named hnamed) (hpre vm₁ X₁.warmed)
  exact ⟨v, vm₁, B, X₁.warmed, X', hpost, fun target h => hstep₁ _ fun acts => by rw [doInvoke_state]; exact hsteps.trans h⟩
abbrev vx_CVW (R : Room) (s : State) (args : Array Value) (own C : String) (index : Nat) (y : MethodName) (bytes : ByteArray) (maxL : Nat) (ret : Option FieldType) (hh : List (Nat × Nat × Nat × Nat)) (ws : List Cond) (rm : Room) (mc ms n : Nat) : Prop :=
  (rm.cells = mc ∧ rm.slots = ms ∧ rm.frames + 1 ≤ R.frames ∧ 8 + (maxL + 11) + rm.locals ≤ R.locals ∧ (∀ w ∈ ws, ∀ (a' : Array Value) (U : State), s.WarmedH U.vm → w.before a' U = true) ∧ Cond.codeWith y bytes maxL ret hh ∈ ws) ∧
  (Cond.codeWith y bytes maxL ret hh).before args s = true ∧ (Cond.initialized y.cls).before args s = true ∧ (y.cls ≠ "java/lang/invoke/MethodHandle" ∧ y.cls ≠ "java/lang/invoke/VarHandle") ∧
  (∀ sig, parseMethodDescriptor y.desc = some sig → n = sig.parameters.length) ∧ (Cond.methodLink own index y).before args s = true ∧ (Cond.instanceMethod y).before args s = true ∧ (Cond.selects C y y).before args s = true
theorem vx_cwVW {own C : String} {index maxL mc ms : Nat} {y : MethodName} {bytes : ByteArray} {ret : Option FieldType} {hh : List (Nat × Nat × Nat × Nat)} {Ts ws ws' : List Cond} {rm : Room} (n : Nat) (ht : ∀ w ∈ Ts, w.before args s = true) (hT : GoodIn Ts (wsV own index C y ws)) (hw : ws = Cond.codeWith y bytes maxL ret hh :: ws') (hrc : rm.cells = mc) (hrs : rm.slots = ms)
    (hd : y.cls = C ∧ y.cls ≠ "java/lang/invoke/MethodHandle" ∧ y.cls ≠ "java/lang/invoke/VarHandle" ∧ (parseMethodDescriptor y.desc).map (fun d => d.parameters.length) = some n) (hR : rm.frames + 1 ≤ R.frames ∧ 8 + (maxL + 11) + rm.locals ≤ R.locals) :
    vx_CVW R s args own C index y bytes maxL ret hh ws rm mc ms n := by
  obtain ⟨hC, hd⟩ := hd
  subst hC
  have ok : ∀ w ∈ wsV own index y.cls y ws, w.before args s = true := fun w h => ht w (hT w h).1
  have hG : GoodIn Ts ws := fun w h => hT w (by unfold wsV; exact List.mem_append_right _ h)
  have hc : Cond.codeWith y bytes maxL ret hh ∈ ws := by rw [hw]; exact List.mem_cons_self
  refine ⟨⟨hrc, hrs, hR.1, hR.2, pay_in ht hG, hc⟩, ht _ (hG _ hc).1, ok _ (by simp [wsV]), ⟨hd.1, hd.2.1⟩, fun sig h => ?_, ok _ (by simp [wsV]), ok _ (by simp [wsV]), ok _ (by simp [wsV])⟩
  have h2 := hd.2.2
  rw [h] at h2
  exact (Option.some.inj h2).symm
theorem vx_runVW {y : MethodName} {bytes cc : ByteArray} {maxL nL mc ms n index : Nat} {ret : Option FieldType} {hh : List (Nat × Nat × Nat × Nat)} {ws : List Cond} {rm : Room} {Pc : Array Value → State → Prop} {Qc : Array Value → State → Outcome → State → Prop} {free : Addr → Prop} {Ts : List Cond} {own C : String} {b : Addr} {As rest : List Value} {g : JFrame}
    (S : CallFix p m c cc nL s args Ts own) (hM : Met l y ws rm Pc Qc mc ms free) (cw : vx_CVW R s args own C index y bytes maxL ret hh ws rm mc ms n) (hp : PreV s H C b Pc As)
    (hg : g.method = m) (hn : As.length = n) (hsize : g.locals.size = nL) (hstack : g.stack = As.reverse ++ .ref b :: rest) (hW : 2 * g.monitorRoom + (rest.map fun v => v.category).sum ≤ 8) (hdg : decode cc g.pc = .ok (.invokevirtual index, 3)) (hf : cells + mc ≤ R.cells ∧ slots + ms ≤ R.slots) :
    va_Run p l e R s m args below meth c H locs cells slots mc ms g rest (Qc (Value.ref b :: As).toArray) free := by
  obtain ⟨⟨hrc, hrs, hfr, hlo, hws, hcw⟩, hcode, hini, hy, hlen, hl, hin, hse⟩ := cw
  have hK : Back l R p e below s args y 3 8 (PreOf R mc ms Pc) (PostOf Qc mc ms free) := va_backW (hh := hh) (bytes := bytes) (maxL := maxL) (ret := ret) hM hp.1 hrc hrs hfr hlo hws hcw (fun a' U hW => word_at hW (Or.inl (by first | rfl | simp [Cond.onTables, Cond.keeps, Cond.steady])) hini)
  obtain ⟨hx, hb, hml, ho, -⟩ := S
  obtain ⟨-, ⟨cellB, hcB, hoB, hclB⟩, hPc⟩ := hp
  intro T hT X
  obtain ⟨v, vm₁, ⟨U', l2, c2, s2⟩, hW₁, X', ⟨g', mk, t, L, e1, e2, hq, h1, hL, h2, h3⟩, st⟩ := vx_callVW X hx (C := C) (hh := hh) (bytes := bytes) (maxL := maxL) (ret := ret) ho hl hin hse hcode hy hK (by rw [hT]; exact hcB) hoB hclB hg (hsize.trans hml.symm) (argsL := As) (rest := rest) (fun sig h => hn.trans (hlen sig h)) hstack hW (by rw [hb]; exact hdg)
    (fun vm₁ hW₁ => ⟨hf.1, hf.2, hPc (T.setVm vm₁) hT hW₁⟩)
  dsimp only [Pt.U, Pt.locs, Pt.cells, Pt.slots] at X' e1 e2 h1 h2 h3 st
  subst h1; subst h2; subst h3
  exact ⟨v, (T.setVm vm₁).calling g' mk (Value.ref b :: As).toArray, t, U', L, hT, X', hL, e1, e2, hq, st⟩
section
variable {y : MethodName} {bytes cc : ByteArray} {maxL nL mc ms n index : Nat} {ret : Option FieldType} {ws : List Cond} {rm : Room} {Pc : Array Value → State → Prop} {Qc : Array Value → State → Outcome → State → Prop} {XC : String → State → State → Prop} {free : Addr → Prop} {Ts : List Cond} {own C : String} {b : Addr} {As rest : List Value} {g : JFrame}
theorem vx_runVX {hh : List (Nat × Nat × Nat × Nat)} (S : CallFix p m c cc nL s args Ts own) (hM : vx_Met l y ws rm Pc Qc XC mc ms free) (cw : vx_CVW R s args own C index y bytes maxL ret hh ws rm mc ms n) (hp : PreV s H C b Pc As)
    (hg : g.method = m) (hn : As.length = n) (hsize : g.locals.size = nL) (hstack : g.stack = As.reverse ++ .ref b :: rest) (hW : 2 * g.monitorRoom + (rest.map fun v => v.category).sum ≤ 8) (hdg : decode cc g.pc = .ok (.invokevirtual index, 3)) (hf : cells + mc ≤ R.cells ∧ slots + ms ≤ R.slots) :
    vx_Run p l e R s m args below meth c H locs cells slots mc ms g rest (Qc (Value.ref b :: As).toArray) XC free := by
  obtain ⟨⟨hrc, hrs, hfr, hlo, hws, hcw⟩, hcode, hini, hy, hlen, hl, hin, hse⟩ := cw
  have hK : vx_Back l R p e below s args y 3 8 (PreOf R mc ms Pc) (PostOf Qc mc ms free) (vx_Post XC mc ms free) := vx_backW (hh := hh) (bytes := bytes) (maxL := maxL) (ret := ret) hM hp.1 hrc hrs hfr hlo hws hcw (fun a' U hW => word_at hW (Or.inl (by first | rfl | simp [Cond.onTables, Cond.keeps, Cond.steady])) hini)
  obtain ⟨hx, hb, hml, ho, -⟩ := S
  obtain ⟨-, ⟨cellB, hcB, hoB, hclB⟩, hPc⟩ := hp
  intro T hT X
  rcases vx_callVX X hx (C := C) (hh := hh) (bytes := bytes) (maxL := maxL) (ret := ret) ho hl hin hse hcode hy hK (by rw [hT]; exact hcB) hoB hclB hg (hsize.trans hml.symm) (argsL := As) (rest := rest) (fun sig h => hn.trans (hlen sig h)) hstack hW (by rw [hb]; exact hdg)
    (fun vm₁ hW₁ => ⟨hf.1, hf.2, hPc (T.setVm vm₁) hT hW₁⟩) with ⟨v, vm₁, ⟨U', l2, c2, s2⟩, hW₁, X', ⟨g', mk, t, L, e1, e2, hq, h1, hL, h2, h3⟩, st⟩ | ⟨q, vm₁, ⟨U', l2, c2, s2⟩, hW₁, X', ⟨g', mk, t, L, E, ce, e1, e2, hq, hce, hcv, hcl, h1, hL, h2, h3⟩, st⟩
  · dsimp only [Pt.U, Pt.locs, Pt.cells, Pt.slots] at X' e1 e2 h1 h2 h3 st
    subst h1; subst h2; subst h3
    exact Or.inl ⟨v, (T.setVm vm₁).calling g' mk (Value.ref b :: As).toArray, t, U', L, hT, X', hL, e1, e2, hq, st⟩
  · dsimp only [Pt.U, Pt.locs, Pt.cells, Pt.slots] at X' e1 e2 h1 h2 h3 st hcl
    subst h1; subst h2; subst h3
    exact Or.inr ⟨q, (T.setVm vm₁).calling g' mk (Value.ref b :: As).toArray, t, U', L, E, ce, hT, X', hL, e1, e2, hq, hce, hcv, vx_cls hW₁ hcl, st⟩
theorem vx_runSX {hh : List (Nat × Nat × Nat × Nat)} (S : CallFix p m c cc nL s args Ts own) (hM : vx_Met l y ws rm Pc Qc XC mc ms free) (cw : vx_CSW R s args own index y bytes maxL ret hh ws rm mc ms n) (hp : PreS s H Pc As)
    (hg : g.method = m) (hn : As.length = n) (hsize : g.locals.size = nL) (hstack : g.stack = As.reverse ++ rest) (hW : 2 * g.monitorRoom + (rest.map fun v => v.category).sum ≤ 8) (hdg : decode cc g.pc = .ok (.invokestatic index, 3)) (hf : cells + mc ≤ R.cells ∧ slots + ms ≤ R.slots) :
    vx_Run p l e R s m args below meth c H locs cells slots mc ms g rest (Qc As.toArray) XC free := by
  obtain ⟨⟨hrc, hrs, hfr, hlo, hws, hcw⟩, hcode, hini, hy, hlen, hl, hstt⟩ := cw
  have hK : vx_Back l R p e below s args y 3 8 (PreOf R mc ms Pc) (PostOf Qc mc ms free) (vx_Post XC mc ms free) := vx_backW (hh := hh) (bytes := bytes) (maxL := maxL) (ret := ret) hM hp.1 hrc hrs hfr hlo hws hcw (fun a' U hW => word_at hW (Or.inl (by first | rfl | simp [Cond.onTables, Cond.keeps, Cond.steady])) hini)
  obtain ⟨hx, hb, hml, ho, -⟩ := S
  intro T hT X
  rcases vx_callSX X hx (hh := hh) (bytes := bytes) (maxL := maxL) (ret := ret) ho hl hstt hini hcode hy hK hg (hsize.trans hml.symm) (argsL := As) (rest := rest) (fun sig h => hn.trans (hlen sig h)) hstack hW (by rw [hb]; exact hdg)
    (fun vm₁ hW₁ => ⟨hf.1, hf.2, hp.2 (T.setVm vm₁) hT hW₁⟩) with ⟨v, vm₁, ⟨U', l2, c2, s2⟩, hW₁, X', ⟨g', mk, t, L, e1, e2, hq, h1, hL, h2, h3⟩, st⟩ | ⟨q, vm₁, ⟨U', l2, c2, s2⟩, hW₁, X', ⟨g', mk, t, L, E, ce, e1, e2, hq, hce, hcv, hcl, h1, hL, h2, h3⟩, st⟩
  · dsimp only [Pt.U, Pt.locs, Pt.cells, Pt.slots] at X' e1 e2 h1 h2 h3 st
    subst h1; subst h2; subst h3
    exact Or.inl ⟨v, (T.setVm vm₁).calling g' mk As.toArray, t, U', L, hT, X', hL, e1, e2, hq, st⟩
  · dsimp only [Pt.U, Pt.locs, Pt.cells, Pt.slots] at X' e1 e2 h1 h2 h3 st hcl
    subst h1; subst h2; subst h3
    exact Or.inr ⟨q, (T.setVm vm₁).calling g' mk As.toArray, t, U', L, E, ce, hT, X', hL, e1, e2, hq, hce, hcv, vx_cls hW₁ hcl, st⟩
end
end VXH
theorem vx_ofWH {l : Launch} {y : MethodName} {ws ws' : List Cond} {rm : Room} {Pc : Array Value → State → Prop} {Qc : Array Value → State → Outcome → State → Prop} {XC : String → State → State → Prop} {mc ms : Nat} {free : Addr → Prop} {cc : ByteArray} {maxL : Nat} {ret : Option FieldType} {hh : List (Nat × Nat × Nat × Nat)}
    (hy : plainName y.cls = true) (hw : ws = Cond.codeWith y cc maxL ret hh :: ws')
    (body : ∀ p e s m args below meth c s₁, BodyLoose p l y (headSpec ws rm) cc maxL ret e s m args below meth c s₁ → c.maxLocals = maxL → Pc args s →
      W p l e (headSpec ws rm).room s m args below meth c s.heap [] 0 0 (vx_MQ below Qc XC args s mc ms free) (entryFrame m args maxL)) : vx_Met l y ws rm Pc Qc XC mc ms free := by
  refine MetFree.of_bodyS (code := cc) (maxLocals := maxL) (ret := ret) hy ?_ ?_
  · intro args s m h hn
    obtain ⟨m9, meth, c, hn9, h1, h2, h3, h4, -, h5, h6, -⟩ := Cond.codeWith_spec (atoms_spec (ws := ws) h _ (by rw [hw]; exact List.mem_cons_self))
    cases hn.symm.trans hn9
    exact ⟨meth, c, h1, h2, h3, h4, h5, h6⟩
  · intro p e s m args below meth c s₁ B hml hP _
    have hh0 : s₁.heap = s.heap := by rw [B.state]; rfl
    obtain ⟨t, a1, o, b1, b2, b3⟩ := body p e s m args below meth c s₁ B hml hP s₁ hh0 (Stand.of_body B)
    exact ⟨t, o, a1, b1, b2, b3⟩
/-! ===== END ===== -/
end
section
/-! ===== BEGIN printed: names, fields, word lists, decode rows ===== -/
def RX0 : String := "CapacityRound$Demand"
def TX0 : u_T := fun k => match k with
  | 0 => ("CapacityRound$Demand", "worths", "[I", true)
  | 1 => ("CapacityRound$Demand", "lowerAmount", "I", false)
  | 2 => ("CapacityRound$Demand", "upperAmount", "I", false)
  | _ => ("CapacityRound$Demand", "topPrice", "I", false)
def tyX0 : Nat → FieldType := fun k => match k with
  | 0 => .array .int
  | 1 => .int
  | 2 => .int
  | _ => .int
abbrev wsX00 : List Cond := u_ws RX0 TX0 4
theorem nmX0 : ∀ a, a < 4 → ∀ b, b < 4 → a ≠ b → (TX0 a).2.1 ≠ (TX0 b).2.1 := by decide +kernel
theorem tyX0_ok : ∀ k, k < 4 → parseFieldDescriptor (TX0 k).2.2.1 = some (tyX0 k) := by decide +kernel
abbrev cX0_init : ByteArray := prog_2_method_1_code
def yX0_init : MethodName := ⟨RX0, "<init>", "()V"⟩
abbrev cX0_change : ByteArray := prog_2_method_2_code
def yX0_change : MethodName := ⟨RX0, "change", "(III)V"⟩
abbrev cX0_valueOf : ByteArray := prog_2_method_3_code
def yX0_valueOf : MethodName := ⟨RX0, "valueOf", "(I)I"⟩
abbrev cX0_worthOf : ByteArray := prog_2_method_4_code
def yX0_worthOf : MethodName := ⟨RX0, "worthOf", "(I)I"⟩
def RX1 : String := "CapacityRound$Queue"
def TX1 : u_T := fun k => match k with
  | 0 => ("CapacityRound$Queue", "parties", "[I", true)
  | 1 => ("CapacityRound$Queue", "amounts", "[I", true)
  | 2 => ("CapacityRound$Queue", "terms", "[I", true)
  | 3 => ("CapacityRound$Queue", "order", "[I", true)
  | 4 => ("CapacityRound$Queue", "count", "I", false)
  | 5 => ("CapacityRound$Queue", "exits", "[I", true)
  | _ => ("CapacityRound$Queue", "in", "[Z", true)
def tyX1 : Nat → FieldType := fun k => match k with
  | 0 => .array .int
  | 1 => .array .int
  | 2 => .array .int
  | 3 => .array .int
  | 4 => .int
  | 5 => .array .int
  | _ => .array .boolean
abbrev wsX10 : List Cond := u_ws RX1 TX1 7
theorem nmX1 : ∀ a, a < 7 → ∀ b, b < 7 → a ≠ b → (TX1 a).2.1 ≠ (TX1 b).2.1 := by decide +kernel
theorem tyX1_ok : ∀ k, k < 7 → parseFieldDescriptor (TX1 k).2.2.1 = some (tyX1 k) := by decide +kernel
abbrev cX1_init : ByteArray := prog_3_method_1_code
def yX1_init : MethodName := ⟨RX1, "<init>", "()V"⟩
abbrev cX1_isFull : ByteArray := prog_3_method_2_code
def yX1_isFull : MethodName := ⟨RX1, "isFull", "()Z"⟩
abbrev cX1_has : ByteArray := prog_3_method_3_code
def yX1_has : MethodName := ⟨RX1, "has", "(I)Z"⟩
abbrev cX1_clear : ByteArray := prog_3_method_4_code
def yX1_clear : MethodName := ⟨RX1, "clear", "()V"⟩
abbrev cX1_add : ByteArray := prog_3_method_5_code
def yX1_add : MethodName := ⟨RX1, "add", "(IIII)I"⟩
abbrev cX1_amountUpTo : ByteArray := prog_3_method_6_code
def yX1_amountUpTo : MethodName := ⟨RX1, "amountUpTo", "(I)I"⟩
abbrev cX1_bestFirst : ByteArray := prog_3_method_7_code
def yX1_bestFirst : MethodName := ⟨RX1, "bestFirst", "(LCapacityRound$Demand;I)I"⟩
abbrev cX1_priceOfFirst : ByteArray := prog_3_method_8_code
def yX1_priceOfFirst : MethodName := ⟨RX1, "priceOfFirst", "(I)I"⟩
abbrev cX1_isAmongFirst : ByteArray := prog_3_method_9_code
def yX1_isAmongFirst : MethodName := ⟨RX1, "isAmongFirst", "(II)Z"⟩
abbrev cX1_priceByClock : ByteArray := prog_3_method_10_code
def yX1_priceByClock : MethodName := ⟨RX1, "priceByClock", "(LCapacityRound$Demand;I)I"⟩
abbrev cX1_dearestIn : ByteArray := prog_3_method_11_code
def yX1_dearestIn : MethodName := ⟨RX1, "dearestIn", "()I"⟩
abbrev cX1_exitOf : ByteArray := prog_3_method_12_code
def yX1_exitOf : MethodName := ⟨RX1, "exitOf", "(I)I"⟩
def RX2 : String := "CapacityRound"
def TX2 : u_T := fun k => match k with
  | 0 => ("CapacityRound", "demand", "LCapacityRound$Demand;", true)
  | 1 => ("CapacityRound", "queue", "LCapacityRound$Queue;", true)
  | 2 => ("CapacityRound", "boughtByYear", "[I", true)
  | 3 => ("CapacityRound", "incomes", "[I", true)
  | 4 => ("CapacityRound", "obligations", "[I", true)
  | 5 => ("CapacityRound", "outputs", "[I", true)
  | 6 => ("CapacityRound", "stressed", "[Z", true)
  | 7 => ("CapacityRound", "tradeCount", "I", false)
  | 8 => ("CapacityRound", "penaltyRate", "I", false)
  | _ => ("CapacityRound", "penaltyCap", "I", false)
def tyX2 : Nat → FieldType := fun k => match k with
  | 0 => .object "CapacityRound$Demand"
  | 1 => .object "CapacityRound$Queue"
  | 2 => .array .int
  | 3 => .array .int
  | 4 => .array .int
  | 5 => .array .int
  | 6 => .array .boolean
  | 7 => .int
  | 8 => .int
  | _ => .int
abbrev wsX20 : List Cond := u_ws RX2 TX2 10
theorem nmX2 : ∀ a, a < 10 → ∀ b, b < 10 → a ≠ b → (TX2 a).2.1 ≠ (TX2 b).2.1 := by decide +kernel
theorem tyX2_ok : ∀ k, k < 10 → parseFieldDescriptor (TX2 k).2.2.1 = some (tyX2 k) := by decide +kernel
abbrev cX2_init : ByteArray := prog_1_method_1_code
def yX2_init : MethodName := ⟨RX2, "<init>", "()V"⟩
abbrev cX2_setDemand : ByteArray := prog_1_method_2_code
def yX2_setDemand : MethodName := ⟨RX2, "setDemand", "(III)V"⟩
abbrev cX2_value : ByteArray := prog_1_method_3_code
def yX2_value : MethodName := ⟨RX2, "value", "(I)I"⟩
abbrev cX2_worth : ByteArray := prog_1_method_4_code
def yX2_worth : MethodName := ⟨RX2, "worth", "(I)I"⟩
abbrev cX2_offer : ByteArray := prog_1_method_5_code
def yX2_offer : MethodName := ⟨RX2, "offer", "(IIIII)I"⟩
abbrev cX2_offers : ByteArray := prog_1_method_6_code
def yX2_offers : MethodName := ⟨RX2, "offers", "()I"⟩
abbrev cX2_supply : ByteArray := prog_1_method_7_code
def yX2_supply : MethodName := ⟨RX2, "supply", "(I)I"⟩
abbrev cX2_clearing : ByteArray := prog_1_method_8_code
def yX2_clearing : MethodName := ⟨RX2, "clearing", "(I)I"⟩
abbrev cX2_clearingByClock : ByteArray := prog_1_method_9_code
def yX2_clearingByClock : MethodName := ⟨RX2, "clearingByClock", "(I)I"⟩
abbrev cX2_wouldTake : ByteArray := prog_1_method_10_code
def yX2_wouldTake : MethodName := ⟨RX2, "wouldTake", "(II)Z"⟩
abbrev cX2_run : ByteArray := prog_1_method_11_code
def yX2_run : MethodName := ⟨RX2, "run", "(I)I"⟩
abbrev cX2_bought : ByteArray := prog_1_method_12_code
def yX2_bought : MethodName := ⟨RX2, "bought", "(I)I"⟩
abbrev cX2_income : ByteArray := prog_1_method_13_code
def yX2_income : MethodName := ⟨RX2, "income", "(II)I"⟩
abbrev cX2_obligation : ByteArray := prog_1_method_14_code
def yX2_obligation : MethodName := ⟨RX2, "obligation", "(III)I"⟩
abbrev cX2_trade : ByteArray := prog_1_method_15_code
def yX2_trade : MethodName := ⟨RX2, "trade", "(IIIIII)I"⟩
abbrev cX2_trades : ByteArray := prog_1_method_16_code
def yX2_trades : MethodName := ⟨RX2, "trades", "()I"⟩
abbrev cX2_stress : ByteArray := prog_1_method_17_code
def yX2_stress : MethodName := ⟨RX2, "stress", "(II)Z"⟩
abbrev cX2_tell : ByteArray := prog_1_method_18_code
def yX2_tell : MethodName := ⟨RX2, "tell", "(IIII)I"⟩
abbrev cX2_setPenalty : ByteArray := prog_1_method_19_code
def yX2_setPenalty : MethodName := ⟨RX2, "setPenalty", "(II)V"⟩
abbrev cX2_lack : ByteArray := prog_1_method_20_code
def yX2_lack : MethodName := ⟨RX2, "lack", "(II)I"⟩
abbrev cX2_penalty : ByteArray := prog_1_method_21_code
def yX2_penalty : MethodName := ⟨RX2, "penalty", "(II)I"⟩
abbrev cX2_penalties : ByteArray := prog_1_method_22_code
def yX2_penalties : MethodName := ⟨RX2, "penalties", "()J"⟩
abbrev cX2_isWithin : ByteArray := prog_1_method_23_code
def yX2_isWithin : MethodName := ⟨RX2, "isWithin", "(III)Z"⟩
abbrev cX2_isParty : ByteArray := prog_1_method_24_code
def yX2_isParty : MethodName := ⟨RX2, "isParty", "(I)Z"⟩
abbrev cX2_isYear : ByteArray := prog_1_method_25_code
def yX2_isYear : MethodName := ⟨RX2, "isYear", "(I)Z"⟩
abbrev cX2_isHour : ByteArray := prog_1_method_26_code
def yX2_isHour : MethodName := ⟨RX2, "isHour", "(I)Z"⟩
abbrev cX2_yearCell : ByteArray := prog_1_method_27_code
def yX2_yearCell : MethodName := ⟨RX2, "yearCell", "(II)I"⟩
abbrev cX2_hourCell : ByteArray := prog_1_method_28_code
def yX2_hourCell : MethodName := ⟨RX2, "hourCell", "(III)I"⟩
abbrev cX2_take : ByteArray := prog_1_method_29_code
def yX2_take : MethodName := ⟨RX2, "take", "(III)V"⟩
abbrev cX2_leastObligation : ByteArray := prog_1_method_30_code
def yX2_leastObligation : MethodName := ⟨RX2, "leastObligation", "(IIII)I"⟩
abbrev cX2_lackOf : ByteArray := prog_1_method_31_code
def yX2_lackOf : MethodName := ⟨RX2, "lackOf", "(II)I"⟩
abbrev cX2_penaltyOf : ByteArray := prog_1_method_32_code
def yX2_penaltyOf : MethodName := ⟨RX2, "penaltyOf", "(II)I"⟩
def RX3 : String := "CapacityRoundModel"
def TX3 : u_T := fun k => match k with
  | 0 => ("CapacityRoundModel", "lower", "I", false)
  | 1 => ("CapacityRoundModel", "upper", "I", false)
  | 2 => ("CapacityRoundModel", "top", "I", false)
  | 3 => ("CapacityRoundModel", "party", "[I", true)
  | 4 => ("CapacityRoundModel", "amount", "[I", true)
  | 5 => ("CapacityRoundModel", "exit", "[I", true)
  | 6 => ("CapacityRoundModel", "term", "[I", true)
  | 7 => ("CapacityRoundModel", "many", "I", false)
  | 8 => ("CapacityRoundModel", "bought", "[I", true)
  | 9 => ("CapacityRoundModel", "income", "[I", true)
  | 10 => ("CapacityRoundModel", "obligation", "[I", true)
  | 11 => ("CapacityRoundModel", "output", "[I", true)
  | 12 => ("CapacityRoundModel", "isStress", "[Z", true)
  | 13 => ("CapacityRoundModel", "trades", "I", false)
  | 14 => ("CapacityRoundModel", "rate", "I", false)
  | 15 => ("CapacityRoundModel", "cap", "I", false)
  | _ => ("CapacityRoundModel", "thrown", "I", false)
def tyX3 : Nat → FieldType := fun k => match k with
  | 0 => .int
  | 1 => .int
  | 2 => .int
  | 3 => .array .int
  | 4 => .array .int
  | 5 => .array .int
  | 6 => .array .int
  | 7 => .int
  | 8 => .array .int
  | 9 => .array .int
  | 10 => .array .int
  | 11 => .array .int
  | 12 => .array .boolean
  | 13 => .int
  | 14 => .int
  | 15 => .int
  | _ => .int
abbrev wsX30 : List Cond := u_ws RX3 TX3 17
theorem nmX3 : ∀ a, a < 17 → ∀ b, b < 17 → a ≠ b → (TX3 a).2.1 ≠ (TX3 b).2.1 := by decide +kernel
theorem tyX3_ok : ∀ k, k < 17 → parseFieldDescriptor (TX3 k).2.2.1 = some (tyX3 k) := by decide +kernel
abbrev cX3_init : ByteArray := prog_5_method_1_code
def yX3_init : MethodName := ⟨RX3, "<init>", "()V"⟩
abbrev cX3_thrown : ByteArray := prog_5_method_2_code
def yX3_thrown : MethodName := ⟨RX3, "thrown", "()I"⟩
abbrev cX3_goes : ByteArray := prog_5_method_3_code
def yX3_goes : MethodName := ⟨RX3, "goes", "(ZZZ)Z"⟩
abbrev cX3_isWithin : ByteArray := prog_5_method_4_code
def yX3_isWithin : MethodName := ⟨RX3, "isWithin", "(III)Z"⟩
abbrev cX3_isParty : ByteArray := prog_5_method_5_code
def yX3_isParty : MethodName := ⟨RX3, "isParty", "(I)Z"⟩
abbrev cX3_isYear : ByteArray := prog_5_method_6_code
def yX3_isYear : MethodName := ⟨RX3, "isYear", "(I)Z"⟩
abbrev cX3_isHour : ByteArray := prog_5_method_7_code
def yX3_isHour : MethodName := ⟨RX3, "isHour", "(I)Z"⟩
abbrev cX3_place : ByteArray := prog_5_method_8_code
def yX3_place : MethodName := ⟨RX3, "place", "(III)I"⟩
abbrev cX3_setDemand : ByteArray := prog_5_method_9_code
def yX3_setDemand : MethodName := ⟨RX3, "setDemand", "(III)V"⟩
abbrev cX3_valueOf : ByteArray := prog_5_method_10_code
def yX3_valueOf : MethodName := ⟨RX3, "valueOf", "(I)I"⟩
abbrev cX3_worthOf : ByteArray := prog_5_method_11_code
def yX3_worthOf : MethodName := ⟨RX3, "worthOf", "(I)I"⟩
abbrev cX3_value : ByteArray := prog_5_method_12_code
def yX3_value : MethodName := ⟨RX3, "value", "(I)I"⟩
abbrev cX3_worth : ByteArray := prog_5_method_13_code
def yX3_worth : MethodName := ⟨RX3, "worth", "(I)I"⟩
abbrev cX3_offer : ByteArray := prog_5_method_14_code
def yX3_offer : MethodName := ⟨RX3, "offer", "(IIIII)I"⟩
abbrev cX3_offers : ByteArray := prog_5_method_15_code
def yX3_offers : MethodName := ⟨RX3, "offers", "()I"⟩
abbrev cX3_supply : ByteArray := prog_5_method_16_code
def yX3_supply : MethodName := ⟨RX3, "supply", "(I)I"⟩
abbrev cX3_rank : ByteArray := prog_5_method_17_code
def yX3_rank : MethodName := ⟨RX3, "rank", "(I)I"⟩
abbrev cX3_taken : ByteArray := prog_5_method_18_code
def yX3_taken : MethodName := ⟨RX3, "taken", "(I)I"⟩
abbrev cX3_price : ByteArray := prog_5_method_19_code
def yX3_price : MethodName := ⟨RX3, "price", "(I)I"⟩
abbrev cX3_clearing : ByteArray := prog_5_method_20_code
def yX3_clearing : MethodName := ⟨RX3, "clearing", "(I)I"⟩
abbrev cX3_clearingByClock : ByteArray := prog_5_method_21_code
def yX3_clearingByClock : MethodName := ⟨RX3, "clearingByClock", "(I)I"⟩
abbrev cX3_wouldTake : ByteArray := prog_5_method_22_code
def yX3_wouldTake : MethodName := ⟨RX3, "wouldTake", "(II)Z"⟩
abbrev cX3_run : ByteArray := prog_5_method_23_code
def yX3_run : MethodName := ⟨RX3, "run", "(I)I"⟩
abbrev cX3_bought : ByteArray := prog_5_method_24_code
def yX3_bought : MethodName := ⟨RX3, "bought", "(I)I"⟩
abbrev cX3_income : ByteArray := prog_5_method_25_code
def yX3_income : MethodName := ⟨RX3, "income", "(II)I"⟩
abbrev cX3_obligation : ByteArray := prog_5_method_26_code
def yX3_obligation : MethodName := ⟨RX3, "obligation", "(III)I"⟩
abbrev cX3_least : ByteArray := prog_5_method_27_code
def yX3_least : MethodName := ⟨RX3, "least", "(IIII)I"⟩
abbrev cX3_trade : ByteArray := prog_5_method_28_code
def yX3_trade : MethodName := ⟨RX3, "trade", "(IIIIII)I"⟩
abbrev cX3_trades : ByteArray := prog_5_method_29_code
def yX3_trades : MethodName := ⟨RX3, "trades", "()I"⟩
abbrev cX3_stress : ByteArray := prog_5_method_30_code
def yX3_stress : MethodName := ⟨RX3, "stress", "(II)Z"⟩
abbrev cX3_tell : ByteArray := prog_5_method_31_code
def yX3_tell : MethodName := ⟨RX3, "tell", "(IIII)I"⟩
abbrev cX3_setPenalty : ByteArray := prog_5_method_32_code
def yX3_setPenalty : MethodName := ⟨RX3, "setPenalty", "(II)V"⟩
abbrev cX3_lackOf : ByteArray := prog_5_method_33_code
def yX3_lackOf : MethodName := ⟨RX3, "lackOf", "(II)I"⟩
abbrev cX3_penaltyOf : ByteArray := prog_5_method_34_code
def yX3_penaltyOf : MethodName := ⟨RX3, "penaltyOf", "(II)J"⟩
abbrev cX3_lack : ByteArray := prog_5_method_35_code
def yX3_lack : MethodName := ⟨RX3, "lack", "(II)I"⟩
abbrev cX3_penalty : ByteArray := prog_5_method_36_code
def yX3_penalty : MethodName := ⟨RX3, "penalty", "(II)I"⟩
abbrev cX3_penalties : ByteArray := prog_5_method_37_code
def yX3_penalties : MethodName := ⟨RX3, "penalties", "()J"⟩
def RJ9 : String := "java/lang/Math"
def TJ9 : u_T := fun k => match k with
  | _ => ("", "", "", false)
def tyJ9 : Nat → FieldType := fun k => match k with
  | _ => .int
abbrev wsJ90 : List Cond := u_ws RJ9 TJ9 0
theorem nmJ9 : ∀ a, a < 0 → ∀ b, b < 0 → a ≠ b → (TJ9 a).2.1 ≠ (TJ9 b).2.1 := by decide +kernel
theorem tyJ9_ok : ∀ k, k < 0 → parseFieldDescriptor (TJ9 k).2.2.1 = some (tyJ9 k) := by decide +kernel
abbrev cJ9_max_7cf53 : ByteArray := prog_10_method_65_code
def yJ9_max_7cf53 : MethodName := ⟨RJ9, "max", "(II)I"⟩
abbrev cJ9_max_f86c9 : ByteArray := prog_10_method_66_code
def yJ9_max_f86c9 : MethodName := ⟨RJ9, "max", "(JJ)J"⟩
abbrev cJ9_min_7cf53 : ByteArray := prog_10_method_69_code
def yJ9_min_7cf53 : MethodName := ⟨RJ9, "min", "(II)I"⟩
abbrev cJ9_min_f86c9 : ByteArray := prog_10_method_70_code
def yJ9_min_f86c9 : MethodName := ⟨RJ9, "min", "(JJ)J"⟩
def RJ0 : String := "java/lang/String"
def TJ0 : u_T := fun k => match k with
  | _ => ("", "", "", false)
def tyJ0 : Nat → FieldType := fun k => match k with
  | _ => .int
abbrev wsJ00 : List Cond := u_ws RJ0 TJ0 0
theorem nmJ0 : ∀ a, a < 0 → ∀ b, b < 0 → a ≠ b → (TJ0 a).2.1 ≠ (TJ0 b).2.1 := by decide +kernel
theorem tyJ0_ok : ∀ k, k < 0 → parseFieldDescriptor (TJ0 k).2.2.1 = some (tyJ0 k) := by decide +kernel
def RL : String := "CapacityRoundLaw"
abbrev cL_setDemand : ByteArray := method_3_code
def yL_setDemand : MethodName := ⟨RL, "setDemand", "(LCapacityRound;III)I"⟩
abbrev cL_value : ByteArray := method_4_code
def yL_value : MethodName := ⟨RL, "value", "(LCapacityRound;I[J)I"⟩
abbrev cL_worth : ByteArray := method_5_code
def yL_worth : MethodName := ⟨RL, "worth", "(LCapacityRound;I[J)I"⟩
abbrev cL_offer : ByteArray := method_6_code
def yL_offer : MethodName := ⟨RL, "offer", "(LCapacityRound;IIIII[J)I"⟩
abbrev cL_supply : ByteArray := method_7_code
def yL_supply : MethodName := ⟨RL, "supply", "(LCapacityRound;I[J)I"⟩
abbrev cL_clearing : ByteArray := method_8_code
def yL_clearing : MethodName := ⟨RL, "clearing", "(LCapacityRound;I[J)I"⟩
abbrev cL_clearingByClock : ByteArray := method_9_code
def yL_clearingByClock : MethodName := ⟨RL, "clearingByClock", "(LCapacityRound;I[J)I"⟩
abbrev cL_wouldTake : ByteArray := method_10_code
def yL_wouldTake : MethodName := ⟨RL, "wouldTake", "(LCapacityRound;II[J)I"⟩
abbrev cL_run : ByteArray := method_11_code
def yL_run : MethodName := ⟨RL, "run", "(LCapacityRound;I[J)I"⟩
abbrev cL_bought : ByteArray := method_12_code
def yL_bought : MethodName := ⟨RL, "bought", "(LCapacityRound;I[J)I"⟩
abbrev cL_income : ByteArray := method_13_code
def yL_income : MethodName := ⟨RL, "income", "(LCapacityRound;II[J)I"⟩
abbrev cL_obligation : ByteArray := method_14_code
def yL_obligation : MethodName := ⟨RL, "obligation", "(LCapacityRound;III[J)I"⟩
abbrev cL_trade : ByteArray := method_15_code
def yL_trade : MethodName := ⟨RL, "trade", "(LCapacityRound;IIIIII[J)I"⟩
abbrev cL_stress : ByteArray := method_16_code
def yL_stress : MethodName := ⟨RL, "stress", "(LCapacityRound;II[J)I"⟩
abbrev cL_tell : ByteArray := method_17_code
def yL_tell : MethodName := ⟨RL, "tell", "(LCapacityRound;IIII[J)I"⟩
abbrev cL_setPenalty : ByteArray := method_18_code
def yL_setPenalty : MethodName := ⟨RL, "setPenalty", "(LCapacityRound;II)I"⟩
abbrev cL_lack : ByteArray := method_19_code
def yL_lack : MethodName := ⟨RL, "lack", "(LCapacityRound;II[J)I"⟩
abbrev cL_penalty : ByteArray := method_20_code
def yL_penalty : MethodName := ⟨RL, "penalty", "(LCapacityRound;II[J)I"⟩
abbrev cL_law : ByteArray := code
def yL_law : MethodName := ⟨RL, "law", "([I)Z"⟩
def wsX0_valueOf : List Cond := .code yX0_valueOf cX0_valueOf 2 (some .int) :: ([.fieldLink RX0 17 "CapacityRound$Demand" "lowerAmount" "I", .fieldLink RX0 24 "CapacityRound$Demand" "topPrice" "I", .fieldLink RX0 21 "CapacityRound$Demand" "upperAmount" "I"] ++ wsX00)
def wsX0_change : List Cond := .code yX0_change cX0_change 5 none :: ([.fieldLink RX0 17 "CapacityRound$Demand" "lowerAmount" "I", .fieldLink RX0 21 "CapacityRound$Demand" "upperAmount" "I", .fieldLink RX0 24 "CapacityRound$Demand" "topPrice" "I", .fieldLink RX0 9 "CapacityRound$Demand" "worths" "[I", .methodLink RX0 27 yX0_valueOf, .instanceMethod yX0_valueOf, .selects RX0 yX0_valueOf yX0_valueOf, .initialized RX0, .code yX0_valueOf cX0_valueOf 2 (some .int)] ++ wsX00)
def wsX0_init : List Cond := .code yX0_init cX0_init 1 none :: ([.methodLink RX0 1 objectInit, .instanceMethod objectInit, .code objectInit ⟨#[0xb1]⟩ 1 none, .arrayClass .int, .fieldLink RX0 9 "CapacityRound$Demand" "worths" "[I", .methodLink RX0 13 yX0_change, .instanceMethod yX0_change, .selects RX0 yX0_change yX0_change, .initialized RX0, .code yX0_change cX0_change 5 none, .fieldLink RX0 17 "CapacityRound$Demand" "lowerAmount" "I", .fieldLink RX0 21 "CapacityRound$Demand" "upperAmount" "I", .fieldLink RX0 24 "CapacityRound$Demand" "topPrice" "I", .methodLink RX0 27 yX0_valueOf, .instanceMethod yX0_valueOf, .selects RX0 yX0_valueOf yX0_valueOf, .code yX0_valueOf cX0_valueOf 2 (some .int)] ++ wsX00)
def wsX0_worthOf : List Cond := .code yX0_worthOf cX0_worthOf 2 (some .int) :: ([.fieldLink RX0 9 "CapacityRound$Demand" "worths" "[I", .methodLink RX0 31 Lib.Math.min.name, .static Lib.Math.min.name, .initialized "java/lang/Math", .code Lib.Math.min.name Lib.Math.min.code 2 (some .int), .methodLink RX0 37 Lib.Math.max.name, .static Lib.Math.max.name, .code Lib.Math.max.name Lib.Math.max.code 2 (some .int)] ++ wsX00)
def wsX1_init : List Cond := .code yX1_init cX1_init 1 none :: ([.methodLink RX1 3 objectInit, .instanceMethod objectInit, .code objectInit ⟨#[0xb1]⟩ 1 none, .arrayClass .int, .fieldLink RX1 11 "CapacityRound$Queue" "parties" "[I", .fieldLink RX1 15 "CapacityRound$Queue" "amounts" "[I", .fieldLink RX1 18 "CapacityRound$Queue" "terms" "[I", .fieldLink RX1 21 "CapacityRound$Queue" "order" "[I", .fieldLink RX1 24 "CapacityRound$Queue" "exits" "[I", .arrayClass .boolean, .fieldLink RX1 27 "CapacityRound$Queue" "in" "[Z", .fieldLink RX1 31 "CapacityRound$Queue" "count" "I"] ++ wsX10)
def wsX1_isFull : List Cond := .code yX1_isFull cX1_isFull 1 (some .boolean) :: ([.fieldLink RX1 31 "CapacityRound$Queue" "count" "I"] ++ wsX10)
def wsX1_has : List Cond := .code yX1_has cX1_has 2 (some .boolean) :: ([.fieldLink RX1 31 "CapacityRound$Queue" "count" "I"] ++ wsX10)
def wsX1_clear : List Cond := .code yX1_clear cX1_clear 1 none :: ([.fieldLink RX1 31 "CapacityRound$Queue" "count" "I"] ++ wsX10)
def wsX1_add : List Cond := .code yX1_add cX1_add 7 (some .int) :: ([.fieldLink RX1 31 "CapacityRound$Queue" "count" "I", .fieldLink RX1 24 "CapacityRound$Queue" "exits" "[I", .fieldLink RX1 21 "CapacityRound$Queue" "order" "[I", .fieldLink RX1 11 "CapacityRound$Queue" "parties" "[I", .fieldLink RX1 15 "CapacityRound$Queue" "amounts" "[I", .fieldLink RX1 18 "CapacityRound$Queue" "terms" "[I"] ++ wsX10)
def wsX1_amountUpTo : List Cond := .code yX1_amountUpTo cX1_amountUpTo 4 (some .int) :: ([.fieldLink RX1 31 "CapacityRound$Queue" "count" "I", .fieldLink RX1 24 "CapacityRound$Queue" "exits" "[I", .fieldLink RX1 15 "CapacityRound$Queue" "amounts" "[I"] ++ wsX10)
def wsX1_bestFirst : List Cond := .code yX1_bestFirst cX1_bestFirst 10 (some .int) :: ([.fieldLink RX1 31 "CapacityRound$Queue" "count" "I", .fieldLink RX1 21 "CapacityRound$Queue" "order" "[I", .fieldLink RX1 15 "CapacityRound$Queue" "amounts" "[I", .fieldLink RX1 24 "CapacityRound$Queue" "exits" "[I", .methodLink RX1 35 yX0_worthOf, .instanceMethod yX0_worthOf, .selects RX0 yX0_worthOf yX0_worthOf, .initialized RX0, .code yX0_worthOf cX0_worthOf 2 (some .int), .fieldLink RX0 9 "CapacityRound$Demand" "worths" "[I", .methodLink RX0 31 Lib.Math.min.name, .static Lib.Math.min.name, .initialized "java/lang/Math", .code Lib.Math.min.name Lib.Math.min.code 2 (some .int), .methodLink RX0 37 Lib.Math.max.name, .static Lib.Math.max.name, .code Lib.Math.max.name Lib.Math.max.code 2 (some .int)] ++ wsX10 ++ wsX00)
def wsX1_priceOfFirst : List Cond := .code yX1_priceOfFirst cX1_priceOfFirst 2 (some .int) :: ([.fieldLink RX1 31 "CapacityRound$Queue" "count" "I", .fieldLink RX1 24 "CapacityRound$Queue" "exits" "[I", .fieldLink RX1 21 "CapacityRound$Queue" "order" "[I"] ++ wsX10)
def wsX1_isAmongFirst : List Cond := .code yX1_isAmongFirst cX1_isAmongFirst 4 (some .boolean) :: ([.fieldLink RX1 31 "CapacityRound$Queue" "count" "I", .fieldLink RX1 21 "CapacityRound$Queue" "order" "[I"] ++ wsX10)
def wsX1_dearestIn : List Cond := .code yX1_dearestIn cX1_dearestIn 3 (some .int) :: ([.fieldLink RX1 31 "CapacityRound$Queue" "count" "I", .fieldLink RX1 27 "CapacityRound$Queue" "in" "[Z", .fieldLink RX1 24 "CapacityRound$Queue" "exits" "[I"] ++ wsX10)
def wsX1_exitOf : List Cond := .code yX1_exitOf cX1_exitOf 2 (some .int) :: ([.fieldLink RX1 24 "CapacityRound$Queue" "exits" "[I"] ++ wsX10)
def wsX1_priceByClock_r1 : List Cond := [Cond.fieldLink RX1 31 "CapacityRound$Queue" "count" "I", Cond.fieldLink RX1 27 "CapacityRound$Queue" "in" "[Z", Cond.fieldLink RX1 15 "CapacityRound$Queue" "amounts" "[I", Cond.fieldLink RX1 24 "CapacityRound$Queue" "exits" "[I", Cond.methodLink RX1 35 yX0_worthOf, Cond.instanceMethod yX0_worthOf, Cond.selects RX0 yX0_worthOf yX0_worthOf, Cond.initialized RX0, Cond.code yX0_worthOf cX0_worthOf 2 (some .int), Cond.fieldLink RX0 9 "CapacityRound$Demand" "worths" "[I", Cond.methodLink RX0 31 Lib.Math.min.name, Cond.static Lib.Math.min.name, Cond.initialized "java/lang/Math", Cond.code Lib.Math.min.name Lib.Math.min.code 2 (some .int), Cond.methodLink RX0 37 Lib.Math.max.name, Cond.static Lib.Math.max.name, Cond.code Lib.Math.max.name Lib.Math.max.code 2 (some .int), Cond.methodLink RX1 41 yX1_dearestIn, Cond.instanceMethod yX1_dearestIn, Cond.selects RX1 yX1_dearestIn yX1_dearestIn, Cond.initialized RX1, Cond.code yX1_dearestIn cX1_dearestIn 3 (some .int), Cond.methodLink RX1 45 yX1_exitOf, Cond.instanceMethod yX1_exitOf]
def wsX1_priceByClock_r2 : List Cond := [Cond.selects RX1 yX1_exitOf yX1_exitOf, Cond.code yX1_exitOf cX1_exitOf 2 (some .int)]
def wsX1_priceByClock : List Cond := .code yX1_priceByClock cX1_priceByClock 10 (some .int) :: ((wsX1_priceByClock_r1 ++ wsX1_priceByClock_r2) ++ wsX10 ++ wsX00)
def wsX2_init_r1 : List Cond := [Cond.methodLink RX2 1 objectInit, Cond.instanceMethod objectInit, Cond.code objectInit ⟨#[0xb1]⟩ 1 none, Cond.classLink RX2 7 RX0, Cond.instantiable RX0 4, Cond.initialized RX0, Cond.fieldLink RX2 10 "CapacityRound" "demand" "LCapacityRound$Demand;", Cond.classLink RX2 16 RX1, Cond.instantiable RX1 7, Cond.initialized RX1, Cond.fieldLink RX2 19 "CapacityRound" "queue" "LCapacityRound$Queue;", Cond.arrayClass .int, Cond.fieldLink RX2 23 "CapacityRound" "boughtByYear" "[I", Cond.fieldLink RX2 27 "CapacityRound" "incomes" "[I", Cond.fieldLink RX2 30 "CapacityRound" "obligations" "[I", Cond.fieldLink RX2 33 "CapacityRound" "outputs" "[I", Cond.arrayClass .boolean, Cond.fieldLink RX2 36 "CapacityRound" "stressed" "[Z", Cond.fieldLink RX2 40 "CapacityRound" "tradeCount" "I", Cond.fieldLink RX2 44 "CapacityRound" "penaltyRate" "I", Cond.fieldLink RX2 47 "CapacityRound" "penaltyCap" "I", Cond.methodLink RX2 9 yX0_init, Cond.instanceMethod yX0_init, Cond.code yX0_init cX0_init 1 none]
def wsX2_init_r2 : List Cond := [Cond.methodLink RX0 1 objectInit, Cond.fieldLink RX0 9 "CapacityRound$Demand" "worths" "[I", Cond.methodLink RX0 13 yX0_change, Cond.instanceMethod yX0_change, Cond.selects RX0 yX0_change yX0_change, Cond.code yX0_change cX0_change 5 none, Cond.fieldLink RX0 17 "CapacityRound$Demand" "lowerAmount" "I", Cond.fieldLink RX0 21 "CapacityRound$Demand" "upperAmount" "I", Cond.fieldLink RX0 24 "CapacityRound$Demand" "topPrice" "I", Cond.methodLink RX0 27 yX0_valueOf, Cond.instanceMethod yX0_valueOf, Cond.selects RX0 yX0_valueOf yX0_valueOf, Cond.code yX0_valueOf cX0_valueOf 2 (some .int), Cond.methodLink RX2 18 yX1_init, Cond.instanceMethod yX1_init, Cond.code yX1_init cX1_init 1 none, Cond.methodLink RX1 3 objectInit, Cond.fieldLink RX1 11 "CapacityRound$Queue" "parties" "[I", Cond.fieldLink RX1 15 "CapacityRound$Queue" "amounts" "[I", Cond.fieldLink RX1 18 "CapacityRound$Queue" "terms" "[I", Cond.fieldLink RX1 21 "CapacityRound$Queue" "order" "[I", Cond.fieldLink RX1 24 "CapacityRound$Queue" "exits" "[I", Cond.fieldLink RX1 27 "CapacityRound$Queue" "in" "[Z", Cond.fieldLink RX1 31 "CapacityRound$Queue" "count" "I"]
def wsX2_init : List Cond := .code yX2_init cX2_init 1 none :: ((wsX2_init_r1 ++ wsX2_init_r2) ++ wsX00 ++ wsX20 ++ wsX10)
def wsX2_isWithin : List Cond := .code yX2_isWithin cX2_isWithin 3 (some .boolean) :: ([])
def wsX2_setDemand : List Cond := .code yX2_setDemand cX2_setDemand 4 none :: ([.classLink RX2 54 "java/lang/IllegalArgumentException", .initialized "java/lang/IllegalArgumentException", .fieldLink RX2 10 "CapacityRound" "demand" "LCapacityRound$Demand;", .methodLink RX2 50 yX2_isWithin, .static yX2_isWithin, .initialized RX2, .code yX2_isWithin cX2_isWithin 3 (some .boolean), .methodLink RX2 61 yX0_change, .instanceMethod yX0_change, .selects RX0 yX0_change yX0_change, .initialized RX0, .code yX0_change cX0_change 5 none, .fieldLink RX0 17 "CapacityRound$Demand" "lowerAmount" "I", .fieldLink RX0 21 "CapacityRound$Demand" "upperAmount" "I", .fieldLink RX0 24 "CapacityRound$Demand" "topPrice" "I", .fieldLink RX0 9 "CapacityRound$Demand" "worths" "[I", .methodLink RX0 27 yX0_valueOf, .instanceMethod yX0_valueOf, .selects RX0 yX0_valueOf yX0_valueOf, .code yX0_valueOf cX0_valueOf 2 (some .int)] ++ wsX20 ++ wsX00 ++ (vx_atS RX2 58 "java/lang/IllegalArgumentException" ["java/lang/RuntimeException", "java/lang/Exception"]).filter goodWord)
def wsX2_value : List Cond := .code yX2_value cX2_value 2 (some .int) :: ([.classLink RX2 54 "java/lang/IllegalArgumentException", .initialized "java/lang/IllegalArgumentException", .fieldLink RX2 10 "CapacityRound" "demand" "LCapacityRound$Demand;", .methodLink RX2 50 yX2_isWithin, .static yX2_isWithin, .initialized RX2, .code yX2_isWithin cX2_isWithin 3 (some .boolean), .methodLink RX2 67 yX0_valueOf, .instanceMethod yX0_valueOf, .selects RX0 yX0_valueOf yX0_valueOf, .initialized RX0, .code yX0_valueOf cX0_valueOf 2 (some .int), .fieldLink RX0 17 "CapacityRound$Demand" "lowerAmount" "I", .fieldLink RX0 24 "CapacityRound$Demand" "topPrice" "I", .fieldLink RX0 21 "CapacityRound$Demand" "upperAmount" "I"] ++ wsX20 ++ wsX00 ++ (vx_atS RX2 58 "java/lang/IllegalArgumentException" ["java/lang/RuntimeException", "java/lang/Exception"]).filter goodWord)
def wsX2_worth : List Cond := .code yX2_worth cX2_worth 2 (some .int) :: ([.classLink RX2 54 "java/lang/IllegalArgumentException", .initialized "java/lang/IllegalArgumentException", .fieldLink RX2 10 "CapacityRound" "demand" "LCapacityRound$Demand;", .methodLink RX2 50 yX2_isWithin, .static yX2_isWithin, .initialized RX2, .code yX2_isWithin cX2_isWithin 3 (some .boolean), .methodLink RX2 73 yX0_worthOf, .instanceMethod yX0_worthOf, .selects RX0 yX0_worthOf yX0_worthOf, .initialized RX0, .code yX0_worthOf cX0_worthOf 2 (some .int), .fieldLink RX0 9 "CapacityRound$Demand" "worths" "[I", .methodLink RX0 31 Lib.Math.min.name, .static Lib.Math.min.name, .initialized "java/lang/Math", .code Lib.Math.min.name Lib.Math.min.code 2 (some .int), .methodLink RX0 37 Lib.Math.max.name, .static Lib.Math.max.name, .code Lib.Math.max.name Lib.Math.max.code 2 (some .int)] ++ wsX20 ++ wsX00 ++ (vx_atS RX2 58 "java/lang/IllegalArgumentException" ["java/lang/RuntimeException", "java/lang/Exception"]).filter goodWord)
def wsX2_isParty : List Cond := .code yX2_isParty cX2_isParty 1 (some .boolean) :: ([.methodLink RX2 50 yX2_isWithin, .static yX2_isWithin, .initialized RX2, .code yX2_isWithin cX2_isWithin 3 (some .boolean)])
def wsX2_offer_r1 : List Cond := [Cond.classLink RX2 80 "java/lang/IndexOutOfBoundsException", Cond.initialized "java/lang/IndexOutOfBoundsException", Cond.classLink RX2 54 "java/lang/IllegalArgumentException", Cond.initialized "java/lang/IllegalArgumentException", Cond.classLink RX2 91 "java/lang/IllegalStateException", Cond.initialized "java/lang/IllegalStateException", Cond.fieldLink RX2 19 "CapacityRound" "queue" "LCapacityRound$Queue;", Cond.methodLink RX2 76 yX2_isParty, Cond.static yX2_isParty, Cond.initialized RX2, Cond.code yX2_isParty cX2_isParty 1 (some .boolean), Cond.methodLink RX2 50 yX2_isWithin, Cond.static yX2_isWithin, Cond.code yX2_isWithin cX2_isWithin 3 (some .boolean), Cond.methodLink RX2 87 yX1_isFull, Cond.instanceMethod yX1_isFull, Cond.selects RX1 yX1_isFull yX1_isFull, Cond.initialized RX1, Cond.code yX1_isFull cX1_isFull 1 (some .boolean), Cond.fieldLink RX1 31 "CapacityRound$Queue" "count" "I", Cond.methodLink RX2 96 yX1_add, Cond.instanceMethod yX1_add, Cond.selects RX1 yX1_add yX1_add, Cond.code yX1_add cX1_add 7 (some .int)]
def wsX2_offer_r2 : List Cond := [Cond.fieldLink RX1 24 "CapacityRound$Queue" "exits" "[I", Cond.fieldLink RX1 21 "CapacityRound$Queue" "order" "[I", Cond.fieldLink RX1 11 "CapacityRound$Queue" "parties" "[I", Cond.fieldLink RX1 15 "CapacityRound$Queue" "amounts" "[I", Cond.fieldLink RX1 18 "CapacityRound$Queue" "terms" "[I"]
def wsX2_offer : List Cond := .code yX2_offer cX2_offer 6 (some .int) :: ((wsX2_offer_r1 ++ wsX2_offer_r2) ++ wsX20 ++ wsX10 ++ (vx_atS RX2 84 "java/lang/IndexOutOfBoundsException" ["java/lang/RuntimeException", "java/lang/Exception"]).filter goodWord ++ (vx_atS RX2 58 "java/lang/IllegalArgumentException" ["java/lang/RuntimeException", "java/lang/Exception"]).filter goodWord ++ (vx_atS RX2 95 "java/lang/IllegalStateException" ["java/lang/RuntimeException", "java/lang/Exception"]).filter goodWord)
def wsX2_offers : List Cond := .code yX2_offers cX2_offers 1 (some .int) :: ([.fieldLink RX2 19 "CapacityRound" "queue" "LCapacityRound$Queue;", .fieldLink RX2 100 "CapacityRound$Queue" "count" "I"] ++ wsX20 ++ wsX10)
def wsX2_supply : List Cond := .code yX2_supply cX2_supply 2 (some .int) :: ([.classLink RX2 54 "java/lang/IllegalArgumentException", .initialized "java/lang/IllegalArgumentException", .fieldLink RX2 19 "CapacityRound" "queue" "LCapacityRound$Queue;", .methodLink RX2 50 yX2_isWithin, .static yX2_isWithin, .initialized RX2, .code yX2_isWithin cX2_isWithin 3 (some .boolean), .methodLink RX2 105 yX1_amountUpTo, .instanceMethod yX1_amountUpTo, .selects RX1 yX1_amountUpTo yX1_amountUpTo, .initialized RX1, .code yX1_amountUpTo cX1_amountUpTo 4 (some .int), .fieldLink RX1 31 "CapacityRound$Queue" "count" "I", .fieldLink RX1 24 "CapacityRound$Queue" "exits" "[I", .fieldLink RX1 15 "CapacityRound$Queue" "amounts" "[I"] ++ wsX20 ++ wsX10 ++ (vx_atS RX2 58 "java/lang/IllegalArgumentException" ["java/lang/RuntimeException", "java/lang/Exception"]).filter goodWord)
def wsX2_isYear : List Cond := .code yX2_isYear cX2_isYear 1 (some .boolean) :: ([.methodLink RX2 50 yX2_isWithin, .static yX2_isWithin, .initialized RX2, .code yX2_isWithin cX2_isWithin 3 (some .boolean)])
def wsX2_clearing_r1 : List Cond := [Cond.classLink RX2 80 "java/lang/IndexOutOfBoundsException", Cond.initialized "java/lang/IndexOutOfBoundsException", Cond.fieldLink RX2 19 "CapacityRound" "queue" "LCapacityRound$Queue;", Cond.fieldLink RX2 10 "CapacityRound" "demand" "LCapacityRound$Demand;", Cond.fieldLink RX2 23 "CapacityRound" "boughtByYear" "[I", Cond.methodLink RX2 108 yX2_isYear, Cond.static yX2_isYear, Cond.initialized RX2, Cond.code yX2_isYear cX2_isYear 1 (some .boolean), Cond.methodLink RX2 50 yX2_isWithin, Cond.static yX2_isWithin, Cond.code yX2_isWithin cX2_isWithin 3 (some .boolean), Cond.methodLink RX2 113 yX1_bestFirst, Cond.instanceMethod yX1_bestFirst, Cond.selects RX1 yX1_bestFirst yX1_bestFirst, Cond.initialized RX1, Cond.code yX1_bestFirst cX1_bestFirst 10 (some .int), Cond.fieldLink RX1 31 "CapacityRound$Queue" "count" "I", Cond.fieldLink RX1 21 "CapacityRound$Queue" "order" "[I", Cond.fieldLink RX1 15 "CapacityRound$Queue" "amounts" "[I", Cond.fieldLink RX1 24 "CapacityRound$Queue" "exits" "[I", Cond.methodLink RX1 35 yX0_worthOf, Cond.instanceMethod yX0_worthOf, Cond.selects RX0 yX0_worthOf yX0_worthOf]
def wsX2_clearing_r2 : List Cond := [Cond.initialized RX0, Cond.code yX0_worthOf cX0_worthOf 2 (some .int), Cond.fieldLink RX0 9 "CapacityRound$Demand" "worths" "[I", Cond.methodLink RX0 31 Lib.Math.min.name, Cond.static Lib.Math.min.name, Cond.initialized "java/lang/Math", Cond.code Lib.Math.min.name Lib.Math.min.code 2 (some .int), Cond.methodLink RX0 37 Lib.Math.max.name, Cond.static Lib.Math.max.name, Cond.code Lib.Math.max.name Lib.Math.max.code 2 (some .int), Cond.methodLink RX2 117 yX1_priceOfFirst, Cond.instanceMethod yX1_priceOfFirst, Cond.selects RX1 yX1_priceOfFirst yX1_priceOfFirst, Cond.code yX1_priceOfFirst cX1_priceOfFirst 2 (some .int)]
def wsX2_clearing : List Cond := .code yX2_clearing cX2_clearing 2 (some .int) :: ((wsX2_clearing_r1 ++ wsX2_clearing_r2) ++ wsX20 ++ wsX10 ++ wsX00 ++ (vx_atS RX2 84 "java/lang/IndexOutOfBoundsException" ["java/lang/RuntimeException", "java/lang/Exception"]).filter goodWord)
def wsX2_clearingByClock_r1 : List Cond := [Cond.classLink RX2 80 "java/lang/IndexOutOfBoundsException", Cond.initialized "java/lang/IndexOutOfBoundsException", Cond.fieldLink RX2 19 "CapacityRound" "queue" "LCapacityRound$Queue;", Cond.fieldLink RX2 10 "CapacityRound" "demand" "LCapacityRound$Demand;", Cond.fieldLink RX2 23 "CapacityRound" "boughtByYear" "[I", Cond.methodLink RX2 108 yX2_isYear, Cond.static yX2_isYear, Cond.initialized RX2, Cond.code yX2_isYear cX2_isYear 1 (some .boolean), Cond.methodLink RX2 50 yX2_isWithin, Cond.static yX2_isWithin, Cond.code yX2_isWithin cX2_isWithin 3 (some .boolean), Cond.methodLink RX2 120 yX1_priceByClock, Cond.instanceMethod yX1_priceByClock, Cond.selects RX1 yX1_priceByClock yX1_priceByClock, Cond.initialized RX1, Cond.code yX1_priceByClock cX1_priceByClock 10 (some .int), Cond.fieldLink RX1 31 "CapacityRound$Queue" "count" "I", Cond.fieldLink RX1 27 "CapacityRound$Queue" "in" "[Z", Cond.fieldLink RX1 15 "CapacityRound$Queue" "amounts" "[I", Cond.fieldLink RX1 24 "CapacityRound$Queue" "exits" "[I", Cond.methodLink RX1 35 yX0_worthOf, Cond.instanceMethod yX0_worthOf, Cond.selects RX0 yX0_worthOf yX0_worthOf]
def wsX2_clearingByClock_r2 : List Cond := [Cond.initialized RX0, Cond.code yX0_worthOf cX0_worthOf 2 (some .int), Cond.fieldLink RX0 9 "CapacityRound$Demand" "worths" "[I", Cond.methodLink RX0 31 Lib.Math.min.name, Cond.static Lib.Math.min.name, Cond.initialized "java/lang/Math", Cond.code Lib.Math.min.name Lib.Math.min.code 2 (some .int), Cond.methodLink RX0 37 Lib.Math.max.name, Cond.static Lib.Math.max.name, Cond.code Lib.Math.max.name Lib.Math.max.code 2 (some .int), Cond.methodLink RX1 41 yX1_dearestIn, Cond.instanceMethod yX1_dearestIn, Cond.selects RX1 yX1_dearestIn yX1_dearestIn, Cond.code yX1_dearestIn cX1_dearestIn 3 (some .int), Cond.methodLink RX1 45 yX1_exitOf, Cond.instanceMethod yX1_exitOf, Cond.selects RX1 yX1_exitOf yX1_exitOf, Cond.code yX1_exitOf cX1_exitOf 2 (some .int)]
def wsX2_clearingByClock : List Cond := .code yX2_clearingByClock cX2_clearingByClock 2 (some .int) :: ((wsX2_clearingByClock_r1 ++ wsX2_clearingByClock_r2) ++ wsX20 ++ wsX10 ++ wsX00 ++ (vx_atS RX2 84 "java/lang/IndexOutOfBoundsException" ["java/lang/RuntimeException", "java/lang/Exception"]).filter goodWord)
def wsX2_wouldTake_r1 : List Cond := [Cond.classLink RX2 80 "java/lang/IndexOutOfBoundsException", Cond.initialized "java/lang/IndexOutOfBoundsException", Cond.fieldLink RX2 19 "CapacityRound" "queue" "LCapacityRound$Queue;", Cond.fieldLink RX2 10 "CapacityRound" "demand" "LCapacityRound$Demand;", Cond.fieldLink RX2 23 "CapacityRound" "boughtByYear" "[I", Cond.methodLink RX2 123 yX1_has, Cond.instanceMethod yX1_has, Cond.selects RX1 yX1_has yX1_has, Cond.initialized RX1, Cond.code yX1_has cX1_has 2 (some .boolean), Cond.fieldLink RX1 31 "CapacityRound$Queue" "count" "I", Cond.methodLink RX2 108 yX2_isYear, Cond.static yX2_isYear, Cond.initialized RX2, Cond.code yX2_isYear cX2_isYear 1 (some .boolean), Cond.methodLink RX2 50 yX2_isWithin, Cond.static yX2_isWithin, Cond.code yX2_isWithin cX2_isWithin 3 (some .boolean), Cond.methodLink RX2 113 yX1_bestFirst, Cond.instanceMethod yX1_bestFirst, Cond.selects RX1 yX1_bestFirst yX1_bestFirst, Cond.code yX1_bestFirst cX1_bestFirst 10 (some .int), Cond.fieldLink RX1 21 "CapacityRound$Queue" "order" "[I", Cond.fieldLink RX1 15 "CapacityRound$Queue" "amounts" "[I"]
def wsX2_wouldTake_r2 : List Cond := [Cond.fieldLink RX1 24 "CapacityRound$Queue" "exits" "[I", Cond.methodLink RX1 35 yX0_worthOf, Cond.instanceMethod yX0_worthOf, Cond.selects RX0 yX0_worthOf yX0_worthOf, Cond.initialized RX0, Cond.code yX0_worthOf cX0_worthOf 2 (some .int), Cond.fieldLink RX0 9 "CapacityRound$Demand" "worths" "[I", Cond.methodLink RX0 31 Lib.Math.min.name, Cond.static Lib.Math.min.name, Cond.initialized "java/lang/Math", Cond.code Lib.Math.min.name Lib.Math.min.code 2 (some .int), Cond.methodLink RX0 37 Lib.Math.max.name, Cond.static Lib.Math.max.name, Cond.code Lib.Math.max.name Lib.Math.max.code 2 (some .int), Cond.methodLink RX2 128 yX1_isAmongFirst, Cond.instanceMethod yX1_isAmongFirst, Cond.selects RX1 yX1_isAmongFirst yX1_isAmongFirst, Cond.code yX1_isAmongFirst cX1_isAmongFirst 4 (some .boolean)]
def wsX2_wouldTake : List Cond := .code yX2_wouldTake cX2_wouldTake 3 (some .boolean) :: ((wsX2_wouldTake_r1 ++ wsX2_wouldTake_r2) ++ wsX20 ++ wsX10 ++ wsX00 ++ (vx_atS RX2 84 "java/lang/IndexOutOfBoundsException" ["java/lang/RuntimeException", "java/lang/Exception"]).filter goodWord)
def wsX2_yearCell : List Cond := .code yX2_yearCell cX2_yearCell 2 (some .int) :: ([])
def wsX2_hourCell : List Cond := .code yX2_hourCell cX2_hourCell 3 (some .int) :: ([.methodLink RX2 145 yX2_yearCell, .static yX2_yearCell, .initialized RX2, .code yX2_yearCell cX2_yearCell 2 (some .int)])
def wsX2_take : List Cond := .code yX2_take cX2_take 9 none :: ([.fieldLink RX2 19 "CapacityRound" "queue" "LCapacityRound$Queue;", .fieldLink RX2 177 "CapacityRound$Queue" "parties" "[I", .fieldLink RX2 180 "CapacityRound$Queue" "amounts" "[I", .fieldLink RX2 183 "CapacityRound$Queue" "terms" "[I", .methodLink RX2 186 Lib.Math.min.name, .static Lib.Math.min.name, .initialized "java/lang/Math", .code Lib.Math.min.name Lib.Math.min.code 2 (some .int), .fieldLink RX2 23 "CapacityRound" "boughtByYear" "[I", .fieldLink RX2 27 "CapacityRound" "incomes" "[I", .fieldLink RX2 30 "CapacityRound" "obligations" "[I", .methodLink RX2 145 yX2_yearCell, .static yX2_yearCell, .initialized RX2, .code yX2_yearCell cX2_yearCell 2 (some .int), .methodLink RX2 154 yX2_hourCell, .static yX2_hourCell, .code yX2_hourCell cX2_hourCell 3 (some .int)] ++ wsX20 ++ wsX10)
def wsX2_run_r1 : List Cond := [Cond.classLink RX2 80 "java/lang/IndexOutOfBoundsException", Cond.initialized "java/lang/IndexOutOfBoundsException", Cond.classLink RX2 91 "java/lang/IllegalStateException", Cond.initialized "java/lang/IllegalStateException", Cond.fieldLink RX2 19 "CapacityRound" "queue" "LCapacityRound$Queue;", Cond.fieldLink RX2 100 "CapacityRound$Queue" "count" "I", Cond.fieldLink RX2 10 "CapacityRound" "demand" "LCapacityRound$Demand;", Cond.fieldLink RX2 23 "CapacityRound" "boughtByYear" "[I", Cond.fieldLink RX2 134 "CapacityRound$Queue" "order" "[I", Cond.methodLink RX2 108 yX2_isYear, Cond.static yX2_isYear, Cond.initialized RX2, Cond.code yX2_isYear cX2_isYear 1 (some .boolean), Cond.methodLink RX2 50 yX2_isWithin, Cond.static yX2_isWithin, Cond.code yX2_isWithin cX2_isWithin 3 (some .boolean), Cond.methodLink RX2 113 yX1_bestFirst, Cond.instanceMethod yX1_bestFirst, Cond.selects RX1 yX1_bestFirst yX1_bestFirst, Cond.initialized RX1, Cond.code yX1_bestFirst cX1_bestFirst 10 (some .int), Cond.fieldLink RX1 31 "CapacityRound$Queue" "count" "I", Cond.fieldLink RX1 21 "CapacityRound$Queue" "order" "[I", Cond.fieldLink RX1 15 "CapacityRound$Queue" "amounts" "[I"]
def wsX2_run_r2 : List Cond := [Cond.fieldLink RX1 24 "CapacityRound$Queue" "exits" "[I", Cond.methodLink RX1 35 yX0_worthOf, Cond.instanceMethod yX0_worthOf, Cond.selects RX0 yX0_worthOf yX0_worthOf, Cond.initialized RX0, Cond.code yX0_worthOf cX0_worthOf 2 (some .int), Cond.fieldLink RX0 9 "CapacityRound$Demand" "worths" "[I", Cond.methodLink RX0 31 Lib.Math.min.name, Cond.static Lib.Math.min.name, Cond.initialized "java/lang/Math", Cond.code Lib.Math.min.name Lib.Math.min.code 2 (some .int), Cond.methodLink RX0 37 Lib.Math.max.name, Cond.static Lib.Math.max.name, Cond.code Lib.Math.max.name Lib.Math.max.code 2 (some .int), Cond.methodLink RX2 117 yX1_priceOfFirst, Cond.instanceMethod yX1_priceOfFirst, Cond.selects RX1 yX1_priceOfFirst yX1_priceOfFirst, Cond.code yX1_priceOfFirst cX1_priceOfFirst 2 (some .int), Cond.methodLink RX2 137 yX2_take, Cond.instanceMethod yX2_take, Cond.selects RX2 yX2_take yX2_take, Cond.code yX2_take cX2_take 9 none, Cond.fieldLink RX2 177 "CapacityRound$Queue" "parties" "[I", Cond.fieldLink RX2 180 "CapacityRound$Queue" "amounts" "[I"]
def wsX2_run_r3 : List Cond := [Cond.fieldLink RX2 183 "CapacityRound$Queue" "terms" "[I", Cond.methodLink RX2 186 Lib.Math.min.name, Cond.fieldLink RX2 27 "CapacityRound" "incomes" "[I", Cond.fieldLink RX2 30 "CapacityRound" "obligations" "[I", Cond.methodLink RX2 145 yX2_yearCell, Cond.static yX2_yearCell, Cond.code yX2_yearCell cX2_yearCell 2 (some .int), Cond.methodLink RX2 154 yX2_hourCell, Cond.static yX2_hourCell, Cond.code yX2_hourCell cX2_hourCell 3 (some .int), Cond.methodLink RX2 140 yX1_clear, Cond.instanceMethod yX1_clear, Cond.selects RX1 yX1_clear yX1_clear, Cond.code yX1_clear cX1_clear 1 none]
def wsX2_run : List Cond := .code yX2_run cX2_run 5 (some .int) :: ((wsX2_run_r1 ++ (wsX2_run_r2 ++ wsX2_run_r3)) ++ wsX20 ++ wsX10 ++ wsX00 ++ (vx_atS RX2 84 "java/lang/IndexOutOfBoundsException" ["java/lang/RuntimeException", "java/lang/Exception"]).filter goodWord ++ (vx_atS RX2 95 "java/lang/IllegalStateException" ["java/lang/RuntimeException", "java/lang/Exception"]).filter goodWord)
def wsX2_bought : List Cond := .code yX2_bought cX2_bought 2 (some .int) :: ([.classLink RX2 80 "java/lang/IndexOutOfBoundsException", .initialized "java/lang/IndexOutOfBoundsException", .fieldLink RX2 23 "CapacityRound" "boughtByYear" "[I", .methodLink RX2 108 yX2_isYear, .static yX2_isYear, .initialized RX2, .code yX2_isYear cX2_isYear 1 (some .boolean), .methodLink RX2 50 yX2_isWithin, .static yX2_isWithin, .code yX2_isWithin cX2_isWithin 3 (some .boolean)] ++ wsX20 ++ (vx_atS RX2 84 "java/lang/IndexOutOfBoundsException" ["java/lang/RuntimeException", "java/lang/Exception"]).filter goodWord)
def wsX2_income : List Cond := .code yX2_income cX2_income 3 (some .int) :: ([.classLink RX2 80 "java/lang/IndexOutOfBoundsException", .initialized "java/lang/IndexOutOfBoundsException", .fieldLink RX2 27 "CapacityRound" "incomes" "[I", .methodLink RX2 76 yX2_isParty, .static yX2_isParty, .initialized RX2, .code yX2_isParty cX2_isParty 1 (some .boolean), .methodLink RX2 50 yX2_isWithin, .static yX2_isWithin, .code yX2_isWithin cX2_isWithin 3 (some .boolean), .methodLink RX2 108 yX2_isYear, .static yX2_isYear, .code yX2_isYear cX2_isYear 1 (some .boolean), .methodLink RX2 145 yX2_yearCell, .static yX2_yearCell, .code yX2_yearCell cX2_yearCell 2 (some .int)] ++ wsX20 ++ (vx_atS RX2 84 "java/lang/IndexOutOfBoundsException" ["java/lang/RuntimeException", "java/lang/Exception"]).filter goodWord)
def wsX2_isHour : List Cond := .code yX2_isHour cX2_isHour 1 (some .boolean) :: ([.methodLink RX2 50 yX2_isWithin, .static yX2_isWithin, .initialized RX2, .code yX2_isWithin cX2_isWithin 3 (some .boolean)])
def wsX2_obligation : List Cond := .code yX2_obligation cX2_obligation 4 (some .int) :: ([.classLink RX2 80 "java/lang/IndexOutOfBoundsException", .initialized "java/lang/IndexOutOfBoundsException", .fieldLink RX2 30 "CapacityRound" "obligations" "[I", .methodLink RX2 76 yX2_isParty, .static yX2_isParty, .initialized RX2, .code yX2_isParty cX2_isParty 1 (some .boolean), .methodLink RX2 50 yX2_isWithin, .static yX2_isWithin, .code yX2_isWithin cX2_isWithin 3 (some .boolean), .methodLink RX2 108 yX2_isYear, .static yX2_isYear, .code yX2_isYear cX2_isYear 1 (some .boolean), .methodLink RX2 149 yX2_isHour, .static yX2_isHour, .code yX2_isHour cX2_isHour 1 (some .boolean), .methodLink RX2 154 yX2_hourCell, .static yX2_hourCell, .code yX2_hourCell cX2_hourCell 3 (some .int), .methodLink RX2 145 yX2_yearCell, .static yX2_yearCell, .code yX2_yearCell cX2_yearCell 2 (some .int)] ++ wsX20 ++ (vx_atS RX2 84 "java/lang/IndexOutOfBoundsException" ["java/lang/RuntimeException", "java/lang/Exception"]).filter goodWord)
def wsX2_leastObligation : List Cond := .code yX2_leastObligation cX2_leastObligation 7 (some .int) :: ([.fieldLink RX2 30 "CapacityRound" "obligations" "[I", .methodLink RX2 186 Lib.Math.min.name, .static Lib.Math.min.name, .initialized "java/lang/Math", .code Lib.Math.min.name Lib.Math.min.code 2 (some .int), .methodLink RX2 154 yX2_hourCell, .static yX2_hourCell, .initialized RX2, .code yX2_hourCell cX2_hourCell 3 (some .int), .methodLink RX2 145 yX2_yearCell, .static yX2_yearCell, .code yX2_yearCell cX2_yearCell 2 (some .int)] ++ wsX20)
def wsX2_trade_r1 : List Cond := [Cond.classLink RX2 80 "java/lang/IndexOutOfBoundsException", Cond.initialized "java/lang/IndexOutOfBoundsException", Cond.classLink RX2 54 "java/lang/IllegalArgumentException", Cond.initialized "java/lang/IllegalArgumentException", Cond.classLink RX2 91 "java/lang/IllegalStateException", Cond.initialized "java/lang/IllegalStateException", Cond.fieldLink RX2 30 "CapacityRound" "obligations" "[I", Cond.fieldLink RX2 40 "CapacityRound" "tradeCount" "I", Cond.methodLink RX2 76 yX2_isParty, Cond.static yX2_isParty, Cond.initialized RX2, Cond.code yX2_isParty cX2_isParty 1 (some .boolean), Cond.methodLink RX2 50 yX2_isWithin, Cond.static yX2_isWithin, Cond.code yX2_isWithin cX2_isWithin 3 (some .boolean), Cond.methodLink RX2 108 yX2_isYear, Cond.static yX2_isYear, Cond.code yX2_isYear cX2_isYear 1 (some .boolean), Cond.methodLink RX2 149 yX2_isHour, Cond.static yX2_isHour, Cond.code yX2_isHour cX2_isHour 1 (some .boolean), Cond.methodLink RX2 160 yX2_leastObligation, Cond.instanceMethod yX2_leastObligation, Cond.selects RX2 yX2_leastObligation yX2_leastObligation]
def wsX2_trade_r2 : List Cond := [Cond.code yX2_leastObligation cX2_leastObligation 7 (some .int), Cond.methodLink RX2 186 Lib.Math.min.name, Cond.static Lib.Math.min.name, Cond.initialized "java/lang/Math", Cond.code Lib.Math.min.name Lib.Math.min.code 2 (some .int), Cond.methodLink RX2 154 yX2_hourCell, Cond.static yX2_hourCell, Cond.code yX2_hourCell cX2_hourCell 3 (some .int), Cond.methodLink RX2 145 yX2_yearCell, Cond.static yX2_yearCell, Cond.code yX2_yearCell cX2_yearCell 2 (some .int)]
def wsX2_trade : List Cond := .code yX2_trade cX2_trade 9 (some .int) :: ((wsX2_trade_r1 ++ wsX2_trade_r2) ++ wsX20 ++ (vx_atS RX2 84 "java/lang/IndexOutOfBoundsException" ["java/lang/RuntimeException", "java/lang/Exception"]).filter goodWord ++ (vx_atS RX2 58 "java/lang/IllegalArgumentException" ["java/lang/RuntimeException", "java/lang/Exception"]).filter goodWord ++ (vx_atS RX2 95 "java/lang/IllegalStateException" ["java/lang/RuntimeException", "java/lang/Exception"]).filter goodWord)
def wsX2_trades : List Cond := .code yX2_trades cX2_trades 1 (some .int) :: ([.fieldLink RX2 40 "CapacityRound" "tradeCount" "I"] ++ wsX20)
def wsX2_stress : List Cond := .code yX2_stress cX2_stress 4 (some .boolean) :: ([.classLink RX2 80 "java/lang/IndexOutOfBoundsException", .initialized "java/lang/IndexOutOfBoundsException", .fieldLink RX2 36 "CapacityRound" "stressed" "[Z", .methodLink RX2 108 yX2_isYear, .static yX2_isYear, .initialized RX2, .code yX2_isYear cX2_isYear 1 (some .boolean), .methodLink RX2 50 yX2_isWithin, .static yX2_isWithin, .code yX2_isWithin cX2_isWithin 3 (some .boolean), .methodLink RX2 149 yX2_isHour, .static yX2_isHour, .code yX2_isHour cX2_isHour 1 (some .boolean)] ++ wsX20 ++ (vx_atS RX2 84 "java/lang/IndexOutOfBoundsException" ["java/lang/RuntimeException", "java/lang/Exception"]).filter goodWord)
def wsX2_tell : List Cond := .code yX2_tell cX2_tell 7 (some .int) :: ([.classLink RX2 80 "java/lang/IndexOutOfBoundsException", .initialized "java/lang/IndexOutOfBoundsException", .classLink RX2 54 "java/lang/IllegalArgumentException", .initialized "java/lang/IllegalArgumentException", .fieldLink RX2 33 "CapacityRound" "outputs" "[I", .methodLink RX2 76 yX2_isParty, .static yX2_isParty, .initialized RX2, .code yX2_isParty cX2_isParty 1 (some .boolean), .methodLink RX2 50 yX2_isWithin, .static yX2_isWithin, .code yX2_isWithin cX2_isWithin 3 (some .boolean), .methodLink RX2 108 yX2_isYear, .static yX2_isYear, .code yX2_isYear cX2_isYear 1 (some .boolean), .methodLink RX2 149 yX2_isHour, .static yX2_isHour, .code yX2_isHour cX2_isHour 1 (some .boolean), .methodLink RX2 154 yX2_hourCell, .static yX2_hourCell, .code yX2_hourCell cX2_hourCell 3 (some .int), .methodLink RX2 145 yX2_yearCell, .static yX2_yearCell, .code yX2_yearCell cX2_yearCell 2 (some .int)] ++ wsX20 ++ (vx_atS RX2 84 "java/lang/IndexOutOfBoundsException" ["java/lang/RuntimeException", "java/lang/Exception"]).filter goodWord ++ (vx_atS RX2 58 "java/lang/IllegalArgumentException" ["java/lang/RuntimeException", "java/lang/Exception"]).filter goodWord)
def wsX2_setPenalty : List Cond := .code yX2_setPenalty cX2_setPenalty 3 none :: ([.classLink RX2 54 "java/lang/IllegalArgumentException", .initialized "java/lang/IllegalArgumentException", .fieldLink RX2 44 "CapacityRound" "penaltyRate" "I", .fieldLink RX2 47 "CapacityRound" "penaltyCap" "I", .methodLink RX2 50 yX2_isWithin, .static yX2_isWithin, .initialized RX2, .code yX2_isWithin cX2_isWithin 3 (some .boolean)] ++ wsX20 ++ (vx_atS RX2 58 "java/lang/IllegalArgumentException" ["java/lang/RuntimeException", "java/lang/Exception"]).filter goodWord)
def wsX2_lackOf : List Cond := .code yX2_lackOf cX2_lackOf 6 (some .int) :: ([.fieldLink RX2 36 "CapacityRound" "stressed" "[Z", .fieldLink RX2 30 "CapacityRound" "obligations" "[I", .fieldLink RX2 33 "CapacityRound" "outputs" "[I", .methodLink RX2 154 yX2_hourCell, .static yX2_hourCell, .initialized RX2, .code yX2_hourCell cX2_hourCell 3 (some .int), .methodLink RX2 145 yX2_yearCell, .static yX2_yearCell, .code yX2_yearCell cX2_yearCell 2 (some .int)] ++ wsX20)
def wsX2_lack_r1 : List Cond := [Cond.classLink RX2 80 "java/lang/IndexOutOfBoundsException", Cond.initialized "java/lang/IndexOutOfBoundsException", Cond.methodLink RX2 76 yX2_isParty, Cond.static yX2_isParty, Cond.initialized RX2, Cond.code yX2_isParty cX2_isParty 1 (some .boolean), Cond.methodLink RX2 50 yX2_isWithin, Cond.static yX2_isWithin, Cond.code yX2_isWithin cX2_isWithin 3 (some .boolean), Cond.methodLink RX2 108 yX2_isYear, Cond.static yX2_isYear, Cond.code yX2_isYear cX2_isYear 1 (some .boolean), Cond.methodLink RX2 171 yX2_lackOf, Cond.instanceMethod yX2_lackOf, Cond.selects RX2 yX2_lackOf yX2_lackOf, Cond.code yX2_lackOf cX2_lackOf 6 (some .int), Cond.fieldLink RX2 36 "CapacityRound" "stressed" "[Z", Cond.fieldLink RX2 30 "CapacityRound" "obligations" "[I", Cond.fieldLink RX2 33 "CapacityRound" "outputs" "[I", Cond.methodLink RX2 154 yX2_hourCell, Cond.static yX2_hourCell, Cond.code yX2_hourCell cX2_hourCell 3 (some .int), Cond.methodLink RX2 145 yX2_yearCell, Cond.static yX2_yearCell]
def wsX2_lack_r2 : List Cond := [Cond.code yX2_yearCell cX2_yearCell 2 (some .int)]
def wsX2_lack : List Cond := .code yX2_lack cX2_lack 3 (some .int) :: ((wsX2_lack_r1 ++ wsX2_lack_r2) ++ wsX20 ++ (vx_atS RX2 84 "java/lang/IndexOutOfBoundsException" ["java/lang/RuntimeException", "java/lang/Exception"]).filter goodWord)
def wsX2_penaltyOf_r1 : List Cond := [Cond.fieldLink RX2 44 "CapacityRound" "penaltyRate" "I", Cond.fieldLink RX2 27 "CapacityRound" "incomes" "[I", Cond.fieldLink RX2 47 "CapacityRound" "penaltyCap" "I", Cond.constantLong RX2 191 (100), Cond.methodLink RX2 193 Lib.MathLoose.min_long.x, Cond.static Lib.MathLoose.min_long.x, Cond.initialized "java/lang/Math", Cond.code Lib.MathLoose.min_long.x Lib.MathLoose.min_long.code 4 (some .long), Cond.methodLink RX2 196 Lib.MathLoose.max_long.x, Cond.static Lib.MathLoose.max_long.x, Cond.code Lib.MathLoose.max_long.x Lib.MathLoose.max_long.code 4 (some .long), Cond.methodLink RX2 171 yX2_lackOf, Cond.instanceMethod yX2_lackOf, Cond.selects RX2 yX2_lackOf yX2_lackOf, Cond.initialized RX2, Cond.code yX2_lackOf cX2_lackOf 6 (some .int), Cond.fieldLink RX2 36 "CapacityRound" "stressed" "[Z", Cond.fieldLink RX2 30 "CapacityRound" "obligations" "[I", Cond.fieldLink RX2 33 "CapacityRound" "outputs" "[I", Cond.methodLink RX2 154 yX2_hourCell, Cond.static yX2_hourCell, Cond.code yX2_hourCell cX2_hourCell 3 (some .int), Cond.methodLink RX2 145 yX2_yearCell, Cond.static yX2_yearCell]
def wsX2_penaltyOf_r2 : List Cond := [Cond.code yX2_yearCell cX2_yearCell 2 (some .int)]
def wsX2_penaltyOf : List Cond := .code yX2_penaltyOf cX2_penaltyOf 7 (some .int) :: ((wsX2_penaltyOf_r1 ++ wsX2_penaltyOf_r2) ++ wsX20)
def wsX2_penalty_r1 : List Cond := [Cond.classLink RX2 80 "java/lang/IndexOutOfBoundsException", Cond.initialized "java/lang/IndexOutOfBoundsException", Cond.methodLink RX2 76 yX2_isParty, Cond.static yX2_isParty, Cond.initialized RX2, Cond.code yX2_isParty cX2_isParty 1 (some .boolean), Cond.methodLink RX2 50 yX2_isWithin, Cond.static yX2_isWithin, Cond.code yX2_isWithin cX2_isWithin 3 (some .boolean), Cond.methodLink RX2 108 yX2_isYear, Cond.static yX2_isYear, Cond.code yX2_isYear cX2_isYear 1 (some .boolean), Cond.methodLink RX2 174 yX2_penaltyOf, Cond.instanceMethod yX2_penaltyOf, Cond.selects RX2 yX2_penaltyOf yX2_penaltyOf, Cond.code yX2_penaltyOf cX2_penaltyOf 7 (some .int), Cond.fieldLink RX2 44 "CapacityRound" "penaltyRate" "I", Cond.fieldLink RX2 27 "CapacityRound" "incomes" "[I", Cond.fieldLink RX2 47 "CapacityRound" "penaltyCap" "I", Cond.constantLong RX2 191 (100), Cond.methodLink RX2 193 Lib.MathLoose.min_long.x, Cond.static Lib.MathLoose.min_long.x, Cond.initialized "java/lang/Math", Cond.code Lib.MathLoose.min_long.x Lib.MathLoose.min_long.code 4 (some .long)]
def wsX2_penalty_r2 : List Cond := [Cond.methodLink RX2 196 Lib.MathLoose.max_long.x, Cond.static Lib.MathLoose.max_long.x, Cond.code Lib.MathLoose.max_long.x Lib.MathLoose.max_long.code 4 (some .long), Cond.methodLink RX2 171 yX2_lackOf, Cond.instanceMethod yX2_lackOf, Cond.selects RX2 yX2_lackOf yX2_lackOf, Cond.code yX2_lackOf cX2_lackOf 6 (some .int), Cond.fieldLink RX2 36 "CapacityRound" "stressed" "[Z", Cond.fieldLink RX2 30 "CapacityRound" "obligations" "[I", Cond.fieldLink RX2 33 "CapacityRound" "outputs" "[I", Cond.methodLink RX2 154 yX2_hourCell, Cond.static yX2_hourCell, Cond.code yX2_hourCell cX2_hourCell 3 (some .int), Cond.methodLink RX2 145 yX2_yearCell, Cond.static yX2_yearCell, Cond.code yX2_yearCell cX2_yearCell 2 (some .int)]
def wsX2_penalty : List Cond := .code yX2_penalty cX2_penalty 3 (some .int) :: ((wsX2_penalty_r1 ++ wsX2_penalty_r2) ++ wsX20 ++ (vx_atS RX2 84 "java/lang/IndexOutOfBoundsException" ["java/lang/RuntimeException", "java/lang/Exception"]).filter goodWord)
def wsX2_penalties_r1 : List Cond := [Cond.methodLink RX2 174 yX2_penaltyOf, Cond.instanceMethod yX2_penaltyOf, Cond.selects RX2 yX2_penaltyOf yX2_penaltyOf, Cond.initialized RX2, Cond.code yX2_penaltyOf cX2_penaltyOf 7 (some .int), Cond.fieldLink RX2 44 "CapacityRound" "penaltyRate" "I", Cond.fieldLink RX2 27 "CapacityRound" "incomes" "[I", Cond.fieldLink RX2 47 "CapacityRound" "penaltyCap" "I", Cond.constantLong RX2 191 (100), Cond.methodLink RX2 193 Lib.MathLoose.min_long.x, Cond.static Lib.MathLoose.min_long.x, Cond.initialized "java/lang/Math", Cond.code Lib.MathLoose.min_long.x Lib.MathLoose.min_long.code 4 (some .long), Cond.methodLink RX2 196 Lib.MathLoose.max_long.x, Cond.static Lib.MathLoose.max_long.x, Cond.code Lib.MathLoose.max_long.x Lib.MathLoose.max_long.code 4 (some .long), Cond.methodLink RX2 171 yX2_lackOf, Cond.instanceMethod yX2_lackOf, Cond.selects RX2 yX2_lackOf yX2_lackOf, Cond.code yX2_lackOf cX2_lackOf 6 (some .int), Cond.fieldLink RX2 36 "CapacityRound" "stressed" "[Z", Cond.fieldLink RX2 30 "CapacityRound" "obligations" "[I", Cond.fieldLink RX2 33 "CapacityRound" "outputs" "[I", Cond.methodLink RX2 154 yX2_hourCell]
def wsX2_penalties_r2 : List Cond := [Cond.static yX2_hourCell, Cond.code yX2_hourCell cX2_hourCell 3 (some .int), Cond.methodLink RX2 145 yX2_yearCell, Cond.static yX2_yearCell, Cond.code yX2_yearCell cX2_yearCell 2 (some .int)]
def wsX2_penalties : List Cond := .code yX2_penalties cX2_penalties 5 (some .long) :: ((wsX2_penalties_r1 ++ wsX2_penalties_r2) ++ wsX20)
def wsX3_init : List Cond := .code yX3_init cX3_init 1 none :: ([.methodLink RX3 1 objectInit, .instanceMethod objectInit, .code objectInit ⟨#[0xb1]⟩ 1 none, .fieldLink RX3 7 "CapacityRoundModel" "lower" "I", .fieldLink RX3 13 "CapacityRoundModel" "upper" "I", .fieldLink RX3 16 "CapacityRoundModel" "top" "I", .arrayClass .int, .fieldLink RX3 19 "CapacityRoundModel" "party" "[I", .fieldLink RX3 23 "CapacityRoundModel" "amount" "[I", .fieldLink RX3 26 "CapacityRoundModel" "exit" "[I", .fieldLink RX3 29 "CapacityRoundModel" "term" "[I", .fieldLink RX3 32 "CapacityRoundModel" "bought" "[I", .fieldLink RX3 35 "CapacityRoundModel" "income" "[I", .fieldLink RX3 38 "CapacityRoundModel" "obligation" "[I", .fieldLink RX3 41 "CapacityRoundModel" "output" "[I", .arrayClass .boolean, .fieldLink RX3 44 "CapacityRoundModel" "isStress" "[Z", .fieldLink RX3 48 "CapacityRoundModel" "rate" "I", .fieldLink RX3 51 "CapacityRoundModel" "cap" "I"] ++ wsX30)
def wsX3_thrown : List Cond := .code yX3_thrown cX3_thrown 1 (some .int) :: ([.fieldLink RX3 54 "CapacityRoundModel" "thrown" "I"] ++ wsX30)
def wsX3_goes : List Cond := .code yX3_goes cX3_goes 4 (some .boolean) :: ([.fieldLink RX3 54 "CapacityRoundModel" "thrown" "I"] ++ wsX30)
def wsX3_isWithin : List Cond := .code yX3_isWithin cX3_isWithin 3 (some .boolean) :: ([])
def wsX3_isParty : List Cond := .code yX3_isParty cX3_isParty 1 (some .boolean) :: ([])
def wsX3_isYear : List Cond := .code yX3_isYear cX3_isYear 1 (some .boolean) :: ([])
def wsX3_isHour : List Cond := .code yX3_isHour cX3_isHour 1 (some .boolean) :: ([])
def wsX3_place : List Cond := .code yX3_place cX3_place 3 (some .int) :: ([])
def wsX3_setDemand : List Cond := .code yX3_setDemand cX3_setDemand 5 none :: ([.fieldLink RX3 7 "CapacityRoundModel" "lower" "I", .fieldLink RX3 13 "CapacityRoundModel" "upper" "I", .fieldLink RX3 16 "CapacityRoundModel" "top" "I", .methodLink RX3 57 yX3_isWithin, .static yX3_isWithin, .initialized RX3, .code yX3_isWithin cX3_isWithin 3 (some .boolean), .methodLink RX3 61 yX3_goes, .instanceMethod yX3_goes, .selects RX3 yX3_goes yX3_goes, .code yX3_goes cX3_goes 4 (some .boolean), .fieldLink RX3 54 "CapacityRoundModel" "thrown" "I"] ++ wsX30)
def wsX3_valueOf : List Cond := .code yX3_valueOf cX3_valueOf 2 (some .int) :: ([.fieldLink RX3 7 "CapacityRoundModel" "lower" "I", .fieldLink RX3 16 "CapacityRoundModel" "top" "I", .fieldLink RX3 13 "CapacityRoundModel" "upper" "I"] ++ wsX30)
def wsX3_worthOf : List Cond := .code yX3_worthOf cX3_worthOf 4 (some .int) :: ([.fieldLink RX3 13 "CapacityRoundModel" "upper" "I", .methodLink RX3 65 yX3_valueOf, .instanceMethod yX3_valueOf, .selects RX3 yX3_valueOf yX3_valueOf, .initialized RX3, .code yX3_valueOf cX3_valueOf 2 (some .int), .fieldLink RX3 7 "CapacityRoundModel" "lower" "I", .fieldLink RX3 16 "CapacityRoundModel" "top" "I"] ++ wsX30)
def wsX3_value : List Cond := .code yX3_value cX3_value 2 (some .int) :: ([.methodLink RX3 57 yX3_isWithin, .static yX3_isWithin, .initialized RX3, .code yX3_isWithin cX3_isWithin 3 (some .boolean), .methodLink RX3 61 yX3_goes, .instanceMethod yX3_goes, .selects RX3 yX3_goes yX3_goes, .code yX3_goes cX3_goes 4 (some .boolean), .fieldLink RX3 54 "CapacityRoundModel" "thrown" "I", .methodLink RX3 65 yX3_valueOf, .instanceMethod yX3_valueOf, .selects RX3 yX3_valueOf yX3_valueOf, .code yX3_valueOf cX3_valueOf 2 (some .int), .fieldLink RX3 7 "CapacityRoundModel" "lower" "I", .fieldLink RX3 16 "CapacityRoundModel" "top" "I", .fieldLink RX3 13 "CapacityRoundModel" "upper" "I"] ++ wsX30)
def wsX3_worth : List Cond := .code yX3_worth cX3_worth 2 (some .int) :: ([.methodLink RX3 57 yX3_isWithin, .static yX3_isWithin, .initialized RX3, .code yX3_isWithin cX3_isWithin 3 (some .boolean), .methodLink RX3 61 yX3_goes, .instanceMethod yX3_goes, .selects RX3 yX3_goes yX3_goes, .code yX3_goes cX3_goes 4 (some .boolean), .fieldLink RX3 54 "CapacityRoundModel" "thrown" "I", .methodLink RX3 69 yX3_worthOf, .instanceMethod yX3_worthOf, .selects RX3 yX3_worthOf yX3_worthOf, .code yX3_worthOf cX3_worthOf 4 (some .int), .fieldLink RX3 13 "CapacityRoundModel" "upper" "I", .methodLink RX3 65 yX3_valueOf, .instanceMethod yX3_valueOf, .selects RX3 yX3_valueOf yX3_valueOf, .code yX3_valueOf cX3_valueOf 2 (some .int), .fieldLink RX3 7 "CapacityRoundModel" "lower" "I", .fieldLink RX3 16 "CapacityRoundModel" "top" "I"] ++ wsX30)
def wsX3_offer : List Cond := .code yX3_offer cX3_offer 7 (some .int) :: ([.fieldLink RX3 76 "CapacityRoundModel" "many" "I", .fieldLink RX3 19 "CapacityRoundModel" "party" "[I", .fieldLink RX3 23 "CapacityRoundModel" "amount" "[I", .fieldLink RX3 26 "CapacityRoundModel" "exit" "[I", .fieldLink RX3 29 "CapacityRoundModel" "term" "[I", .methodLink RX3 57 yX3_isWithin, .static yX3_isWithin, .initialized RX3, .code yX3_isWithin cX3_isWithin 3 (some .boolean), .methodLink RX3 72 yX3_isParty, .static yX3_isParty, .code yX3_isParty cX3_isParty 1 (some .boolean), .methodLink RX3 61 yX3_goes, .instanceMethod yX3_goes, .selects RX3 yX3_goes yX3_goes, .code yX3_goes cX3_goes 4 (some .boolean), .fieldLink RX3 54 "CapacityRoundModel" "thrown" "I"] ++ wsX30)
def wsX3_offers : List Cond := .code yX3_offers cX3_offers 1 (some .int) :: ([.fieldLink RX3 54 "CapacityRoundModel" "thrown" "I", .fieldLink RX3 76 "CapacityRoundModel" "many" "I"] ++ wsX30)
def wsX3_supply : List Cond := .code yX3_supply cX3_supply 4 (some .int) :: ([.fieldLink RX3 76 "CapacityRoundModel" "many" "I", .fieldLink RX3 26 "CapacityRoundModel" "exit" "[I", .fieldLink RX3 23 "CapacityRoundModel" "amount" "[I", .methodLink RX3 57 yX3_isWithin, .static yX3_isWithin, .initialized RX3, .code yX3_isWithin cX3_isWithin 3 (some .boolean), .methodLink RX3 61 yX3_goes, .instanceMethod yX3_goes, .selects RX3 yX3_goes yX3_goes, .code yX3_goes cX3_goes 4 (some .boolean), .fieldLink RX3 54 "CapacityRoundModel" "thrown" "I"] ++ wsX30)
def wsX3_rank : List Cond := .code yX3_rank cX3_rank 4 (some .int) :: ([.fieldLink RX3 76 "CapacityRoundModel" "many" "I", .fieldLink RX3 26 "CapacityRoundModel" "exit" "[I"] ++ wsX30)
def wsX3_taken : List Cond := .code yX3_taken cX3_taken 9 (some .int) :: ([.fieldLink RX3 32 "CapacityRoundModel" "bought" "[I", .fieldLink RX3 76 "CapacityRoundModel" "many" "I", .fieldLink RX3 23 "CapacityRoundModel" "amount" "[I", .fieldLink RX3 26 "CapacityRoundModel" "exit" "[I", .methodLink RX3 69 yX3_worthOf, .instanceMethod yX3_worthOf, .selects RX3 yX3_worthOf yX3_worthOf, .initialized RX3, .code yX3_worthOf cX3_worthOf 4 (some .int), .fieldLink RX3 13 "CapacityRoundModel" "upper" "I", .methodLink RX3 65 yX3_valueOf, .instanceMethod yX3_valueOf, .selects RX3 yX3_valueOf yX3_valueOf, .code yX3_valueOf cX3_valueOf 2 (some .int), .fieldLink RX3 7 "CapacityRoundModel" "lower" "I", .fieldLink RX3 16 "CapacityRoundModel" "top" "I", .methodLink RX3 79 yX3_rank, .instanceMethod yX3_rank, .selects RX3 yX3_rank yX3_rank, .code yX3_rank cX3_rank 4 (some .int)] ++ wsX30)
def wsX3_price : List Cond := .code yX3_price cX3_price 4 (some .int) :: ([.fieldLink RX3 76 "CapacityRoundModel" "many" "I", .fieldLink RX3 26 "CapacityRoundModel" "exit" "[I", .methodLink RX3 79 yX3_rank, .instanceMethod yX3_rank, .selects RX3 yX3_rank yX3_rank, .initialized RX3, .code yX3_rank cX3_rank 4 (some .int)] ++ wsX30)
def wsX3_clearing_r1 : List Cond := [Cond.methodLink RX3 82 yX3_isYear, Cond.static yX3_isYear, Cond.initialized RX3, Cond.code yX3_isYear cX3_isYear 1 (some .boolean), Cond.methodLink RX3 61 yX3_goes, Cond.instanceMethod yX3_goes, Cond.selects RX3 yX3_goes yX3_goes, Cond.code yX3_goes cX3_goes 4 (some .boolean), Cond.fieldLink RX3 54 "CapacityRoundModel" "thrown" "I", Cond.methodLink RX3 85 yX3_taken, Cond.instanceMethod yX3_taken, Cond.selects RX3 yX3_taken yX3_taken, Cond.code yX3_taken cX3_taken 9 (some .int), Cond.fieldLink RX3 32 "CapacityRoundModel" "bought" "[I", Cond.fieldLink RX3 76 "CapacityRoundModel" "many" "I", Cond.fieldLink RX3 23 "CapacityRoundModel" "amount" "[I", Cond.fieldLink RX3 26 "CapacityRoundModel" "exit" "[I", Cond.methodLink RX3 69 yX3_worthOf, Cond.instanceMethod yX3_worthOf, Cond.selects RX3 yX3_worthOf yX3_worthOf, Cond.code yX3_worthOf cX3_worthOf 4 (some .int), Cond.fieldLink RX3 13 "CapacityRoundModel" "upper" "I", Cond.methodLink RX3 65 yX3_valueOf, Cond.instanceMethod yX3_valueOf]
def wsX3_clearing_r2 : List Cond := [Cond.selects RX3 yX3_valueOf yX3_valueOf, Cond.code yX3_valueOf cX3_valueOf 2 (some .int), Cond.fieldLink RX3 7 "CapacityRoundModel" "lower" "I", Cond.fieldLink RX3 16 "CapacityRoundModel" "top" "I", Cond.methodLink RX3 79 yX3_rank, Cond.instanceMethod yX3_rank, Cond.selects RX3 yX3_rank yX3_rank, Cond.code yX3_rank cX3_rank 4 (some .int), Cond.methodLink RX3 88 yX3_price, Cond.instanceMethod yX3_price, Cond.selects RX3 yX3_price yX3_price, Cond.code yX3_price cX3_price 4 (some .int)]
def wsX3_clearing : List Cond := .code yX3_clearing cX3_clearing 2 (some .int) :: ((wsX3_clearing_r1 ++ wsX3_clearing_r2) ++ wsX30)
def wsX3_clearingByClock_r1 : List Cond := [Cond.methodLink RX3 91 yX3_clearing, Cond.instanceMethod yX3_clearing, Cond.selects RX3 yX3_clearing yX3_clearing, Cond.initialized RX3, Cond.code yX3_clearing cX3_clearing 2 (some .int), Cond.methodLink RX3 82 yX3_isYear, Cond.static yX3_isYear, Cond.code yX3_isYear cX3_isYear 1 (some .boolean), Cond.methodLink RX3 61 yX3_goes, Cond.instanceMethod yX3_goes, Cond.selects RX3 yX3_goes yX3_goes, Cond.code yX3_goes cX3_goes 4 (some .boolean), Cond.fieldLink RX3 54 "CapacityRoundModel" "thrown" "I", Cond.methodLink RX3 85 yX3_taken, Cond.instanceMethod yX3_taken, Cond.selects RX3 yX3_taken yX3_taken, Cond.code yX3_taken cX3_taken 9 (some .int), Cond.fieldLink RX3 32 "CapacityRoundModel" "bought" "[I", Cond.fieldLink RX3 76 "CapacityRoundModel" "many" "I", Cond.fieldLink RX3 23 "CapacityRoundModel" "amount" "[I", Cond.fieldLink RX3 26 "CapacityRoundModel" "exit" "[I", Cond.methodLink RX3 69 yX3_worthOf, Cond.instanceMethod yX3_worthOf, Cond.selects RX3 yX3_worthOf yX3_worthOf]
def wsX3_clearingByClock_r2 : List Cond := [Cond.code yX3_worthOf cX3_worthOf 4 (some .int), Cond.fieldLink RX3 13 "CapacityRoundModel" "upper" "I", Cond.methodLink RX3 65 yX3_valueOf, Cond.instanceMethod yX3_valueOf, Cond.selects RX3 yX3_valueOf yX3_valueOf, Cond.code yX3_valueOf cX3_valueOf 2 (some .int), Cond.fieldLink RX3 7 "CapacityRoundModel" "lower" "I", Cond.fieldLink RX3 16 "CapacityRoundModel" "top" "I", Cond.methodLink RX3 79 yX3_rank, Cond.instanceMethod yX3_rank, Cond.selects RX3 yX3_rank yX3_rank, Cond.code yX3_rank cX3_rank 4 (some .int), Cond.methodLink RX3 88 yX3_price, Cond.instanceMethod yX3_price, Cond.selects RX3 yX3_price yX3_price, Cond.code yX3_price cX3_price 4 (some .int)]
def wsX3_clearingByClock : List Cond := .code yX3_clearingByClock cX3_clearingByClock 2 (some .int) :: ((wsX3_clearingByClock_r1 ++ wsX3_clearingByClock_r2) ++ wsX30)
def wsX3_wouldTake_r1 : List Cond := [Cond.fieldLink RX3 76 "CapacityRoundModel" "many" "I", Cond.methodLink RX3 82 yX3_isYear, Cond.static yX3_isYear, Cond.initialized RX3, Cond.code yX3_isYear cX3_isYear 1 (some .boolean), Cond.methodLink RX3 61 yX3_goes, Cond.instanceMethod yX3_goes, Cond.selects RX3 yX3_goes yX3_goes, Cond.code yX3_goes cX3_goes 4 (some .boolean), Cond.fieldLink RX3 54 "CapacityRoundModel" "thrown" "I", Cond.methodLink RX3 79 yX3_rank, Cond.instanceMethod yX3_rank, Cond.selects RX3 yX3_rank yX3_rank, Cond.code yX3_rank cX3_rank 4 (some .int), Cond.fieldLink RX3 26 "CapacityRoundModel" "exit" "[I", Cond.methodLink RX3 85 yX3_taken, Cond.instanceMethod yX3_taken, Cond.selects RX3 yX3_taken yX3_taken, Cond.code yX3_taken cX3_taken 9 (some .int), Cond.fieldLink RX3 32 "CapacityRoundModel" "bought" "[I", Cond.fieldLink RX3 23 "CapacityRoundModel" "amount" "[I", Cond.methodLink RX3 69 yX3_worthOf, Cond.instanceMethod yX3_worthOf, Cond.selects RX3 yX3_worthOf yX3_worthOf]
def wsX3_wouldTake_r2 : List Cond := [Cond.code yX3_worthOf cX3_worthOf 4 (some .int), Cond.fieldLink RX3 13 "CapacityRoundModel" "upper" "I", Cond.methodLink RX3 65 yX3_valueOf, Cond.instanceMethod yX3_valueOf, Cond.selects RX3 yX3_valueOf yX3_valueOf, Cond.code yX3_valueOf cX3_valueOf 2 (some .int), Cond.fieldLink RX3 7 "CapacityRoundModel" "lower" "I", Cond.fieldLink RX3 16 "CapacityRoundModel" "top" "I"]
def wsX3_wouldTake : List Cond := .code yX3_wouldTake cX3_wouldTake 3 (some .boolean) :: ((wsX3_wouldTake_r1 ++ wsX3_wouldTake_r2) ++ wsX30)
def wsX3_run_r1 : List Cond := [Cond.fieldLink RX3 76 "CapacityRoundModel" "many" "I", Cond.fieldLink RX3 29 "CapacityRoundModel" "term" "[I", Cond.fieldLink RX3 32 "CapacityRoundModel" "bought" "[I", Cond.fieldLink RX3 23 "CapacityRoundModel" "amount" "[I", Cond.fieldLink RX3 35 "CapacityRoundModel" "income" "[I", Cond.fieldLink RX3 19 "CapacityRoundModel" "party" "[I", Cond.fieldLink RX3 38 "CapacityRoundModel" "obligation" "[I", Cond.methodLink RX3 82 yX3_isYear, Cond.static yX3_isYear, Cond.initialized RX3, Cond.code yX3_isYear cX3_isYear 1 (some .boolean), Cond.methodLink RX3 61 yX3_goes, Cond.instanceMethod yX3_goes, Cond.selects RX3 yX3_goes yX3_goes, Cond.code yX3_goes cX3_goes 4 (some .boolean), Cond.fieldLink RX3 54 "CapacityRoundModel" "thrown" "I", Cond.methodLink RX3 85 yX3_taken, Cond.instanceMethod yX3_taken, Cond.selects RX3 yX3_taken yX3_taken, Cond.code yX3_taken cX3_taken 9 (some .int), Cond.fieldLink RX3 26 "CapacityRoundModel" "exit" "[I", Cond.methodLink RX3 69 yX3_worthOf, Cond.instanceMethod yX3_worthOf, Cond.selects RX3 yX3_worthOf yX3_worthOf]
def wsX3_run_r2 : List Cond := [Cond.code yX3_worthOf cX3_worthOf 4 (some .int), Cond.fieldLink RX3 13 "CapacityRoundModel" "upper" "I", Cond.methodLink RX3 65 yX3_valueOf, Cond.instanceMethod yX3_valueOf, Cond.selects RX3 yX3_valueOf yX3_valueOf, Cond.code yX3_valueOf cX3_valueOf 2 (some .int), Cond.fieldLink RX3 7 "CapacityRoundModel" "lower" "I", Cond.fieldLink RX3 16 "CapacityRoundModel" "top" "I", Cond.methodLink RX3 79 yX3_rank, Cond.instanceMethod yX3_rank, Cond.selects RX3 yX3_rank yX3_rank, Cond.code yX3_rank cX3_rank 4 (some .int), Cond.methodLink RX3 88 yX3_price, Cond.instanceMethod yX3_price, Cond.selects RX3 yX3_price yX3_price, Cond.code yX3_price cX3_price 4 (some .int), Cond.methodLink RX3 94 yX3_place, Cond.static yX3_place, Cond.code yX3_place cX3_place 3 (some .int)]
def wsX3_run : List Cond := .code yX3_run cX3_run 7 (some .int) :: ((wsX3_run_r1 ++ wsX3_run_r2) ++ wsX30)
def wsX3_bought : List Cond := .code yX3_bought cX3_bought 2 (some .int) :: ([.fieldLink RX3 32 "CapacityRoundModel" "bought" "[I", .methodLink RX3 82 yX3_isYear, .static yX3_isYear, .initialized RX3, .code yX3_isYear cX3_isYear 1 (some .boolean), .methodLink RX3 61 yX3_goes, .instanceMethod yX3_goes, .selects RX3 yX3_goes yX3_goes, .code yX3_goes cX3_goes 4 (some .boolean), .fieldLink RX3 54 "CapacityRoundModel" "thrown" "I"] ++ wsX30)
def wsX3_income : List Cond := .code yX3_income cX3_income 3 (some .int) :: ([.fieldLink RX3 35 "CapacityRoundModel" "income" "[I", .methodLink RX3 72 yX3_isParty, .static yX3_isParty, .initialized RX3, .code yX3_isParty cX3_isParty 1 (some .boolean), .methodLink RX3 82 yX3_isYear, .static yX3_isYear, .code yX3_isYear cX3_isYear 1 (some .boolean), .methodLink RX3 61 yX3_goes, .instanceMethod yX3_goes, .selects RX3 yX3_goes yX3_goes, .code yX3_goes cX3_goes 4 (some .boolean), .fieldLink RX3 54 "CapacityRoundModel" "thrown" "I"] ++ wsX30)
def wsX3_obligation : List Cond := .code yX3_obligation cX3_obligation 4 (some .int) :: ([.fieldLink RX3 38 "CapacityRoundModel" "obligation" "[I", .methodLink RX3 72 yX3_isParty, .static yX3_isParty, .initialized RX3, .code yX3_isParty cX3_isParty 1 (some .boolean), .methodLink RX3 82 yX3_isYear, .static yX3_isYear, .code yX3_isYear cX3_isYear 1 (some .boolean), .methodLink RX3 98 yX3_isHour, .static yX3_isHour, .code yX3_isHour cX3_isHour 1 (some .boolean), .methodLink RX3 61 yX3_goes, .instanceMethod yX3_goes, .selects RX3 yX3_goes yX3_goes, .code yX3_goes cX3_goes 4 (some .boolean), .fieldLink RX3 54 "CapacityRoundModel" "thrown" "I", .methodLink RX3 94 yX3_place, .static yX3_place, .code yX3_place cX3_place 3 (some .int)] ++ wsX30)
def wsX3_least : List Cond := .code yX3_least cX3_least 8 (some .int) :: ([.fieldLink RX3 38 "CapacityRoundModel" "obligation" "[I", .methodLink RX3 94 yX3_place, .static yX3_place, .initialized RX3, .code yX3_place cX3_place 3 (some .int)] ++ wsX30)
def wsX3_trade_r1 : List Cond := [Cond.fieldLink RX3 38 "CapacityRoundModel" "obligation" "[I", Cond.fieldLink RX3 105 "CapacityRoundModel" "trades" "I", Cond.methodLink RX3 72 yX3_isParty, Cond.static yX3_isParty, Cond.initialized RX3, Cond.code yX3_isParty cX3_isParty 1 (some .boolean), Cond.methodLink RX3 82 yX3_isYear, Cond.static yX3_isYear, Cond.code yX3_isYear cX3_isYear 1 (some .boolean), Cond.methodLink RX3 98 yX3_isHour, Cond.static yX3_isHour, Cond.code yX3_isHour cX3_isHour 1 (some .boolean), Cond.methodLink RX3 57 yX3_isWithin, Cond.static yX3_isWithin, Cond.code yX3_isWithin cX3_isWithin 3 (some .boolean), Cond.methodLink RX3 101 yX3_least, Cond.instanceMethod yX3_least, Cond.selects RX3 yX3_least yX3_least, Cond.code yX3_least cX3_least 8 (some .int), Cond.methodLink RX3 94 yX3_place, Cond.static yX3_place, Cond.code yX3_place cX3_place 3 (some .int), Cond.methodLink RX3 61 yX3_goes, Cond.instanceMethod yX3_goes]
def wsX3_trade_r2 : List Cond := [Cond.selects RX3 yX3_goes yX3_goes, Cond.code yX3_goes cX3_goes 4 (some .boolean), Cond.fieldLink RX3 54 "CapacityRoundModel" "thrown" "I"]
def wsX3_trade : List Cond := .code yX3_trade cX3_trade 10 (some .int) :: ((wsX3_trade_r1 ++ wsX3_trade_r2) ++ wsX30)
def wsX3_trades : List Cond := .code yX3_trades cX3_trades 1 (some .int) :: ([.fieldLink RX3 54 "CapacityRoundModel" "thrown" "I", .fieldLink RX3 105 "CapacityRoundModel" "trades" "I"] ++ wsX30)
def wsX3_stress : List Cond := .code yX3_stress cX3_stress 3 (some .boolean) :: ([.fieldLink RX3 44 "CapacityRoundModel" "isStress" "[Z", .methodLink RX3 82 yX3_isYear, .static yX3_isYear, .initialized RX3, .code yX3_isYear cX3_isYear 1 (some .boolean), .methodLink RX3 98 yX3_isHour, .static yX3_isHour, .code yX3_isHour cX3_isHour 1 (some .boolean), .methodLink RX3 61 yX3_goes, .instanceMethod yX3_goes, .selects RX3 yX3_goes yX3_goes, .code yX3_goes cX3_goes 4 (some .boolean), .fieldLink RX3 54 "CapacityRoundModel" "thrown" "I"] ++ wsX30)
def wsX3_tell : List Cond := .code yX3_tell cX3_tell 6 (some .int) :: ([.fieldLink RX3 41 "CapacityRoundModel" "output" "[I", .methodLink RX3 72 yX3_isParty, .static yX3_isParty, .initialized RX3, .code yX3_isParty cX3_isParty 1 (some .boolean), .methodLink RX3 82 yX3_isYear, .static yX3_isYear, .code yX3_isYear cX3_isYear 1 (some .boolean), .methodLink RX3 98 yX3_isHour, .static yX3_isHour, .code yX3_isHour cX3_isHour 1 (some .boolean), .methodLink RX3 57 yX3_isWithin, .static yX3_isWithin, .code yX3_isWithin cX3_isWithin 3 (some .boolean), .methodLink RX3 61 yX3_goes, .instanceMethod yX3_goes, .selects RX3 yX3_goes yX3_goes, .code yX3_goes cX3_goes 4 (some .boolean), .fieldLink RX3 54 "CapacityRoundModel" "thrown" "I", .methodLink RX3 94 yX3_place, .static yX3_place, .code yX3_place cX3_place 3 (some .int)] ++ wsX30)
def wsX3_setPenalty : List Cond := .code yX3_setPenalty cX3_setPenalty 3 none :: ([.fieldLink RX3 48 "CapacityRoundModel" "rate" "I", .fieldLink RX3 51 "CapacityRoundModel" "cap" "I", .methodLink RX3 57 yX3_isWithin, .static yX3_isWithin, .initialized RX3, .code yX3_isWithin cX3_isWithin 3 (some .boolean), .methodLink RX3 61 yX3_goes, .instanceMethod yX3_goes, .selects RX3 yX3_goes yX3_goes, .code yX3_goes cX3_goes 4 (some .boolean), .fieldLink RX3 54 "CapacityRoundModel" "thrown" "I"] ++ wsX30)
def wsX3_lackOf : List Cond := .code yX3_lackOf cX3_lackOf 6 (some .int) :: ([.fieldLink RX3 44 "CapacityRoundModel" "isStress" "[Z", .fieldLink RX3 38 "CapacityRoundModel" "obligation" "[I", .fieldLink RX3 41 "CapacityRoundModel" "output" "[I", .methodLink RX3 94 yX3_place, .static yX3_place, .initialized RX3, .code yX3_place cX3_place 3 (some .int)] ++ wsX30)
def wsX3_penaltyOf : List Cond := .code yX3_penaltyOf cX3_penaltyOf 7 (some .long) :: ([.fieldLink RX3 48 "CapacityRoundModel" "rate" "I", .fieldLink RX3 35 "CapacityRoundModel" "income" "[I", .fieldLink RX3 51 "CapacityRoundModel" "cap" "I", .constantLong RX3 112 (100), .methodLink RX3 108 yX3_lackOf, .instanceMethod yX3_lackOf, .selects RX3 yX3_lackOf yX3_lackOf, .initialized RX3, .code yX3_lackOf cX3_lackOf 6 (some .int), .fieldLink RX3 44 "CapacityRoundModel" "isStress" "[Z", .fieldLink RX3 38 "CapacityRoundModel" "obligation" "[I", .fieldLink RX3 41 "CapacityRoundModel" "output" "[I", .methodLink RX3 94 yX3_place, .static yX3_place, .code yX3_place cX3_place 3 (some .int)] ++ wsX30)
def wsX3_lack : List Cond := .code yX3_lack cX3_lack 3 (some .int) :: ([.methodLink RX3 72 yX3_isParty, .static yX3_isParty, .initialized RX3, .code yX3_isParty cX3_isParty 1 (some .boolean), .methodLink RX3 82 yX3_isYear, .static yX3_isYear, .code yX3_isYear cX3_isYear 1 (some .boolean), .methodLink RX3 61 yX3_goes, .instanceMethod yX3_goes, .selects RX3 yX3_goes yX3_goes, .code yX3_goes cX3_goes 4 (some .boolean), .fieldLink RX3 54 "CapacityRoundModel" "thrown" "I", .methodLink RX3 108 yX3_lackOf, .instanceMethod yX3_lackOf, .selects RX3 yX3_lackOf yX3_lackOf, .code yX3_lackOf cX3_lackOf 6 (some .int), .fieldLink RX3 44 "CapacityRoundModel" "isStress" "[Z", .fieldLink RX3 38 "CapacityRoundModel" "obligation" "[I", .fieldLink RX3 41 "CapacityRoundModel" "output" "[I", .methodLink RX3 94 yX3_place, .static yX3_place, .code yX3_place cX3_place 3 (some .int)] ++ wsX30)
def wsX3_penalty_r1 : List Cond := [Cond.methodLink RX3 72 yX3_isParty, Cond.static yX3_isParty, Cond.initialized RX3, Cond.code yX3_isParty cX3_isParty 1 (some .boolean), Cond.methodLink RX3 82 yX3_isYear, Cond.static yX3_isYear, Cond.code yX3_isYear cX3_isYear 1 (some .boolean), Cond.methodLink RX3 61 yX3_goes, Cond.instanceMethod yX3_goes, Cond.selects RX3 yX3_goes yX3_goes, Cond.code yX3_goes cX3_goes 4 (some .boolean), Cond.fieldLink RX3 54 "CapacityRoundModel" "thrown" "I", Cond.methodLink RX3 114 yX3_penaltyOf, Cond.instanceMethod yX3_penaltyOf, Cond.selects RX3 yX3_penaltyOf yX3_penaltyOf, Cond.code yX3_penaltyOf cX3_penaltyOf 7 (some .long), Cond.fieldLink RX3 48 "CapacityRoundModel" "rate" "I", Cond.fieldLink RX3 35 "CapacityRoundModel" "income" "[I", Cond.fieldLink RX3 51 "CapacityRoundModel" "cap" "I", Cond.constantLong RX3 112 (100), Cond.methodLink RX3 108 yX3_lackOf, Cond.instanceMethod yX3_lackOf, Cond.selects RX3 yX3_lackOf yX3_lackOf, Cond.code yX3_lackOf cX3_lackOf 6 (some .int)]
def wsX3_penalty_r2 : List Cond := [Cond.fieldLink RX3 44 "CapacityRoundModel" "isStress" "[Z", Cond.fieldLink RX3 38 "CapacityRoundModel" "obligation" "[I", Cond.fieldLink RX3 41 "CapacityRoundModel" "output" "[I", Cond.methodLink RX3 94 yX3_place, Cond.static yX3_place, Cond.code yX3_place cX3_place 3 (some .int)]
def wsX3_penalty : List Cond := .code yX3_penalty cX3_penalty 3 (some .int) :: ((wsX3_penalty_r1 ++ wsX3_penalty_r2) ++ wsX30)
def wsX3_penalties : List Cond := .code yX3_penalties cX3_penalties 5 (some .long) :: ([.fieldLink RX3 54 "CapacityRoundModel" "thrown" "I", .methodLink RX3 114 yX3_penaltyOf, .instanceMethod yX3_penaltyOf, .selects RX3 yX3_penaltyOf yX3_penaltyOf, .initialized RX3, .code yX3_penaltyOf cX3_penaltyOf 7 (some .long), .fieldLink RX3 48 "CapacityRoundModel" "rate" "I", .fieldLink RX3 35 "CapacityRoundModel" "income" "[I", .fieldLink RX3 51 "CapacityRoundModel" "cap" "I", .constantLong RX3 112 (100), .methodLink RX3 108 yX3_lackOf, .instanceMethod yX3_lackOf, .selects RX3 yX3_lackOf yX3_lackOf, .code yX3_lackOf cX3_lackOf 6 (some .int), .fieldLink RX3 44 "CapacityRoundModel" "isStress" "[Z", .fieldLink RX3 38 "CapacityRoundModel" "obligation" "[I", .fieldLink RX3 41 "CapacityRoundModel" "output" "[I", .methodLink RX3 94 yX3_place, .static yX3_place, .code yX3_place cX3_place 3 (some .int)] ++ wsX30)
def wsJ9_max_7cf53 : List Cond := .code yJ9_max_7cf53 cJ9_max_7cf53 2 (some .int) :: ([])
def wsJ9_max_f86c9 : List Cond := .code yJ9_max_f86c9 cJ9_max_f86c9 4 (some .long) :: ([])
def wsJ9_min_7cf53 : List Cond := .code yJ9_min_7cf53 cJ9_min_7cf53 2 (some .int) :: ([])
def wsJ9_min_f86c9 : List Cond := .code yJ9_min_f86c9 cJ9_min_f86c9 4 (some .long) :: ([])
def wsL_setDemand_r1 : List Cond := [Cond.classLink RL 13 "java/lang/IllegalArgumentException", Cond.methodLink RL 7 yX2_setDemand, Cond.instanceMethod yX2_setDemand, Cond.selects RX2 yX2_setDemand yX2_setDemand, Cond.initialized RX2, Cond.code yX2_setDemand cX2_setDemand 4 none, Cond.classLink RX2 54 "java/lang/IllegalArgumentException", Cond.initialized "java/lang/IllegalArgumentException", Cond.fieldLink RX2 10 "CapacityRound" "demand" "LCapacityRound$Demand;", Cond.methodLink RX2 50 yX2_isWithin, Cond.static yX2_isWithin, Cond.code yX2_isWithin cX2_isWithin 3 (some .boolean), Cond.methodLink RX2 61 yX0_change, Cond.instanceMethod yX0_change, Cond.selects RX0 yX0_change yX0_change, Cond.initialized RX0, Cond.code yX0_change cX0_change 5 none, Cond.fieldLink RX0 17 "CapacityRound$Demand" "lowerAmount" "I", Cond.fieldLink RX0 21 "CapacityRound$Demand" "upperAmount" "I", Cond.fieldLink RX0 24 "CapacityRound$Demand" "topPrice" "I", Cond.fieldLink RX0 9 "CapacityRound$Demand" "worths" "[I", Cond.methodLink RX0 27 yX0_valueOf, Cond.instanceMethod yX0_valueOf, Cond.selects RX0 yX0_valueOf yX0_valueOf]
def wsL_setDemand_r2 : List Cond := [Cond.code yX0_valueOf cX0_valueOf 2 (some .int)]
def wsL_setDemand : List Cond := .codeWith yL_setDemand cL_setDemand 5 (some .int) [(0, 7, 10, 13)] :: ((wsL_setDemand_r1 ++ wsL_setDemand_r2) ++ wsX20 ++ wsX00 ++ (vx_atS RX2 58 "java/lang/IllegalArgumentException" ["java/lang/RuntimeException", "java/lang/Exception"]).filter goodWord)
def wsL_value : List Cond := .codeWith yL_value cL_value 4 (some .int) [(0, 9, 12, 13)] :: ([.classLink RL 13 "java/lang/IllegalArgumentException", .methodLink RL 15 yX2_value, .instanceMethod yX2_value, .selects RX2 yX2_value yX2_value, .initialized RX2, .code yX2_value cX2_value 2 (some .int), .classLink RX2 54 "java/lang/IllegalArgumentException", .initialized "java/lang/IllegalArgumentException", .fieldLink RX2 10 "CapacityRound" "demand" "LCapacityRound$Demand;", .methodLink RX2 50 yX2_isWithin, .static yX2_isWithin, .code yX2_isWithin cX2_isWithin 3 (some .boolean), .methodLink RX2 67 yX0_valueOf, .instanceMethod yX0_valueOf, .selects RX0 yX0_valueOf yX0_valueOf, .initialized RX0, .code yX0_valueOf cX0_valueOf 2 (some .int), .fieldLink RX0 17 "CapacityRound$Demand" "lowerAmount" "I", .fieldLink RX0 24 "CapacityRound$Demand" "topPrice" "I", .fieldLink RX0 21 "CapacityRound$Demand" "upperAmount" "I"] ++ wsX20 ++ wsX00 ++ (vx_atS RX2 58 "java/lang/IllegalArgumentException" ["java/lang/RuntimeException", "java/lang/Exception"]).filter goodWord)
def wsL_worth_r1 : List Cond := [Cond.classLink RL 13 "java/lang/IllegalArgumentException", Cond.methodLink RL 19 yX2_worth, Cond.instanceMethod yX2_worth, Cond.selects RX2 yX2_worth yX2_worth, Cond.initialized RX2, Cond.code yX2_worth cX2_worth 2 (some .int), Cond.classLink RX2 54 "java/lang/IllegalArgumentException", Cond.initialized "java/lang/IllegalArgumentException", Cond.fieldLink RX2 10 "CapacityRound" "demand" "LCapacityRound$Demand;", Cond.methodLink RX2 50 yX2_isWithin, Cond.static yX2_isWithin, Cond.code yX2_isWithin cX2_isWithin 3 (some .boolean), Cond.methodLink RX2 73 yX0_worthOf, Cond.instanceMethod yX0_worthOf, Cond.selects RX0 yX0_worthOf yX0_worthOf, Cond.initialized RX0, Cond.code yX0_worthOf cX0_worthOf 2 (some .int), Cond.fieldLink RX0 9 "CapacityRound$Demand" "worths" "[I", Cond.methodLink RX0 31 Lib.Math.min.name, Cond.static Lib.Math.min.name, Cond.initialized "java/lang/Math", Cond.code Lib.Math.min.name Lib.Math.min.code 2 (some .int), Cond.methodLink RX0 37 Lib.Math.max.name, Cond.static Lib.Math.max.name]
def wsL_worth_r2 : List Cond := [Cond.code Lib.Math.max.name Lib.Math.max.code 2 (some .int)]
def wsL_worth : List Cond := .codeWith yL_worth cL_worth 4 (some .int) [(0, 9, 12, 13)] :: ((wsL_worth_r1 ++ wsL_worth_r2) ++ wsX20 ++ wsX00 ++ (vx_atS RX2 58 "java/lang/IllegalArgumentException" ["java/lang/RuntimeException", "java/lang/Exception"]).filter goodWord)
def wsL_offer_r1 : List Cond := [Cond.classLink RL 26 "java/lang/IndexOutOfBoundsException", Cond.classLink RL 13 "java/lang/IllegalArgumentException", Cond.classLink RL 28 "java/lang/IllegalStateException", Cond.methodLink RL 22 yX2_offer, Cond.instanceMethod yX2_offer, Cond.selects RX2 yX2_offer yX2_offer, Cond.initialized RX2, Cond.code yX2_offer cX2_offer 6 (some .int), Cond.classLink RX2 80 "java/lang/IndexOutOfBoundsException", Cond.initialized "java/lang/IndexOutOfBoundsException", Cond.classLink RX2 54 "java/lang/IllegalArgumentException", Cond.initialized "java/lang/IllegalArgumentException", Cond.classLink RX2 91 "java/lang/IllegalStateException", Cond.initialized "java/lang/IllegalStateException", Cond.fieldLink RX2 19 "CapacityRound" "queue" "LCapacityRound$Queue;", Cond.methodLink RX2 76 yX2_isParty, Cond.static yX2_isParty, Cond.code yX2_isParty cX2_isParty 1 (some .boolean), Cond.methodLink RX2 50 yX2_isWithin, Cond.static yX2_isWithin, Cond.code yX2_isWithin cX2_isWithin 3 (some .boolean), Cond.methodLink RX2 87 yX1_isFull, Cond.instanceMethod yX1_isFull, Cond.selects RX1 yX1_isFull yX1_isFull]
def wsL_offer_r2 : List Cond := [Cond.initialized RX1, Cond.code yX1_isFull cX1_isFull 1 (some .boolean), Cond.fieldLink RX1 31 "CapacityRound$Queue" "count" "I", Cond.methodLink RX2 96 yX1_add, Cond.instanceMethod yX1_add, Cond.selects RX1 yX1_add yX1_add, Cond.code yX1_add cX1_add 7 (some .int), Cond.fieldLink RX1 24 "CapacityRound$Queue" "exits" "[I", Cond.fieldLink RX1 21 "CapacityRound$Queue" "order" "[I", Cond.fieldLink RX1 11 "CapacityRound$Queue" "parties" "[I", Cond.fieldLink RX1 15 "CapacityRound$Queue" "amounts" "[I", Cond.fieldLink RX1 18 "CapacityRound$Queue" "terms" "[I"]
def wsL_offer : List Cond := .codeWith yL_offer cL_offer 8 (some .int) [(0, 16, 19, 26), (0, 16, 23, 13), (0, 16, 27, 28)] :: ((wsL_offer_r1 ++ wsL_offer_r2) ++ wsX20 ++ wsX10 ++ (vx_atS RX2 84 "java/lang/IndexOutOfBoundsException" ["java/lang/RuntimeException", "java/lang/Exception"]).filter goodWord ++ (vx_atS RX2 58 "java/lang/IllegalArgumentException" ["java/lang/RuntimeException", "java/lang/Exception"]).filter goodWord ++ (vx_atS RX2 95 "java/lang/IllegalStateException" ["java/lang/RuntimeException", "java/lang/Exception"]).filter goodWord)
def wsL_supply : List Cond := .codeWith yL_supply cL_supply 4 (some .int) [(0, 9, 12, 13)] :: ([.classLink RL 13 "java/lang/IllegalArgumentException", .methodLink RL 30 yX2_supply, .instanceMethod yX2_supply, .selects RX2 yX2_supply yX2_supply, .initialized RX2, .code yX2_supply cX2_supply 2 (some .int), .classLink RX2 54 "java/lang/IllegalArgumentException", .initialized "java/lang/IllegalArgumentException", .fieldLink RX2 19 "CapacityRound" "queue" "LCapacityRound$Queue;", .methodLink RX2 50 yX2_isWithin, .static yX2_isWithin, .code yX2_isWithin cX2_isWithin 3 (some .boolean), .methodLink RX2 105 yX1_amountUpTo, .instanceMethod yX1_amountUpTo, .selects RX1 yX1_amountUpTo yX1_amountUpTo, .initialized RX1, .code yX1_amountUpTo cX1_amountUpTo 4 (some .int), .fieldLink RX1 31 "CapacityRound$Queue" "count" "I", .fieldLink RX1 24 "CapacityRound$Queue" "exits" "[I", .fieldLink RX1 15 "CapacityRound$Queue" "amounts" "[I"] ++ wsX20 ++ wsX10 ++ (vx_atS RX2 58 "java/lang/IllegalArgumentException" ["java/lang/RuntimeException", "java/lang/Exception"]).filter goodWord)
def wsL_clearing_r1 : List Cond := [Cond.classLink RL 26 "java/lang/IndexOutOfBoundsException", Cond.methodLink RL 33 yX2_clearing, Cond.instanceMethod yX2_clearing, Cond.selects RX2 yX2_clearing yX2_clearing, Cond.initialized RX2, Cond.code yX2_clearing cX2_clearing 2 (some .int), Cond.classLink RX2 80 "java/lang/IndexOutOfBoundsException", Cond.initialized "java/lang/IndexOutOfBoundsException", Cond.fieldLink RX2 19 "CapacityRound" "queue" "LCapacityRound$Queue;", Cond.fieldLink RX2 10 "CapacityRound" "demand" "LCapacityRound$Demand;", Cond.fieldLink RX2 23 "CapacityRound" "boughtByYear" "[I", Cond.methodLink RX2 108 yX2_isYear, Cond.static yX2_isYear, Cond.code yX2_isYear cX2_isYear 1 (some .boolean), Cond.methodLink RX2 50 yX2_isWithin, Cond.static yX2_isWithin, Cond.code yX2_isWithin cX2_isWithin 3 (some .boolean), Cond.methodLink RX2 113 yX1_bestFirst, Cond.instanceMethod yX1_bestFirst, Cond.selects RX1 yX1_bestFirst yX1_bestFirst, Cond.initialized RX1, Cond.code yX1_bestFirst cX1_bestFirst 10 (some .int), Cond.fieldLink RX1 31 "CapacityRound$Queue" "count" "I", Cond.fieldLink RX1 21 "CapacityRound$Queue" "order" "[I"]
def wsL_clearing_r2 : List Cond := [Cond.fieldLink RX1 15 "CapacityRound$Queue" "amounts" "[I", Cond.fieldLink RX1 24 "CapacityRound$Queue" "exits" "[I", Cond.methodLink RX1 35 yX0_worthOf, Cond.instanceMethod yX0_worthOf, Cond.selects RX0 yX0_worthOf yX0_worthOf, Cond.initialized RX0, Cond.code yX0_worthOf cX0_worthOf 2 (some .int), Cond.fieldLink RX0 9 "CapacityRound$Demand" "worths" "[I", Cond.methodLink RX0 31 Lib.Math.min.name, Cond.static Lib.Math.min.name, Cond.initialized "java/lang/Math", Cond.code Lib.Math.min.name Lib.Math.min.code 2 (some .int), Cond.methodLink RX0 37 Lib.Math.max.name, Cond.static Lib.Math.max.name, Cond.code Lib.Math.max.name Lib.Math.max.code 2 (some .int), Cond.methodLink RX2 117 yX1_priceOfFirst, Cond.instanceMethod yX1_priceOfFirst, Cond.selects RX1 yX1_priceOfFirst yX1_priceOfFirst, Cond.code yX1_priceOfFirst cX1_priceOfFirst 2 (some .int)]
def wsL_clearing : List Cond := .codeWith yL_clearing cL_clearing 4 (some .int) [(0, 9, 12, 26)] :: ((wsL_clearing_r1 ++ wsL_clearing_r2) ++ wsX20 ++ wsX10 ++ wsX00 ++ (vx_atS RX2 84 "java/lang/IndexOutOfBoundsException" ["java/lang/RuntimeException", "java/lang/Exception"]).filter goodWord)
def wsL_clearingByClock_r1 : List Cond := [Cond.classLink RL 26 "java/lang/IndexOutOfBoundsException", Cond.methodLink RL 36 yX2_clearingByClock, Cond.instanceMethod yX2_clearingByClock, Cond.selects RX2 yX2_clearingByClock yX2_clearingByClock, Cond.initialized RX2, Cond.code yX2_clearingByClock cX2_clearingByClock 2 (some .int), Cond.classLink RX2 80 "java/lang/IndexOutOfBoundsException", Cond.initialized "java/lang/IndexOutOfBoundsException", Cond.fieldLink RX2 19 "CapacityRound" "queue" "LCapacityRound$Queue;", Cond.fieldLink RX2 10 "CapacityRound" "demand" "LCapacityRound$Demand;", Cond.fieldLink RX2 23 "CapacityRound" "boughtByYear" "[I", Cond.methodLink RX2 108 yX2_isYear, Cond.static yX2_isYear, Cond.code yX2_isYear cX2_isYear 1 (some .boolean), Cond.methodLink RX2 50 yX2_isWithin, Cond.static yX2_isWithin, Cond.code yX2_isWithin cX2_isWithin 3 (some .boolean), Cond.methodLink RX2 120 yX1_priceByClock, Cond.instanceMethod yX1_priceByClock, Cond.selects RX1 yX1_priceByClock yX1_priceByClock, Cond.initialized RX1, Cond.code yX1_priceByClock cX1_priceByClock 10 (some .int), Cond.fieldLink RX1 31 "CapacityRound$Queue" "count" "I", Cond.fieldLink RX1 27 "CapacityRound$Queue" "in" "[Z"]
def wsL_clearingByClock_r2 : List Cond := [Cond.fieldLink RX1 15 "CapacityRound$Queue" "amounts" "[I", Cond.fieldLink RX1 24 "CapacityRound$Queue" "exits" "[I", Cond.methodLink RX1 35 yX0_worthOf, Cond.instanceMethod yX0_worthOf, Cond.selects RX0 yX0_worthOf yX0_worthOf, Cond.initialized RX0, Cond.code yX0_worthOf cX0_worthOf 2 (some .int), Cond.fieldLink RX0 9 "CapacityRound$Demand" "worths" "[I", Cond.methodLink RX0 31 Lib.Math.min.name, Cond.static Lib.Math.min.name, Cond.initialized "java/lang/Math", Cond.code Lib.Math.min.name Lib.Math.min.code 2 (some .int), Cond.methodLink RX0 37 Lib.Math.max.name, Cond.static Lib.Math.max.name, Cond.code Lib.Math.max.name Lib.Math.max.code 2 (some .int), Cond.methodLink RX1 41 yX1_dearestIn, Cond.instanceMethod yX1_dearestIn, Cond.selects RX1 yX1_dearestIn yX1_dearestIn, Cond.code yX1_dearestIn cX1_dearestIn 3 (some .int), Cond.methodLink RX1 45 yX1_exitOf, Cond.instanceMethod yX1_exitOf, Cond.selects RX1 yX1_exitOf yX1_exitOf, Cond.code yX1_exitOf cX1_exitOf 2 (some .int)]
def wsL_clearingByClock : List Cond := .codeWith yL_clearingByClock cL_clearingByClock 4 (some .int) [(0, 9, 12, 26)] :: ((wsL_clearingByClock_r1 ++ wsL_clearingByClock_r2) ++ wsX20 ++ wsX10 ++ wsX00 ++ (vx_atS RX2 84 "java/lang/IndexOutOfBoundsException" ["java/lang/RuntimeException", "java/lang/Exception"]).filter goodWord)
def wsL_wouldTake_r1 : List Cond := [Cond.classLink RL 26 "java/lang/IndexOutOfBoundsException", Cond.methodLink RL 39 yX2_wouldTake, Cond.instanceMethod yX2_wouldTake, Cond.selects RX2 yX2_wouldTake yX2_wouldTake, Cond.initialized RX2, Cond.code yX2_wouldTake cX2_wouldTake 3 (some .boolean), Cond.classLink RX2 80 "java/lang/IndexOutOfBoundsException", Cond.initialized "java/lang/IndexOutOfBoundsException", Cond.fieldLink RX2 19 "CapacityRound" "queue" "LCapacityRound$Queue;", Cond.fieldLink RX2 10 "CapacityRound" "demand" "LCapacityRound$Demand;", Cond.fieldLink RX2 23 "CapacityRound" "boughtByYear" "[I", Cond.methodLink RX2 123 yX1_has, Cond.instanceMethod yX1_has, Cond.selects RX1 yX1_has yX1_has, Cond.initialized RX1, Cond.code yX1_has cX1_has 2 (some .boolean), Cond.fieldLink RX1 31 "CapacityRound$Queue" "count" "I", Cond.methodLink RX2 108 yX2_isYear, Cond.static yX2_isYear, Cond.code yX2_isYear cX2_isYear 1 (some .boolean), Cond.methodLink RX2 50 yX2_isWithin, Cond.static yX2_isWithin, Cond.code yX2_isWithin cX2_isWithin 3 (some .boolean), Cond.methodLink RX2 113 yX1_bestFirst]
def wsL_wouldTake_r2 : List Cond := [Cond.instanceMethod yX1_bestFirst, Cond.selects RX1 yX1_bestFirst yX1_bestFirst, Cond.code yX1_bestFirst cX1_bestFirst 10 (some .int), Cond.fieldLink RX1 21 "CapacityRound$Queue" "order" "[I", Cond.fieldLink RX1 15 "CapacityRound$Queue" "amounts" "[I", Cond.fieldLink RX1 24 "CapacityRound$Queue" "exits" "[I", Cond.methodLink RX1 35 yX0_worthOf, Cond.instanceMethod yX0_worthOf, Cond.selects RX0 yX0_worthOf yX0_worthOf, Cond.initialized RX0, Cond.code yX0_worthOf cX0_worthOf 2 (some .int), Cond.fieldLink RX0 9 "CapacityRound$Demand" "worths" "[I", Cond.methodLink RX0 31 Lib.Math.min.name, Cond.static Lib.Math.min.name, Cond.initialized "java/lang/Math", Cond.code Lib.Math.min.name Lib.Math.min.code 2 (some .int), Cond.methodLink RX0 37 Lib.Math.max.name, Cond.static Lib.Math.max.name, Cond.code Lib.Math.max.name Lib.Math.max.code 2 (some .int), Cond.methodLink RX2 128 yX1_isAmongFirst, Cond.instanceMethod yX1_isAmongFirst, Cond.selects RX1 yX1_isAmongFirst yX1_isAmongFirst, Cond.code yX1_isAmongFirst cX1_isAmongFirst 4 (some .boolean)]
def wsL_wouldTake : List Cond := .codeWith yL_wouldTake cL_wouldTake 5 (some .int) [(0, 17, 20, 26)] :: ((wsL_wouldTake_r1 ++ wsL_wouldTake_r2) ++ wsX20 ++ wsX10 ++ wsX00 ++ (vx_atS RX2 84 "java/lang/IndexOutOfBoundsException" ["java/lang/RuntimeException", "java/lang/Exception"]).filter goodWord)
def wsL_run_r1 : List Cond := [Cond.classLink RL 26 "java/lang/IndexOutOfBoundsException", Cond.classLink RL 28 "java/lang/IllegalStateException", Cond.methodLink RL 43 yX2_run, Cond.instanceMethod yX2_run, Cond.selects RX2 yX2_run yX2_run, Cond.initialized RX2, Cond.code yX2_run cX2_run 5 (some .int), Cond.classLink RX2 80 "java/lang/IndexOutOfBoundsException", Cond.initialized "java/lang/IndexOutOfBoundsException", Cond.classLink RX2 91 "java/lang/IllegalStateException", Cond.initialized "java/lang/IllegalStateException", Cond.fieldLink RX2 19 "CapacityRound" "queue" "LCapacityRound$Queue;", Cond.fieldLink RX2 100 "CapacityRound$Queue" "count" "I", Cond.fieldLink RX2 10 "CapacityRound" "demand" "LCapacityRound$Demand;", Cond.fieldLink RX2 23 "CapacityRound" "boughtByYear" "[I", Cond.fieldLink RX2 134 "CapacityRound$Queue" "order" "[I", Cond.methodLink RX2 108 yX2_isYear, Cond.static yX2_isYear, Cond.code yX2_isYear cX2_isYear 1 (some .boolean), Cond.methodLink RX2 50 yX2_isWithin, Cond.static yX2_isWithin, Cond.code yX2_isWithin cX2_isWithin 3 (some .boolean), Cond.methodLink RX2 113 yX1_bestFirst, Cond.instanceMethod yX1_bestFirst]
def wsL_run_r2 : List Cond := [Cond.selects RX1 yX1_bestFirst yX1_bestFirst, Cond.initialized RX1, Cond.code yX1_bestFirst cX1_bestFirst 10 (some .int), Cond.fieldLink RX1 31 "CapacityRound$Queue" "count" "I", Cond.fieldLink RX1 21 "CapacityRound$Queue" "order" "[I", Cond.fieldLink RX1 15 "CapacityRound$Queue" "amounts" "[I", Cond.fieldLink RX1 24 "CapacityRound$Queue" "exits" "[I", Cond.methodLink RX1 35 yX0_worthOf, Cond.instanceMethod yX0_worthOf, Cond.selects RX0 yX0_worthOf yX0_worthOf, Cond.initialized RX0, Cond.code yX0_worthOf cX0_worthOf 2 (some .int), Cond.fieldLink RX0 9 "CapacityRound$Demand" "worths" "[I", Cond.methodLink RX0 31 Lib.Math.min.name, Cond.static Lib.Math.min.name, Cond.initialized "java/lang/Math", Cond.code Lib.Math.min.name Lib.Math.min.code 2 (some .int), Cond.methodLink RX0 37 Lib.Math.max.name, Cond.static Lib.Math.max.name, Cond.code Lib.Math.max.name Lib.Math.max.code 2 (some .int), Cond.methodLink RX2 117 yX1_priceOfFirst, Cond.instanceMethod yX1_priceOfFirst, Cond.selects RX1 yX1_priceOfFirst yX1_priceOfFirst, Cond.code yX1_priceOfFirst cX1_priceOfFirst 2 (some .int)]
def wsL_run_r3 : List Cond := [Cond.methodLink RX2 137 yX2_take, Cond.instanceMethod yX2_take, Cond.selects RX2 yX2_take yX2_take, Cond.code yX2_take cX2_take 9 none, Cond.fieldLink RX2 177 "CapacityRound$Queue" "parties" "[I", Cond.fieldLink RX2 180 "CapacityRound$Queue" "amounts" "[I", Cond.fieldLink RX2 183 "CapacityRound$Queue" "terms" "[I", Cond.methodLink RX2 186 Lib.Math.min.name, Cond.fieldLink RX2 27 "CapacityRound" "incomes" "[I", Cond.fieldLink RX2 30 "CapacityRound" "obligations" "[I", Cond.methodLink RX2 145 yX2_yearCell, Cond.static yX2_yearCell, Cond.code yX2_yearCell cX2_yearCell 2 (some .int), Cond.methodLink RX2 154 yX2_hourCell, Cond.static yX2_hourCell, Cond.code yX2_hourCell cX2_hourCell 3 (some .int), Cond.methodLink RX2 140 yX1_clear, Cond.instanceMethod yX1_clear, Cond.selects RX1 yX1_clear yX1_clear, Cond.code yX1_clear cX1_clear 1 none]
def wsL_run : List Cond := .codeWith yL_run cL_run 4 (some .int) [(0, 9, 12, 26), (0, 9, 15, 28)] :: ((wsL_run_r1 ++ (wsL_run_r2 ++ wsL_run_r3)) ++ wsX20 ++ wsX10 ++ wsX00 ++ (vx_atS RX2 84 "java/lang/IndexOutOfBoundsException" ["java/lang/RuntimeException", "java/lang/Exception"]).filter goodWord ++ (vx_atS RX2 95 "java/lang/IllegalStateException" ["java/lang/RuntimeException", "java/lang/Exception"]).filter goodWord)
def wsL_bought : List Cond := .codeWith yL_bought cL_bought 4 (some .int) [(0, 9, 12, 26)] :: ([.classLink RL 26 "java/lang/IndexOutOfBoundsException", .methodLink RL 46 yX2_bought, .instanceMethod yX2_bought, .selects RX2 yX2_bought yX2_bought, .initialized RX2, .code yX2_bought cX2_bought 2 (some .int), .classLink RX2 80 "java/lang/IndexOutOfBoundsException", .initialized "java/lang/IndexOutOfBoundsException", .fieldLink RX2 23 "CapacityRound" "boughtByYear" "[I", .methodLink RX2 108 yX2_isYear, .static yX2_isYear, .code yX2_isYear cX2_isYear 1 (some .boolean), .methodLink RX2 50 yX2_isWithin, .static yX2_isWithin, .code yX2_isWithin cX2_isWithin 3 (some .boolean)] ++ wsX20 ++ (vx_atS RX2 84 "java/lang/IndexOutOfBoundsException" ["java/lang/RuntimeException", "java/lang/Exception"]).filter goodWord)
def wsL_income : List Cond := .codeWith yL_income cL_income 5 (some .int) [(0, 10, 13, 26)] :: ([.classLink RL 26 "java/lang/IndexOutOfBoundsException", .methodLink RL 49 yX2_income, .instanceMethod yX2_income, .selects RX2 yX2_income yX2_income, .initialized RX2, .code yX2_income cX2_income 3 (some .int), .classLink RX2 80 "java/lang/IndexOutOfBoundsException", .initialized "java/lang/IndexOutOfBoundsException", .fieldLink RX2 27 "CapacityRound" "incomes" "[I", .methodLink RX2 76 yX2_isParty, .static yX2_isParty, .code yX2_isParty cX2_isParty 1 (some .boolean), .methodLink RX2 50 yX2_isWithin, .static yX2_isWithin, .code yX2_isWithin cX2_isWithin 3 (some .boolean), .methodLink RX2 108 yX2_isYear, .static yX2_isYear, .code yX2_isYear cX2_isYear 1 (some .boolean), .methodLink RX2 145 yX2_yearCell, .static yX2_yearCell, .code yX2_yearCell cX2_yearCell 2 (some .int)] ++ wsX20 ++ (vx_atS RX2 84 "java/lang/IndexOutOfBoundsException" ["java/lang/RuntimeException", "java/lang/Exception"]).filter goodWord)
def wsL_obligation_r1 : List Cond := [Cond.classLink RL 26 "java/lang/IndexOutOfBoundsException", Cond.methodLink RL 53 yX2_obligation, Cond.instanceMethod yX2_obligation, Cond.selects RX2 yX2_obligation yX2_obligation, Cond.initialized RX2, Cond.code yX2_obligation cX2_obligation 4 (some .int), Cond.classLink RX2 80 "java/lang/IndexOutOfBoundsException", Cond.initialized "java/lang/IndexOutOfBoundsException", Cond.fieldLink RX2 30 "CapacityRound" "obligations" "[I", Cond.methodLink RX2 76 yX2_isParty, Cond.static yX2_isParty, Cond.code yX2_isParty cX2_isParty 1 (some .boolean), Cond.methodLink RX2 50 yX2_isWithin, Cond.static yX2_isWithin, Cond.code yX2_isWithin cX2_isWithin 3 (some .boolean), Cond.methodLink RX2 108 yX2_isYear, Cond.static yX2_isYear, Cond.code yX2_isYear cX2_isYear 1 (some .boolean), Cond.methodLink RX2 149 yX2_isHour, Cond.static yX2_isHour, Cond.code yX2_isHour cX2_isHour 1 (some .boolean), Cond.methodLink RX2 154 yX2_hourCell, Cond.static yX2_hourCell, Cond.code yX2_hourCell cX2_hourCell 3 (some .int)]
def wsL_obligation_r2 : List Cond := [Cond.methodLink RX2 145 yX2_yearCell, Cond.static yX2_yearCell, Cond.code yX2_yearCell cX2_yearCell 2 (some .int)]
def wsL_obligation : List Cond := .codeWith yL_obligation cL_obligation 6 (some .int) [(0, 12, 15, 26)] :: ((wsL_obligation_r1 ++ wsL_obligation_r2) ++ wsX20 ++ (vx_atS RX2 84 "java/lang/IndexOutOfBoundsException" ["java/lang/RuntimeException", "java/lang/Exception"]).filter goodWord)
def wsL_trade_r1 : List Cond := [Cond.classLink RL 26 "java/lang/IndexOutOfBoundsException", Cond.classLink RL 13 "java/lang/IllegalArgumentException", Cond.classLink RL 28 "java/lang/IllegalStateException", Cond.methodLink RL 57 yX2_trade, Cond.instanceMethod yX2_trade, Cond.selects RX2 yX2_trade yX2_trade, Cond.initialized RX2, Cond.code yX2_trade cX2_trade 9 (some .int), Cond.classLink RX2 80 "java/lang/IndexOutOfBoundsException", Cond.initialized "java/lang/IndexOutOfBoundsException", Cond.classLink RX2 54 "java/lang/IllegalArgumentException", Cond.initialized "java/lang/IllegalArgumentException", Cond.classLink RX2 91 "java/lang/IllegalStateException", Cond.initialized "java/lang/IllegalStateException", Cond.fieldLink RX2 30 "CapacityRound" "obligations" "[I", Cond.fieldLink RX2 40 "CapacityRound" "tradeCount" "I", Cond.methodLink RX2 76 yX2_isParty, Cond.static yX2_isParty, Cond.code yX2_isParty cX2_isParty 1 (some .boolean), Cond.methodLink RX2 50 yX2_isWithin, Cond.static yX2_isWithin, Cond.code yX2_isWithin cX2_isWithin 3 (some .boolean), Cond.methodLink RX2 108 yX2_isYear, Cond.static yX2_isYear]
def wsL_trade_r2 : List Cond := [Cond.code yX2_isYear cX2_isYear 1 (some .boolean), Cond.methodLink RX2 149 yX2_isHour, Cond.static yX2_isHour, Cond.code yX2_isHour cX2_isHour 1 (some .boolean), Cond.methodLink RX2 160 yX2_leastObligation, Cond.instanceMethod yX2_leastObligation, Cond.selects RX2 yX2_leastObligation yX2_leastObligation, Cond.code yX2_leastObligation cX2_leastObligation 7 (some .int), Cond.methodLink RX2 186 Lib.Math.min.name, Cond.static Lib.Math.min.name, Cond.initialized "java/lang/Math", Cond.code Lib.Math.min.name Lib.Math.min.code 2 (some .int), Cond.methodLink RX2 154 yX2_hourCell, Cond.static yX2_hourCell, Cond.code yX2_hourCell cX2_hourCell 3 (some .int), Cond.methodLink RX2 145 yX2_yearCell, Cond.static yX2_yearCell, Cond.code yX2_yearCell cX2_yearCell 2 (some .int)]
def wsL_trade : List Cond := .codeWith yL_trade cL_trade 9 (some .int) [(0, 18, 21, 26), (0, 18, 25, 13), (0, 18, 29, 28)] :: ((wsL_trade_r1 ++ wsL_trade_r2) ++ wsX20 ++ (vx_atS RX2 84 "java/lang/IndexOutOfBoundsException" ["java/lang/RuntimeException", "java/lang/Exception"]).filter goodWord ++ (vx_atS RX2 58 "java/lang/IllegalArgumentException" ["java/lang/RuntimeException", "java/lang/Exception"]).filter goodWord ++ (vx_atS RX2 95 "java/lang/IllegalStateException" ["java/lang/RuntimeException", "java/lang/Exception"]).filter goodWord)
def wsL_stress : List Cond := .codeWith yL_stress cL_stress 5 (some .int) [(0, 17, 20, 26)] :: ([.classLink RL 26 "java/lang/IndexOutOfBoundsException", .methodLink RL 61 yX2_stress, .instanceMethod yX2_stress, .selects RX2 yX2_stress yX2_stress, .initialized RX2, .code yX2_stress cX2_stress 4 (some .boolean), .classLink RX2 80 "java/lang/IndexOutOfBoundsException", .initialized "java/lang/IndexOutOfBoundsException", .fieldLink RX2 36 "CapacityRound" "stressed" "[Z", .methodLink RX2 108 yX2_isYear, .static yX2_isYear, .code yX2_isYear cX2_isYear 1 (some .boolean), .methodLink RX2 50 yX2_isWithin, .static yX2_isWithin, .code yX2_isWithin cX2_isWithin 3 (some .boolean), .methodLink RX2 149 yX2_isHour, .static yX2_isHour, .code yX2_isHour cX2_isHour 1 (some .boolean)] ++ wsX20 ++ (vx_atS RX2 84 "java/lang/IndexOutOfBoundsException" ["java/lang/RuntimeException", "java/lang/Exception"]).filter goodWord)
def wsL_tell_r1 : List Cond := [Cond.classLink RL 26 "java/lang/IndexOutOfBoundsException", Cond.classLink RL 13 "java/lang/IllegalArgumentException", Cond.methodLink RL 64 yX2_tell, Cond.instanceMethod yX2_tell, Cond.selects RX2 yX2_tell yX2_tell, Cond.initialized RX2, Cond.code yX2_tell cX2_tell 7 (some .int), Cond.classLink RX2 80 "java/lang/IndexOutOfBoundsException", Cond.initialized "java/lang/IndexOutOfBoundsException", Cond.classLink RX2 54 "java/lang/IllegalArgumentException", Cond.initialized "java/lang/IllegalArgumentException", Cond.fieldLink RX2 33 "CapacityRound" "outputs" "[I", Cond.methodLink RX2 76 yX2_isParty, Cond.static yX2_isParty, Cond.code yX2_isParty cX2_isParty 1 (some .boolean), Cond.methodLink RX2 50 yX2_isWithin, Cond.static yX2_isWithin, Cond.code yX2_isWithin cX2_isWithin 3 (some .boolean), Cond.methodLink RX2 108 yX2_isYear, Cond.static yX2_isYear, Cond.code yX2_isYear cX2_isYear 1 (some .boolean), Cond.methodLink RX2 149 yX2_isHour, Cond.static yX2_isHour, Cond.code yX2_isHour cX2_isHour 1 (some .boolean)]
def wsL_tell_r2 : List Cond := [Cond.methodLink RX2 154 yX2_hourCell, Cond.static yX2_hourCell, Cond.code yX2_hourCell cX2_hourCell 3 (some .int), Cond.methodLink RX2 145 yX2_yearCell, Cond.static yX2_yearCell, Cond.code yX2_yearCell cX2_yearCell 2 (some .int)]
def wsL_tell : List Cond := .codeWith yL_tell cL_tell 7 (some .int) [(0, 14, 17, 26), (0, 14, 21, 13)] :: ((wsL_tell_r1 ++ wsL_tell_r2) ++ wsX20 ++ (vx_atS RX2 84 "java/lang/IndexOutOfBoundsException" ["java/lang/RuntimeException", "java/lang/Exception"]).filter goodWord ++ (vx_atS RX2 58 "java/lang/IllegalArgumentException" ["java/lang/RuntimeException", "java/lang/Exception"]).filter goodWord)
def wsL_setPenalty : List Cond := .codeWith yL_setPenalty cL_setPenalty 4 (some .int) [(0, 6, 9, 13)] :: ([.classLink RL 13 "java/lang/IllegalArgumentException", .methodLink RL 68 yX2_setPenalty, .instanceMethod yX2_setPenalty, .selects RX2 yX2_setPenalty yX2_setPenalty, .initialized RX2, .code yX2_setPenalty cX2_setPenalty 3 none, .classLink RX2 54 "java/lang/IllegalArgumentException", .initialized "java/lang/IllegalArgumentException", .fieldLink RX2 44 "CapacityRound" "penaltyRate" "I", .fieldLink RX2 47 "CapacityRound" "penaltyCap" "I", .methodLink RX2 50 yX2_isWithin, .static yX2_isWithin, .code yX2_isWithin cX2_isWithin 3 (some .boolean)] ++ wsX20 ++ (vx_atS RX2 58 "java/lang/IllegalArgumentException" ["java/lang/RuntimeException", "java/lang/Exception"]).filter goodWord)
def wsL_lack_r1 : List Cond := [Cond.classLink RL 26 "java/lang/IndexOutOfBoundsException", Cond.methodLink RL 72 yX2_lack, Cond.instanceMethod yX2_lack, Cond.selects RX2 yX2_lack yX2_lack, Cond.initialized RX2, Cond.code yX2_lack cX2_lack 3 (some .int), Cond.classLink RX2 80 "java/lang/IndexOutOfBoundsException", Cond.initialized "java/lang/IndexOutOfBoundsException", Cond.methodLink RX2 76 yX2_isParty, Cond.static yX2_isParty, Cond.code yX2_isParty cX2_isParty 1 (some .boolean), Cond.methodLink RX2 50 yX2_isWithin, Cond.static yX2_isWithin, Cond.code yX2_isWithin cX2_isWithin 3 (some .boolean), Cond.methodLink RX2 108 yX2_isYear, Cond.static yX2_isYear, Cond.code yX2_isYear cX2_isYear 1 (some .boolean), Cond.methodLink RX2 171 yX2_lackOf, Cond.instanceMethod yX2_lackOf, Cond.selects RX2 yX2_lackOf yX2_lackOf, Cond.code yX2_lackOf cX2_lackOf 6 (some .int), Cond.fieldLink RX2 36 "CapacityRound" "stressed" "[Z", Cond.fieldLink RX2 30 "CapacityRound" "obligations" "[I", Cond.fieldLink RX2 33 "CapacityRound" "outputs" "[I"]
def wsL_lack_r2 : List Cond := [Cond.methodLink RX2 154 yX2_hourCell, Cond.static yX2_hourCell, Cond.code yX2_hourCell cX2_hourCell 3 (some .int), Cond.methodLink RX2 145 yX2_yearCell, Cond.static yX2_yearCell, Cond.code yX2_yearCell cX2_yearCell 2 (some .int)]
def wsL_lack : List Cond := .codeWith yL_lack cL_lack 5 (some .int) [(0, 10, 13, 26)] :: ((wsL_lack_r1 ++ wsL_lack_r2) ++ wsX20 ++ (vx_atS RX2 84 "java/lang/IndexOutOfBoundsException" ["java/lang/RuntimeException", "java/lang/Exception"]).filter goodWord)
def wsL_penalty_r1 : List Cond := [Cond.classLink RL 26 "java/lang/IndexOutOfBoundsException", Cond.methodLink RL 75 yX2_penalty, Cond.instanceMethod yX2_penalty, Cond.selects RX2 yX2_penalty yX2_penalty, Cond.initialized RX2, Cond.code yX2_penalty cX2_penalty 3 (some .int), Cond.classLink RX2 80 "java/lang/IndexOutOfBoundsException", Cond.initialized "java/lang/IndexOutOfBoundsException", Cond.methodLink RX2 76 yX2_isParty, Cond.static yX2_isParty, Cond.code yX2_isParty cX2_isParty 1 (some .boolean), Cond.methodLink RX2 50 yX2_isWithin, Cond.static yX2_isWithin, Cond.code yX2_isWithin cX2_isWithin 3 (some .boolean), Cond.methodLink RX2 108 yX2_isYear, Cond.static yX2_isYear, Cond.code yX2_isYear cX2_isYear 1 (some .boolean), Cond.methodLink RX2 174 yX2_penaltyOf, Cond.instanceMethod yX2_penaltyOf, Cond.selects RX2 yX2_penaltyOf yX2_penaltyOf, Cond.code yX2_penaltyOf cX2_penaltyOf 7 (some .int), Cond.fieldLink RX2 44 "CapacityRound" "penaltyRate" "I", Cond.fieldLink RX2 27 "CapacityRound" "incomes" "[I", Cond.fieldLink RX2 47 "CapacityRound" "penaltyCap" "I"]
def wsL_penalty_r2 : List Cond := [Cond.constantLong RX2 191 (100), Cond.methodLink RX2 193 Lib.MathLoose.min_long.x, Cond.static Lib.MathLoose.min_long.x, Cond.initialized "java/lang/Math", Cond.code Lib.MathLoose.min_long.x Lib.MathLoose.min_long.code 4 (some .long), Cond.methodLink RX2 196 Lib.MathLoose.max_long.x, Cond.static Lib.MathLoose.max_long.x, Cond.code Lib.MathLoose.max_long.x Lib.MathLoose.max_long.code 4 (some .long), Cond.methodLink RX2 171 yX2_lackOf, Cond.instanceMethod yX2_lackOf, Cond.selects RX2 yX2_lackOf yX2_lackOf, Cond.code yX2_lackOf cX2_lackOf 6 (some .int), Cond.fieldLink RX2 36 "CapacityRound" "stressed" "[Z", Cond.fieldLink RX2 30 "CapacityRound" "obligations" "[I", Cond.fieldLink RX2 33 "CapacityRound" "outputs" "[I", Cond.methodLink RX2 154 yX2_hourCell, Cond.static yX2_hourCell, Cond.code yX2_hourCell cX2_hourCell 3 (some .int), Cond.methodLink RX2 145 yX2_yearCell, Cond.static yX2_yearCell, Cond.code yX2_yearCell cX2_yearCell 2 (some .int)]
def wsL_penalty : List Cond := .codeWith yL_penalty cL_penalty 5 (some .int) [(0, 10, 13, 26)] :: ((wsL_penalty_r1 ++ wsL_penalty_r2) ++ wsX20 ++ (vx_atS RX2 84 "java/lang/IndexOutOfBoundsException" ["java/lang/RuntimeException", "java/lang/Exception"]).filter goodWord)
def wsL_law0_r1 : List Cond := [Cond.classLink RL 8 RX2, Cond.instantiable RX2 10, Cond.initialized RX2, Cond.classLink RL 79 RX3, Cond.instantiable RX3 17, Cond.initialized RX3, Cond.arrayClass .long, Cond.methodLink RL 78 yX2_init, Cond.instanceMethod yX2_init, Cond.code yX2_init cX2_init 1 none, Cond.methodLink RX2 1 objectInit, Cond.instanceMethod objectInit, Cond.code objectInit ⟨#[0xb1]⟩ 1 none, Cond.classLink RX2 7 RX0, Cond.instantiable RX0 4, Cond.initialized RX0, Cond.fieldLink RX2 10 "CapacityRound" "demand" "LCapacityRound$Demand;", Cond.classLink RX2 16 RX1, Cond.instantiable RX1 7, Cond.initialized RX1, Cond.fieldLink RX2 19 "CapacityRound" "queue" "LCapacityRound$Queue;", Cond.arrayClass .int, Cond.fieldLink RX2 23 "CapacityRound" "boughtByYear" "[I", Cond.fieldLink RX2 27 "CapacityRound" "incomes" "[I"]
def wsL_law0_r2 : List Cond := [Cond.fieldLink RX2 30 "CapacityRound" "obligations" "[I", Cond.fieldLink RX2 33 "CapacityRound" "outputs" "[I", Cond.arrayClass .boolean, Cond.fieldLink RX2 36 "CapacityRound" "stressed" "[Z", Cond.fieldLink RX2 40 "CapacityRound" "tradeCount" "I", Cond.fieldLink RX2 44 "CapacityRound" "penaltyRate" "I", Cond.fieldLink RX2 47 "CapacityRound" "penaltyCap" "I", Cond.methodLink RX2 9 yX0_init, Cond.instanceMethod yX0_init, Cond.code yX0_init cX0_init 1 none, Cond.methodLink RX0 1 objectInit, Cond.fieldLink RX0 9 "CapacityRound$Demand" "worths" "[I", Cond.methodLink RX0 13 yX0_change, Cond.instanceMethod yX0_change, Cond.selects RX0 yX0_change yX0_change, Cond.code yX0_change cX0_change 5 none, Cond.fieldLink RX0 17 "CapacityRound$Demand" "lowerAmount" "I", Cond.fieldLink RX0 21 "CapacityRound$Demand" "upperAmount" "I", Cond.fieldLink RX0 24 "CapacityRound$Demand" "topPrice" "I", Cond.methodLink RX0 27 yX0_valueOf, Cond.instanceMethod yX0_valueOf, Cond.selects RX0 yX0_valueOf yX0_valueOf, Cond.code yX0_valueOf cX0_valueOf 2 (some .int), Cond.methodLink RX2 18 yX1_init]
def wsL_law0_r3 : List Cond := [Cond.instanceMethod yX1_init, Cond.code yX1_init cX1_init 1 none, Cond.methodLink RX1 3 objectInit, Cond.fieldLink RX1 11 "CapacityRound$Queue" "parties" "[I", Cond.fieldLink RX1 15 "CapacityRound$Queue" "amounts" "[I", Cond.fieldLink RX1 18 "CapacityRound$Queue" "terms" "[I", Cond.fieldLink RX1 21 "CapacityRound$Queue" "order" "[I", Cond.fieldLink RX1 24 "CapacityRound$Queue" "exits" "[I", Cond.fieldLink RX1 27 "CapacityRound$Queue" "in" "[Z", Cond.fieldLink RX1 31 "CapacityRound$Queue" "count" "I", Cond.methodLink RL 81 yX3_init, Cond.instanceMethod yX3_init, Cond.code yX3_init cX3_init 1 none, Cond.methodLink RX3 1 objectInit, Cond.fieldLink RX3 7 "CapacityRoundModel" "lower" "I", Cond.fieldLink RX3 13 "CapacityRoundModel" "upper" "I", Cond.fieldLink RX3 16 "CapacityRoundModel" "top" "I", Cond.fieldLink RX3 19 "CapacityRoundModel" "party" "[I", Cond.fieldLink RX3 23 "CapacityRoundModel" "amount" "[I", Cond.fieldLink RX3 26 "CapacityRoundModel" "exit" "[I", Cond.fieldLink RX3 29 "CapacityRoundModel" "term" "[I", Cond.fieldLink RX3 32 "CapacityRoundModel" "bought" "[I", Cond.fieldLink RX3 35 "CapacityRoundModel" "income" "[I", Cond.fieldLink RX3 38 "CapacityRoundModel" "obligation" "[I"]
def wsL_law0_r4 : List Cond := [Cond.fieldLink RX3 41 "CapacityRoundModel" "output" "[I", Cond.fieldLink RX3 44 "CapacityRoundModel" "isStress" "[Z", Cond.fieldLink RX3 48 "CapacityRoundModel" "rate" "I", Cond.fieldLink RX3 51 "CapacityRoundModel" "cap" "I", Cond.methodLink RL 82 yL_setDemand, Cond.static yL_setDemand, Cond.initialized RL, Cond.codeWith yL_setDemand cL_setDemand 5 (some .int) [(0, 7, 10, 13)], Cond.classLink RL 13 "java/lang/IllegalArgumentException", Cond.methodLink RL 7 yX2_setDemand, Cond.instanceMethod yX2_setDemand, Cond.selects RX2 yX2_setDemand yX2_setDemand, Cond.code yX2_setDemand cX2_setDemand 4 none, Cond.classLink RX2 54 "java/lang/IllegalArgumentException", Cond.initialized "java/lang/IllegalArgumentException", Cond.methodLink RX2 50 yX2_isWithin, Cond.static yX2_isWithin, Cond.code yX2_isWithin cX2_isWithin 3 (some .boolean), Cond.methodLink RX2 61 yX0_change, Cond.methodLink RL 87 yX3_setDemand, Cond.instanceMethod yX3_setDemand, Cond.selects RX3 yX3_setDemand yX3_setDemand, Cond.code yX3_setDemand cX3_setDemand 5 none, Cond.methodLink RX3 57 yX3_isWithin]
def wsL_law0_r5 : List Cond := [Cond.static yX3_isWithin, Cond.code yX3_isWithin cX3_isWithin 3 (some .boolean), Cond.methodLink RX3 61 yX3_goes, Cond.instanceMethod yX3_goes, Cond.selects RX3 yX3_goes yX3_goes, Cond.code yX3_goes cX3_goes 4 (some .boolean), Cond.fieldLink RX3 54 "CapacityRoundModel" "thrown" "I", Cond.methodLink RL 88 yX3_thrown, Cond.instanceMethod yX3_thrown, Cond.selects RX3 yX3_thrown yX3_thrown, Cond.code yX3_thrown cX3_thrown 1 (some .int), Cond.methodLink RL 92 yL_value, Cond.static yL_value, Cond.codeWith yL_value cL_value 4 (some .int) [(0, 9, 12, 13)], Cond.methodLink RL 15 yX2_value, Cond.instanceMethod yX2_value, Cond.selects RX2 yX2_value yX2_value, Cond.code yX2_value cX2_value 2 (some .int), Cond.methodLink RX2 67 yX0_valueOf, Cond.methodLink RL 95 yX3_value, Cond.instanceMethod yX3_value, Cond.selects RX3 yX3_value yX3_value, Cond.code yX3_value cX3_value 2 (some .int), Cond.methodLink RX3 65 yX3_valueOf]
def wsL_law0_r6 : List Cond := [Cond.instanceMethod yX3_valueOf, Cond.selects RX3 yX3_valueOf yX3_valueOf, Cond.code yX3_valueOf cX3_valueOf 2 (some .int), Cond.methodLink RL 96 yL_worth, Cond.static yL_worth, Cond.codeWith yL_worth cL_worth 4 (some .int) [(0, 9, 12, 13)], Cond.methodLink RL 19 yX2_worth, Cond.instanceMethod yX2_worth, Cond.selects RX2 yX2_worth yX2_worth, Cond.code yX2_worth cX2_worth 2 (some .int), Cond.methodLink RX2 73 yX0_worthOf, Cond.instanceMethod yX0_worthOf, Cond.selects RX0 yX0_worthOf yX0_worthOf, Cond.code yX0_worthOf cX0_worthOf 2 (some .int), Cond.methodLink RX0 31 Lib.Math.min.name, Cond.static Lib.Math.min.name, Cond.initialized "java/lang/Math", Cond.code Lib.Math.min.name Lib.Math.min.code 2 (some .int), Cond.methodLink RX0 37 Lib.Math.max.name, Cond.static Lib.Math.max.name, Cond.code Lib.Math.max.name Lib.Math.max.code 2 (some .int), Cond.methodLink RL 98 yX3_worth, Cond.instanceMethod yX3_worth, Cond.selects RX3 yX3_worth yX3_worth]
def wsL_law0_r7 : List Cond := [Cond.code yX3_worth cX3_worth 2 (some .int), Cond.methodLink RX3 69 yX3_worthOf, Cond.instanceMethod yX3_worthOf, Cond.selects RX3 yX3_worthOf yX3_worthOf, Cond.code yX3_worthOf cX3_worthOf 4 (some .int), Cond.methodLink RL 99 yL_offer, Cond.static yL_offer, Cond.codeWith yL_offer cL_offer 8 (some .int) [(0, 16, 19, 26), (0, 16, 23, 13), (0, 16, 27, 28)], Cond.classLink RL 26 "java/lang/IndexOutOfBoundsException", Cond.classLink RL 28 "java/lang/IllegalStateException", Cond.methodLink RL 22 yX2_offer, Cond.instanceMethod yX2_offer, Cond.selects RX2 yX2_offer yX2_offer, Cond.code yX2_offer cX2_offer 6 (some .int), Cond.classLink RX2 80 "java/lang/IndexOutOfBoundsException", Cond.initialized "java/lang/IndexOutOfBoundsException", Cond.classLink RX2 91 "java/lang/IllegalStateException", Cond.initialized "java/lang/IllegalStateException", Cond.methodLink RX2 76 yX2_isParty, Cond.static yX2_isParty, Cond.code yX2_isParty cX2_isParty 1 (some .boolean), Cond.methodLink RX2 87 yX1_isFull, Cond.instanceMethod yX1_isFull, Cond.selects RX1 yX1_isFull yX1_isFull]
def wsL_law0_r8 : List Cond := [Cond.code yX1_isFull cX1_isFull 1 (some .boolean), Cond.methodLink RX2 96 yX1_add, Cond.instanceMethod yX1_add, Cond.selects RX1 yX1_add yX1_add, Cond.code yX1_add cX1_add 7 (some .int), Cond.methodLink RL 102 yX3_offer, Cond.instanceMethod yX3_offer, Cond.selects RX3 yX3_offer yX3_offer, Cond.code yX3_offer cX3_offer 7 (some .int), Cond.fieldLink RX3 76 "CapacityRoundModel" "many" "I", Cond.methodLink RX3 72 yX3_isParty, Cond.static yX3_isParty, Cond.code yX3_isParty cX3_isParty 1 (some .boolean), Cond.methodLink RL 103 yX2_offers, Cond.instanceMethod yX2_offers, Cond.selects RX2 yX2_offers yX2_offers, Cond.code yX2_offers cX2_offers 1 (some .int), Cond.fieldLink RX2 100 "CapacityRound$Queue" "count" "I", Cond.methodLink RL 106 yX3_offers, Cond.instanceMethod yX3_offers, Cond.selects RX3 yX3_offers yX3_offers, Cond.code yX3_offers cX3_offers 1 (some .int), Cond.methodLink RL 107 yL_supply, Cond.static yL_supply]
def wsL_law0_r9 : List Cond := [Cond.codeWith yL_supply cL_supply 4 (some .int) [(0, 9, 12, 13)], Cond.methodLink RL 30 yX2_supply, Cond.instanceMethod yX2_supply, Cond.selects RX2 yX2_supply yX2_supply, Cond.code yX2_supply cX2_supply 2 (some .int), Cond.methodLink RX2 105 yX1_amountUpTo, Cond.instanceMethod yX1_amountUpTo, Cond.selects RX1 yX1_amountUpTo yX1_amountUpTo, Cond.code yX1_amountUpTo cX1_amountUpTo 4 (some .int), Cond.methodLink RL 109 yX3_supply, Cond.instanceMethod yX3_supply, Cond.selects RX3 yX3_supply yX3_supply, Cond.code yX3_supply cX3_supply 4 (some .int), Cond.methodLink RL 110 yL_clearing, Cond.static yL_clearing, Cond.codeWith yL_clearing cL_clearing 4 (some .int) [(0, 9, 12, 26)], Cond.methodLink RL 33 yX2_clearing, Cond.instanceMethod yX2_clearing, Cond.selects RX2 yX2_clearing yX2_clearing, Cond.code yX2_clearing cX2_clearing 2 (some .int), Cond.methodLink RX2 108 yX2_isYear, Cond.static yX2_isYear, Cond.code yX2_isYear cX2_isYear 1 (some .boolean), Cond.methodLink RX2 113 yX1_bestFirst]
def wsL_law0_r10 : List Cond := [Cond.instanceMethod yX1_bestFirst, Cond.selects RX1 yX1_bestFirst yX1_bestFirst, Cond.code yX1_bestFirst cX1_bestFirst 10 (some .int), Cond.methodLink RX1 35 yX0_worthOf, Cond.methodLink RX2 117 yX1_priceOfFirst, Cond.instanceMethod yX1_priceOfFirst, Cond.selects RX1 yX1_priceOfFirst yX1_priceOfFirst, Cond.code yX1_priceOfFirst cX1_priceOfFirst 2 (some .int), Cond.methodLink RL 112 yX3_clearing, Cond.instanceMethod yX3_clearing, Cond.selects RX3 yX3_clearing yX3_clearing, Cond.code yX3_clearing cX3_clearing 2 (some .int), Cond.methodLink RX3 82 yX3_isYear, Cond.static yX3_isYear, Cond.code yX3_isYear cX3_isYear 1 (some .boolean), Cond.methodLink RX3 85 yX3_taken, Cond.instanceMethod yX3_taken, Cond.selects RX3 yX3_taken yX3_taken, Cond.code yX3_taken cX3_taken 9 (some .int), Cond.methodLink RX3 79 yX3_rank, Cond.instanceMethod yX3_rank, Cond.selects RX3 yX3_rank yX3_rank, Cond.code yX3_rank cX3_rank 4 (some .int), Cond.methodLink RX3 88 yX3_price]
def wsL_law0_r11 : List Cond := [Cond.instanceMethod yX3_price, Cond.selects RX3 yX3_price yX3_price, Cond.code yX3_price cX3_price 4 (some .int), Cond.methodLink RL 113 yL_clearingByClock, Cond.static yL_clearingByClock, Cond.codeWith yL_clearingByClock cL_clearingByClock 4 (some .int) [(0, 9, 12, 26)], Cond.methodLink RL 36 yX2_clearingByClock, Cond.instanceMethod yX2_clearingByClock, Cond.selects RX2 yX2_clearingByClock yX2_clearingByClock, Cond.code yX2_clearingByClock cX2_clearingByClock 2 (some .int), Cond.methodLink RX2 120 yX1_priceByClock, Cond.instanceMethod yX1_priceByClock, Cond.selects RX1 yX1_priceByClock yX1_priceByClock, Cond.code yX1_priceByClock cX1_priceByClock 10 (some .int), Cond.methodLink RX1 41 yX1_dearestIn, Cond.instanceMethod yX1_dearestIn, Cond.selects RX1 yX1_dearestIn yX1_dearestIn, Cond.code yX1_dearestIn cX1_dearestIn 3 (some .int), Cond.methodLink RX1 45 yX1_exitOf, Cond.instanceMethod yX1_exitOf, Cond.selects RX1 yX1_exitOf yX1_exitOf, Cond.code yX1_exitOf cX1_exitOf 2 (some .int), Cond.methodLink RL 115 yX3_clearingByClock, Cond.instanceMethod yX3_clearingByClock]
def wsL_law0_r12 : List Cond := [Cond.selects RX3 yX3_clearingByClock yX3_clearingByClock, Cond.code yX3_clearingByClock cX3_clearingByClock 2 (some .int), Cond.methodLink RX3 91 yX3_clearing, Cond.methodLink RL 116 yL_wouldTake, Cond.static yL_wouldTake, Cond.codeWith yL_wouldTake cL_wouldTake 5 (some .int) [(0, 17, 20, 26)], Cond.methodLink RL 39 yX2_wouldTake, Cond.instanceMethod yX2_wouldTake, Cond.selects RX2 yX2_wouldTake yX2_wouldTake, Cond.code yX2_wouldTake cX2_wouldTake 3 (some .boolean), Cond.methodLink RX2 123 yX1_has, Cond.instanceMethod yX1_has, Cond.selects RX1 yX1_has yX1_has, Cond.code yX1_has cX1_has 2 (some .boolean), Cond.methodLink RX2 128 yX1_isAmongFirst, Cond.instanceMethod yX1_isAmongFirst, Cond.selects RX1 yX1_isAmongFirst yX1_isAmongFirst, Cond.code yX1_isAmongFirst cX1_isAmongFirst 4 (some .boolean), Cond.methodLink RL 119 yX3_wouldTake, Cond.instanceMethod yX3_wouldTake, Cond.selects RX3 yX3_wouldTake yX3_wouldTake, Cond.code yX3_wouldTake cX3_wouldTake 3 (some .boolean), Cond.methodLink RL 120 yL_run, Cond.static yL_run]
def wsL_law0_r13 : List Cond := [Cond.codeWith yL_run cL_run 4 (some .int) [(0, 9, 12, 26), (0, 9, 15, 28)], Cond.methodLink RL 43 yX2_run, Cond.instanceMethod yX2_run, Cond.selects RX2 yX2_run yX2_run, Cond.code yX2_run cX2_run 5 (some .int), Cond.fieldLink RX2 134 "CapacityRound$Queue" "order" "[I", Cond.methodLink RX2 137 yX2_take, Cond.instanceMethod yX2_take, Cond.selects RX2 yX2_take yX2_take, Cond.code yX2_take cX2_take 9 none, Cond.fieldLink RX2 177 "CapacityRound$Queue" "parties" "[I", Cond.fieldLink RX2 180 "CapacityRound$Queue" "amounts" "[I", Cond.fieldLink RX2 183 "CapacityRound$Queue" "terms" "[I", Cond.methodLink RX2 186 Lib.Math.min.name, Cond.methodLink RX2 145 yX2_yearCell, Cond.static yX2_yearCell, Cond.code yX2_yearCell cX2_yearCell 2 (some .int), Cond.methodLink RX2 154 yX2_hourCell, Cond.static yX2_hourCell, Cond.code yX2_hourCell cX2_hourCell 3 (some .int), Cond.methodLink RX2 140 yX1_clear, Cond.instanceMethod yX1_clear, Cond.selects RX1 yX1_clear yX1_clear, Cond.code yX1_clear cX1_clear 1 none]
def wsL_law0_r14 : List Cond := [Cond.methodLink RL 122 yX3_run, Cond.instanceMethod yX3_run, Cond.selects RX3 yX3_run yX3_run, Cond.code yX3_run cX3_run 7 (some .int), Cond.methodLink RX3 94 yX3_place, Cond.static yX3_place, Cond.code yX3_place cX3_place 3 (some .int), Cond.methodLink RL 123 yL_bought, Cond.static yL_bought, Cond.codeWith yL_bought cL_bought 4 (some .int) [(0, 9, 12, 26)], Cond.methodLink RL 46 yX2_bought, Cond.instanceMethod yX2_bought, Cond.selects RX2 yX2_bought yX2_bought, Cond.code yX2_bought cX2_bought 2 (some .int), Cond.methodLink RL 125 yX3_bought, Cond.instanceMethod yX3_bought, Cond.selects RX3 yX3_bought yX3_bought, Cond.code yX3_bought cX3_bought 2 (some .int), Cond.methodLink RL 126 yL_income, Cond.static yL_income, Cond.codeWith yL_income cL_income 5 (some .int) [(0, 10, 13, 26)], Cond.methodLink RL 49 yX2_income, Cond.instanceMethod yX2_income, Cond.selects RX2 yX2_income yX2_income]
def wsL_law0_r15 : List Cond := [Cond.code yX2_income cX2_income 3 (some .int), Cond.methodLink RL 128 yX3_income, Cond.instanceMethod yX3_income, Cond.selects RX3 yX3_income yX3_income, Cond.code yX3_income cX3_income 3 (some .int), Cond.methodLink RL 129 yL_obligation, Cond.static yL_obligation, Cond.codeWith yL_obligation cL_obligation 6 (some .int) [(0, 12, 15, 26)], Cond.methodLink RL 53 yX2_obligation, Cond.instanceMethod yX2_obligation, Cond.selects RX2 yX2_obligation yX2_obligation, Cond.code yX2_obligation cX2_obligation 4 (some .int), Cond.methodLink RX2 149 yX2_isHour, Cond.static yX2_isHour, Cond.code yX2_isHour cX2_isHour 1 (some .boolean), Cond.methodLink RL 132 yX3_obligation, Cond.instanceMethod yX3_obligation, Cond.selects RX3 yX3_obligation yX3_obligation, Cond.code yX3_obligation cX3_obligation 4 (some .int), Cond.methodLink RX3 98 yX3_isHour, Cond.static yX3_isHour, Cond.code yX3_isHour cX3_isHour 1 (some .boolean), Cond.methodLink RL 133 yL_trade, Cond.static yL_trade]
def wsL_law0_r16 : List Cond := [Cond.codeWith yL_trade cL_trade 9 (some .int) [(0, 18, 21, 26), (0, 18, 25, 13), (0, 18, 29, 28)], Cond.methodLink RL 57 yX2_trade, Cond.instanceMethod yX2_trade, Cond.selects RX2 yX2_trade yX2_trade, Cond.code yX2_trade cX2_trade 9 (some .int), Cond.methodLink RX2 160 yX2_leastObligation, Cond.instanceMethod yX2_leastObligation, Cond.selects RX2 yX2_leastObligation yX2_leastObligation, Cond.code yX2_leastObligation cX2_leastObligation 7 (some .int), Cond.methodLink RL 136 yX3_trade, Cond.instanceMethod yX3_trade, Cond.selects RX3 yX3_trade yX3_trade, Cond.code yX3_trade cX3_trade 10 (some .int), Cond.fieldLink RX3 105 "CapacityRoundModel" "trades" "I", Cond.methodLink RX3 101 yX3_least, Cond.instanceMethod yX3_least, Cond.selects RX3 yX3_least yX3_least, Cond.code yX3_least cX3_least 8 (some .int), Cond.methodLink RL 137 yX2_trades, Cond.instanceMethod yX2_trades, Cond.selects RX2 yX2_trades yX2_trades, Cond.code yX2_trades cX2_trades 1 (some .int), Cond.methodLink RL 140 yX3_trades, Cond.instanceMethod yX3_trades]
def wsL_law0_r17 : List Cond := [Cond.selects RX3 yX3_trades yX3_trades, Cond.code yX3_trades cX3_trades 1 (some .int), Cond.methodLink RL 141 yL_stress, Cond.static yL_stress, Cond.codeWith yL_stress cL_stress 5 (some .int) [(0, 17, 20, 26)], Cond.methodLink RL 61 yX2_stress, Cond.instanceMethod yX2_stress, Cond.selects RX2 yX2_stress yX2_stress, Cond.code yX2_stress cX2_stress 4 (some .boolean), Cond.methodLink RL 143 yX3_stress, Cond.instanceMethod yX3_stress, Cond.selects RX3 yX3_stress yX3_stress, Cond.code yX3_stress cX3_stress 3 (some .boolean), Cond.methodLink RL 144 yL_tell, Cond.static yL_tell, Cond.codeWith yL_tell cL_tell 7 (some .int) [(0, 14, 17, 26), (0, 14, 21, 13)], Cond.methodLink RL 64 yX2_tell, Cond.instanceMethod yX2_tell, Cond.selects RX2 yX2_tell yX2_tell, Cond.code yX2_tell cX2_tell 7 (some .int), Cond.methodLink RL 147 yX3_tell, Cond.instanceMethod yX3_tell, Cond.selects RX3 yX3_tell yX3_tell, Cond.code yX3_tell cX3_tell 6 (some .int)]
def wsL_law0_r18 : List Cond := [Cond.methodLink RL 148 yL_setPenalty, Cond.static yL_setPenalty, Cond.codeWith yL_setPenalty cL_setPenalty 4 (some .int) [(0, 6, 9, 13)], Cond.methodLink RL 68 yX2_setPenalty, Cond.instanceMethod yX2_setPenalty, Cond.selects RX2 yX2_setPenalty yX2_setPenalty, Cond.code yX2_setPenalty cX2_setPenalty 3 none, Cond.methodLink RL 151 yX3_setPenalty, Cond.instanceMethod yX3_setPenalty, Cond.selects RX3 yX3_setPenalty yX3_setPenalty, Cond.code yX3_setPenalty cX3_setPenalty 3 none, Cond.methodLink RL 152 yL_lack, Cond.static yL_lack, Cond.codeWith yL_lack cL_lack 5 (some .int) [(0, 10, 13, 26)], Cond.methodLink RL 72 yX2_lack, Cond.instanceMethod yX2_lack, Cond.selects RX2 yX2_lack yX2_lack, Cond.code yX2_lack cX2_lack 3 (some .int), Cond.methodLink RX2 171 yX2_lackOf, Cond.instanceMethod yX2_lackOf, Cond.selects RX2 yX2_lackOf yX2_lackOf, Cond.code yX2_lackOf cX2_lackOf 6 (some .int), Cond.methodLink RL 154 yX3_lack, Cond.instanceMethod yX3_lack]
def wsL_law0_r19 : List Cond := [Cond.selects RX3 yX3_lack yX3_lack, Cond.code yX3_lack cX3_lack 3 (some .int), Cond.methodLink RX3 108 yX3_lackOf, Cond.instanceMethod yX3_lackOf, Cond.selects RX3 yX3_lackOf yX3_lackOf, Cond.code yX3_lackOf cX3_lackOf 6 (some .int), Cond.methodLink RL 155 yL_penalty, Cond.static yL_penalty, Cond.codeWith yL_penalty cL_penalty 5 (some .int) [(0, 10, 13, 26)], Cond.methodLink RL 75 yX2_penalty, Cond.instanceMethod yX2_penalty, Cond.selects RX2 yX2_penalty yX2_penalty, Cond.code yX2_penalty cX2_penalty 3 (some .int), Cond.methodLink RX2 174 yX2_penaltyOf, Cond.instanceMethod yX2_penaltyOf, Cond.selects RX2 yX2_penaltyOf yX2_penaltyOf, Cond.code yX2_penaltyOf cX2_penaltyOf 7 (some .int), Cond.constantLong RX2 191 (100), Cond.methodLink RX2 193 Lib.MathLoose.min_long.x, Cond.static Lib.MathLoose.min_long.x, Cond.code Lib.MathLoose.min_long.x Lib.MathLoose.min_long.code 4 (some .long), Cond.methodLink RX2 196 Lib.MathLoose.max_long.x, Cond.static Lib.MathLoose.max_long.x, Cond.code Lib.MathLoose.max_long.x Lib.MathLoose.max_long.code 4 (some .long)]
def wsL_law0_r20 : List Cond := [Cond.methodLink RL 157 yX3_penalty, Cond.instanceMethod yX3_penalty, Cond.selects RX3 yX3_penalty yX3_penalty, Cond.code yX3_penalty cX3_penalty 3 (some .int), Cond.methodLink RX3 114 yX3_penaltyOf, Cond.instanceMethod yX3_penaltyOf, Cond.selects RX3 yX3_penaltyOf yX3_penaltyOf, Cond.code yX3_penaltyOf cX3_penaltyOf 7 (some .long), Cond.constantLong RX3 112 (100), Cond.methodLink RL 158 yX2_penalties, Cond.instanceMethod yX2_penalties, Cond.selects RX2 yX2_penalties yX2_penalties, Cond.code yX2_penalties cX2_penalties 5 (some .long), Cond.methodLink RL 162 yX3_penalties, Cond.instanceMethod yX3_penalties, Cond.selects RX3 yX3_penalties yX3_penalties, Cond.code yX3_penalties cX3_penalties 5 (some .long)]
def wsL_law0 : List Cond := (wsL_law0_r1 ++ (wsL_law0_r2 ++ (wsL_law0_r3 ++ (wsL_law0_r4 ++ (wsL_law0_r5 ++ (wsL_law0_r6 ++ (wsL_law0_r7 ++ (wsL_law0_r8 ++ (wsL_law0_r9 ++ (wsL_law0_r10 ++ (wsL_law0_r11 ++ (wsL_law0_r12 ++ (wsL_law0_r13 ++ (wsL_law0_r14 ++ (wsL_law0_r15 ++ (wsL_law0_r16 ++ (wsL_law0_r17 ++ (wsL_law0_r18 ++ (wsL_law0_r19 ++ wsL_law0_r20))))))))))))))))))) ++ wsX20 ++ wsX30 ++ wsX00 ++ wsX10 ++ ([] : List Cond)
def wsL_law : List Cond := wsL_law0 ++ (vx_atS RX2 58 "java/lang/IllegalArgumentException" ["java/lang/RuntimeException", "java/lang/Exception"]).filter goodWord ++ (vx_atS RX2 84 "java/lang/IndexOutOfBoundsException" ["java/lang/RuntimeException", "java/lang/Exception"]).filter goodWord ++ (vx_atS RX2 95 "java/lang/IllegalStateException" ["java/lang/RuntimeException", "java/lang/Exception"]).filter goodWord
abbrev vwCl : List vw_C := [(RX0, TX0, 4), (RX1, TX1, 7), (RX2, TX2, 10), (RX3, TX3, 17)]
end
section
set_option maxRecDepth 20000 in
theorem ggX0_init_X0_change : GoodIn wsX0_init wsX0_change := goodIn_r _ [10, 11, 12, 13, 5, 14, 15, 16, 9, 17, 18, 19, 20, 21] (by decide +kernel) (by decide +kernel)
set_option maxRecDepth 20000 in
theorem gX0_init_X0_change : GoodIn wsX0_init (wsV RX0 13 RX0 yX0_change wsX0_change) := goodIn_app (goodIn_of _ (by decide +kernel)) ggX0_init_X0_change
theorem dX0_init_0 : decode cX0_init 0 = .ok (.aload_n 0, 1) := by decide +kernel
theorem dX0_init_1 : decode cX0_init 1 = .ok (.invokespecial 1, 3) := by decide +kernel
theorem dX0_init_4 : decode cX0_init 4 = .ok (.aload_n 0, 1) := by decide +kernel
theorem dX0_init_5 : decode cX0_init 5 = .ok (.sipush 1002, 3) := by decide +kernel
theorem dX0_init_8 : decode cX0_init 8 = .ok (.newarray .int, 2) := by decide +kernel
theorem dX0_init_10 : decode cX0_init 10 = .ok (.putfield 9, 3) := by decide +kernel
theorem dX0_init_13 : decode cX0_init 13 = .ok (.aload_n 0, 1) := by decide +kernel
theorem dX0_init_14 : decode cX0_init 14 = .ok (.bipush 100, 2) := by decide +kernel
theorem dX0_init_16 : decode cX0_init 16 = .ok (.sipush 200, 3) := by decide +kernel
theorem dX0_init_19 : decode cX0_init 19 = .ok (.bipush 50, 2) := by decide +kernel
theorem dX0_init_21 : decode cX0_init 21 = .ok (.invokevirtual 13, 3) := by decide +kernel
theorem dX0_init_24 : decode cX0_init 24 = .ok (.return_, 1) := by decide +kernel
set_option maxRecDepth 20000 in
theorem ggX0_change_X0_valueOf : GoodIn wsX0_change wsX0_valueOf := goodIn_r _ [9, 1, 3, 2, 10, 11, 12, 13] (by decide +kernel) (by decide +kernel)
set_option maxRecDepth 20000 in
theorem gX0_change_X0_valueOf : GoodIn wsX0_change (wsV RX0 27 RX0 yX0_valueOf wsX0_valueOf) := goodIn_app (goodIn_of _ (by decide +kernel)) ggX0_change_X0_valueOf
theorem dX0_change_0 : decode cX0_change 0 = .ok (.aload_n 0, 1) := by decide +kernel
theorem dX0_change_1 : decode cX0_change 1 = .ok (.iload_n 1, 1) := by decide +kernel
theorem dX0_change_2 : decode cX0_change 2 = .ok (.putfield 17, 3) := by decide +kernel
theorem dX0_change_5 : decode cX0_change 5 = .ok (.aload_n 0, 1) := by decide +kernel
theorem dX0_change_6 : decode cX0_change 6 = .ok (.iload_n 2, 1) := by decide +kernel
theorem dX0_change_7 : decode cX0_change 7 = .ok (.putfield 21, 3) := by decide +kernel
theorem dX0_change_10 : decode cX0_change 10 = .ok (.aload_n 0, 1) := by decide +kernel
theorem dX0_change_11 : decode cX0_change 11 = .ok (.iload_n 3, 1) := by decide +kernel
theorem dX0_change_12 : decode cX0_change 12 = .ok (.putfield 24, 3) := by decide +kernel
theorem dX0_change_15 : decode cX0_change 15 = .ok (.iconst 1, 1) := by decide +kernel
theorem dX0_change_16 : decode cX0_change 16 = .ok (.istore 4, 2) := by decide +kernel
theorem dX0_change_18 : decode cX0_change 18 = .ok (.iload 4, 2) := by decide +kernel
theorem dX0_change_20 : decode cX0_change 20 = .ok (.sipush 1001, 3) := by decide +kernel
theorem dX0_change_23 : decode cX0_change 23 = .ok (.if_icmp .gt 32, 3) := by decide +kernel
theorem dX0_change_26 : decode cX0_change 26 = .ok (.aload_n 0, 1) := by decide +kernel
theorem dX0_change_27 : decode cX0_change 27 = .ok (.getfield 9, 3) := by decide +kernel
theorem dX0_change_30 : decode cX0_change 30 = .ok (.iload 4, 2) := by decide +kernel
theorem dX0_change_32 : decode cX0_change 32 = .ok (.aload_n 0, 1) := by decide +kernel
theorem dX0_change_33 : decode cX0_change 33 = .ok (.getfield 9, 3) := by decide +kernel
theorem dX0_change_36 : decode cX0_change 36 = .ok (.iload 4, 2) := by decide +kernel
theorem dX0_change_38 : decode cX0_change 38 = .ok (.iconst 1, 1) := by decide +kernel
theorem dX0_change_39 : decode cX0_change 39 = .ok (.isub, 1) := by decide +kernel
theorem dX0_change_40 : decode cX0_change 40 = .ok (.iaload, 1) := by decide +kernel
theorem dX0_change_41 : decode cX0_change 41 = .ok (.aload_n 0, 1) := by decide +kernel
theorem dX0_change_42 : decode cX0_change 42 = .ok (.iload 4, 2) := by decide +kernel
theorem dX0_change_44 : decode cX0_change 44 = .ok (.invokevirtual 27, 3) := by decide +kernel
theorem dX0_change_47 : decode cX0_change 47 = .ok (.iadd, 1) := by decide +kernel
theorem dX0_change_48 : decode cX0_change 48 = .ok (.iastore, 1) := by decide +kernel
theorem dX0_change_49 : decode cX0_change 49 = .ok (.iinc 4 1, 3) := by decide +kernel
theorem dX0_change_52 : decode cX0_change 52 = .ok (.goto (-34), 3) := by decide +kernel
theorem dX0_change_55 : decode cX0_change 55 = .ok (.return_, 1) := by decide +kernel
theorem dX0_valueOf_0 : decode cX0_valueOf 0 = .ok (.iload_n 1, 1) := by decide +kernel
theorem dX0_valueOf_1 : decode cX0_valueOf 1 = .ok (.aload_n 0, 1) := by decide +kernel
theorem dX0_valueOf_2 : decode cX0_valueOf 2 = .ok (.getfield 17, 3) := by decide +kernel
theorem dX0_valueOf_5 : decode cX0_valueOf 5 = .ok (.if_icmp .gt 8, 3) := by decide +kernel
theorem dX0_valueOf_8 : decode cX0_valueOf 8 = .ok (.aload_n 0, 1) := by decide +kernel
theorem dX0_valueOf_9 : decode cX0_valueOf 9 = .ok (.getfield 24, 3) := by decide +kernel
theorem dX0_valueOf_12 : decode cX0_valueOf 12 = .ok (.ireturn, 1) := by decide +kernel
theorem dX0_valueOf_13 : decode cX0_valueOf 13 = .ok (.iload_n 1, 1) := by decide +kernel
theorem dX0_valueOf_14 : decode cX0_valueOf 14 = .ok (.aload_n 0, 1) := by decide +kernel
theorem dX0_valueOf_15 : decode cX0_valueOf 15 = .ok (.getfield 21, 3) := by decide +kernel
theorem dX0_valueOf_18 : decode cX0_valueOf 18 = .ok (.if_icmp .le 5, 3) := by decide +kernel
theorem dX0_valueOf_21 : decode cX0_valueOf 21 = .ok (.iconst 0, 1) := by decide +kernel
theorem dX0_valueOf_22 : decode cX0_valueOf 22 = .ok (.ireturn, 1) := by decide +kernel
theorem dX0_valueOf_23 : decode cX0_valueOf 23 = .ok (.aload_n 0, 1) := by decide +kernel
theorem dX0_valueOf_24 : decode cX0_valueOf 24 = .ok (.getfield 24, 3) := by decide +kernel
theorem dX0_valueOf_27 : decode cX0_valueOf 27 = .ok (.aload_n 0, 1) := by decide +kernel
theorem dX0_valueOf_28 : decode cX0_valueOf 28 = .ok (.getfield 21, 3) := by decide +kernel
theorem dX0_valueOf_31 : decode cX0_valueOf 31 = .ok (.iload_n 1, 1) := by decide +kernel
theorem dX0_valueOf_32 : decode cX0_valueOf 32 = .ok (.isub, 1) := by decide +kernel
theorem dX0_valueOf_33 : decode cX0_valueOf 33 = .ok (.imul, 1) := by decide +kernel
theorem dX0_valueOf_34 : decode cX0_valueOf 34 = .ok (.aload_n 0, 1) := by decide +kernel
theorem dX0_valueOf_35 : decode cX0_valueOf 35 = .ok (.getfield 21, 3) := by decide +kernel
theorem dX0_valueOf_38 : decode cX0_valueOf 38 = .ok (.aload_n 0, 1) := by decide +kernel
theorem dX0_valueOf_39 : decode cX0_valueOf 39 = .ok (.getfield 17, 3) := by decide +kernel
theorem dX0_valueOf_42 : decode cX0_valueOf 42 = .ok (.isub, 1) := by decide +kernel
theorem dX0_valueOf_43 : decode cX0_valueOf 43 = .ok (.idiv, 1) := by decide +kernel
theorem dX0_valueOf_44 : decode cX0_valueOf 44 = .ok (.ireturn, 1) := by decide +kernel
theorem dX0_worthOf_0 : decode cX0_worthOf 0 = .ok (.aload_n 0, 1) := by decide +kernel
theorem dX0_worthOf_1 : decode cX0_worthOf 1 = .ok (.getfield 9, 3) := by decide +kernel
theorem dX0_worthOf_4 : decode cX0_worthOf 4 = .ok (.iconst 0, 1) := by decide +kernel
theorem dX0_worthOf_5 : decode cX0_worthOf 5 = .ok (.iload_n 1, 1) := by decide +kernel
theorem dX0_worthOf_6 : decode cX0_worthOf 6 = .ok (.sipush 1001, 3) := by decide +kernel
theorem dX0_worthOf_9 : decode cX0_worthOf 9 = .ok (.invokestatic 31, 3) := by decide +kernel
theorem dX0_worthOf_12 : decode cX0_worthOf 12 = .ok (.invokestatic 37, 3) := by decide +kernel
theorem dX0_worthOf_15 : decode cX0_worthOf 15 = .ok (.iaload, 1) := by decide +kernel
theorem dX0_worthOf_16 : decode cX0_worthOf 16 = .ok (.ireturn, 1) := by decide +kernel
theorem dX1_init_0 : decode cX1_init 0 = .ok (.aload_n 0, 1) := by decide +kernel
theorem dX1_init_1 : decode cX1_init 1 = .ok (.invokespecial 3, 3) := by decide +kernel
theorem dX1_init_4 : decode cX1_init 4 = .ok (.aload_n 0, 1) := by decide +kernel
theorem dX1_init_5 : decode cX1_init 5 = .ok (.bipush 12, 2) := by decide +kernel
theorem dX1_init_7 : decode cX1_init 7 = .ok (.newarray .int, 2) := by decide +kernel
theorem dX1_init_9 : decode cX1_init 9 = .ok (.putfield 11, 3) := by decide +kernel
theorem dX1_init_12 : decode cX1_init 12 = .ok (.aload_n 0, 1) := by decide +kernel
theorem dX1_init_13 : decode cX1_init 13 = .ok (.bipush 12, 2) := by decide +kernel
theorem dX1_init_15 : decode cX1_init 15 = .ok (.newarray .int, 2) := by decide +kernel
theorem dX1_init_17 : decode cX1_init 17 = .ok (.putfield 15, 3) := by decide +kernel
theorem dX1_init_20 : decode cX1_init 20 = .ok (.aload_n 0, 1) := by decide +kernel
theorem dX1_init_21 : decode cX1_init 21 = .ok (.bipush 12, 2) := by decide +kernel
theorem dX1_init_23 : decode cX1_init 23 = .ok (.newarray .int, 2) := by decide +kernel
theorem dX1_init_25 : decode cX1_init 25 = .ok (.putfield 18, 3) := by decide +kernel
theorem dX1_init_28 : decode cX1_init 28 = .ok (.aload_n 0, 1) := by decide +kernel
theorem dX1_init_29 : decode cX1_init 29 = .ok (.bipush 12, 2) := by decide +kernel
theorem dX1_init_31 : decode cX1_init 31 = .ok (.newarray .int, 2) := by decide +kernel
theorem dX1_init_33 : decode cX1_init 33 = .ok (.putfield 21, 3) := by decide +kernel
theorem dX1_init_36 : decode cX1_init 36 = .ok (.aload_n 0, 1) := by decide +kernel
theorem dX1_init_37 : decode cX1_init 37 = .ok (.bipush 12, 2) := by decide +kernel
theorem dX1_init_39 : decode cX1_init 39 = .ok (.newarray .int, 2) := by decide +kernel
theorem dX1_init_41 : decode cX1_init 41 = .ok (.putfield 24, 3) := by decide +kernel
theorem dX1_init_44 : decode cX1_init 44 = .ok (.aload_n 0, 1) := by decide +kernel
theorem dX1_init_45 : decode cX1_init 45 = .ok (.bipush 12, 2) := by decide +kernel
theorem dX1_init_47 : decode cX1_init 47 = .ok (.newarray .boolean, 2) := by decide +kernel
theorem dX1_init_49 : decode cX1_init 49 = .ok (.putfield 27, 3) := by decide +kernel
theorem dX1_init_52 : decode cX1_init 52 = .ok (.aload_n 0, 1) := by decide +kernel
theorem dX1_init_53 : decode cX1_init 53 = .ok (.iconst 0, 1) := by decide +kernel
theorem dX1_init_54 : decode cX1_init 54 = .ok (.putfield 31, 3) := by decide +kernel
theorem dX1_init_57 : decode cX1_init 57 = .ok (.return_, 1) := by decide +kernel
theorem dX1_isFull_0 : decode cX1_isFull 0 = .ok (.aload_n 0, 1) := by decide +kernel
theorem dX1_isFull_1 : decode cX1_isFull 1 = .ok (.getfield 31, 3) := by decide +kernel
theorem dX1_isFull_4 : decode cX1_isFull 4 = .ok (.bipush 12, 2) := by decide +kernel
theorem dX1_isFull_6 : decode cX1_isFull 6 = .ok (.if_icmp .lt 7, 3) := by decide +kernel
theorem dX1_isFull_9 : decode cX1_isFull 9 = .ok (.iconst 1, 1) := by decide +kernel
theorem dX1_isFull_10 : decode cX1_isFull 10 = .ok (.goto 4, 3) := by decide +kernel
theorem dX1_isFull_13 : decode cX1_isFull 13 = .ok (.iconst 0, 1) := by decide +kernel
theorem dX1_isFull_14 : decode cX1_isFull 14 = .ok (.ireturn, 1) := by decide +kernel
theorem dX1_has_0 : decode cX1_has 0 = .ok (.iload_n 1, 1) := by decide +kernel
theorem dX1_has_1 : decode cX1_has 1 = .ok (.ifCond .lt 15, 3) := by decide +kernel
theorem dX1_has_4 : decode cX1_has 4 = .ok (.iload_n 1, 1) := by decide +kernel
theorem dX1_has_5 : decode cX1_has 5 = .ok (.aload_n 0, 1) := by decide +kernel
theorem dX1_has_6 : decode cX1_has 6 = .ok (.getfield 31, 3) := by decide +kernel
theorem dX1_has_9 : decode cX1_has 9 = .ok (.if_icmp .ge 7, 3) := by decide +kernel
theorem dX1_has_12 : decode cX1_has 12 = .ok (.iconst 1, 1) := by decide +kernel
theorem dX1_has_13 : decode cX1_has 13 = .ok (.goto 4, 3) := by decide +kernel
theorem dX1_has_16 : decode cX1_has 16 = .ok (.iconst 0, 1) := by decide +kernel
theorem dX1_has_17 : decode cX1_has 17 = .ok (.ireturn, 1) := by decide +kernel
theorem dX1_clear_0 : decode cX1_clear 0 = .ok (.aload_n 0, 1) := by decide +kernel
theorem dX1_clear_1 : decode cX1_clear 1 = .ok (.iconst 0, 1) := by decide +kernel
theorem dX1_clear_2 : decode cX1_clear 2 = .ok (.putfield 31, 3) := by decide +kernel
theorem dX1_clear_5 : decode cX1_clear 5 = .ok (.return_, 1) := by decide +kernel
theorem dX1_add_0 : decode cX1_add 0 = .ok (.aload_n 0, 1) := by decide +kernel
theorem dX1_add_1 : decode cX1_add 1 = .ok (.getfield 31, 3) := by decide +kernel
theorem dX1_add_4 : decode cX1_add 4 = .ok (.istore 5, 2) := by decide +kernel
theorem dX1_add_6 : decode cX1_add 6 = .ok (.iload 5, 2) := by decide +kernel
theorem dX1_add_8 : decode cX1_add 8 = .ok (.istore 6, 2) := by decide +kernel
theorem dX1_add_10 : decode cX1_add 10 = .ok (.iload 6, 2) := by decide +kernel
theorem dX1_add_12 : decode cX1_add 12 = .ok (.ifCond .le 43, 3) := by decide +kernel
theorem dX1_add_15 : decode cX1_add 15 = .ok (.aload_n 0, 1) := by decide +kernel
theorem dX1_add_16 : decode cX1_add 16 = .ok (.getfield 24, 3) := by decide +kernel
theorem dX1_add_19 : decode cX1_add 19 = .ok (.aload_n 0, 1) := by decide +kernel
theorem dX1_add_20 : decode cX1_add 20 = .ok (.getfield 21, 3) := by decide +kernel
theorem dX1_add_23 : decode cX1_add 23 = .ok (.iload 6, 2) := by decide +kernel
theorem dX1_add_25 : decode cX1_add 25 = .ok (.iconst 1, 1) := by decide +kernel
theorem dX1_add_26 : decode cX1_add 26 = .ok (.isub, 1) := by decide +kernel
theorem dX1_add_27 : decode cX1_add 27 = .ok (.iaload, 1) := by decide +kernel
theorem dX1_add_28 : decode cX1_add 28 = .ok (.iaload, 1) := by decide +kernel
theorem dX1_add_29 : decode cX1_add 29 = .ok (.iload_n 3, 1) := by decide +kernel
theorem dX1_add_30 : decode cX1_add 30 = .ok (.if_icmp .le 25, 3) := by decide +kernel
theorem dX1_add_33 : decode cX1_add 33 = .ok (.aload_n 0, 1) := by decide +kernel
theorem dX1_add_34 : decode cX1_add 34 = .ok (.getfield 21, 3) := by decide +kernel
theorem dX1_add_37 : decode cX1_add 37 = .ok (.iload 6, 2) := by decide +kernel
theorem dX1_add_39 : decode cX1_add 39 = .ok (.aload_n 0, 1) := by decide +kernel
theorem dX1_add_40 : decode cX1_add 40 = .ok (.getfield 21, 3) := by decide +kernel
theorem dX1_add_43 : decode cX1_add 43 = .ok (.iload 6, 2) := by decide +kernel
theorem dX1_add_45 : decode cX1_add 45 = .ok (.iconst 1, 1) := by decide +kernel
theorem dX1_add_46 : decode cX1_add 46 = .ok (.isub, 1) := by decide +kernel
theorem dX1_add_47 : decode cX1_add 47 = .ok (.iaload, 1) := by decide +kernel
theorem dX1_add_48 : decode cX1_add 48 = .ok (.iastore, 1) := by decide +kernel
theorem dX1_add_49 : decode cX1_add 49 = .ok (.iinc 6 (-1), 3) := by decide +kernel
theorem dX1_add_52 : decode cX1_add 52 = .ok (.goto (-42), 3) := by decide +kernel
theorem dX1_add_55 : decode cX1_add 55 = .ok (.aload_n 0, 1) := by decide +kernel
theorem dX1_add_56 : decode cX1_add 56 = .ok (.getfield 21, 3) := by decide +kernel
theorem dX1_add_59 : decode cX1_add 59 = .ok (.iload 6, 2) := by decide +kernel
theorem dX1_add_61 : decode cX1_add 61 = .ok (.iload 5, 2) := by decide +kernel
theorem dX1_add_63 : decode cX1_add 63 = .ok (.iastore, 1) := by decide +kernel
theorem dX1_add_64 : decode cX1_add 64 = .ok (.aload_n 0, 1) := by decide +kernel
theorem dX1_add_65 : decode cX1_add 65 = .ok (.getfield 11, 3) := by decide +kernel
theorem dX1_add_68 : decode cX1_add 68 = .ok (.iload 5, 2) := by decide +kernel
theorem dX1_add_70 : decode cX1_add 70 = .ok (.iload_n 1, 1) := by decide +kernel
theorem dX1_add_71 : decode cX1_add 71 = .ok (.iastore, 1) := by decide +kernel
theorem dX1_add_72 : decode cX1_add 72 = .ok (.aload_n 0, 1) := by decide +kernel
theorem dX1_add_73 : decode cX1_add 73 = .ok (.getfield 15, 3) := by decide +kernel
theorem dX1_add_76 : decode cX1_add 76 = .ok (.iload 5, 2) := by decide +kernel
theorem dX1_add_78 : decode cX1_add 78 = .ok (.iload_n 2, 1) := by decide +kernel
theorem dX1_add_79 : decode cX1_add 79 = .ok (.iastore, 1) := by decide +kernel
theorem dX1_add_80 : decode cX1_add 80 = .ok (.aload_n 0, 1) := by decide +kernel
theorem dX1_add_81 : decode cX1_add 81 = .ok (.getfield 24, 3) := by decide +kernel
theorem dX1_add_84 : decode cX1_add 84 = .ok (.iload 5, 2) := by decide +kernel
theorem dX1_add_86 : decode cX1_add 86 = .ok (.iload_n 3, 1) := by decide +kernel
theorem dX1_add_87 : decode cX1_add 87 = .ok (.iastore, 1) := by decide +kernel
theorem dX1_add_88 : decode cX1_add 88 = .ok (.aload_n 0, 1) := by decide +kernel
theorem dX1_add_89 : decode cX1_add 89 = .ok (.getfield 18, 3) := by decide +kernel
theorem dX1_add_92 : decode cX1_add 92 = .ok (.iload 5, 2) := by decide +kernel
theorem dX1_add_94 : decode cX1_add 94 = .ok (.iload 4, 2) := by decide +kernel
theorem dX1_add_96 : decode cX1_add 96 = .ok (.iastore, 1) := by decide +kernel
theorem dX1_add_97 : decode cX1_add 97 = .ok (.aload_n 0, 1) := by decide +kernel
theorem dX1_add_98 : decode cX1_add 98 = .ok (.dup, 1) := by decide +kernel
theorem dX1_add_99 : decode cX1_add 99 = .ok (.getfield 31, 3) := by decide +kernel
theorem dX1_add_102 : decode cX1_add 102 = .ok (.iconst 1, 1) := by decide +kernel
theorem dX1_add_103 : decode cX1_add 103 = .ok (.iadd, 1) := by decide +kernel
theorem dX1_add_104 : decode cX1_add 104 = .ok (.putfield 31, 3) := by decide +kernel
theorem dX1_add_107 : decode cX1_add 107 = .ok (.iload 5, 2) := by decide +kernel
theorem dX1_add_109 : decode cX1_add 109 = .ok (.ireturn, 1) := by decide +kernel
theorem dX1_amountUpTo_0 : decode cX1_amountUpTo 0 = .ok (.iconst 0, 1) := by decide +kernel
theorem dX1_amountUpTo_1 : decode cX1_amountUpTo 1 = .ok (.istore_n 2, 1) := by decide +kernel
theorem dX1_amountUpTo_2 : decode cX1_amountUpTo 2 = .ok (.iconst 0, 1) := by decide +kernel
theorem dX1_amountUpTo_3 : decode cX1_amountUpTo 3 = .ok (.istore_n 3, 1) := by decide +kernel
theorem dX1_amountUpTo_4 : decode cX1_amountUpTo 4 = .ok (.iload_n 3, 1) := by decide +kernel
theorem dX1_amountUpTo_5 : decode cX1_amountUpTo 5 = .ok (.aload_n 0, 1) := by decide +kernel
theorem dX1_amountUpTo_6 : decode cX1_amountUpTo 6 = .ok (.getfield 31, 3) := by decide +kernel
theorem dX1_amountUpTo_9 : decode cX1_amountUpTo 9 = .ok (.if_icmp .ge 28, 3) := by decide +kernel
theorem dX1_amountUpTo_12 : decode cX1_amountUpTo 12 = .ok (.aload_n 0, 1) := by decide +kernel
theorem dX1_amountUpTo_13 : decode cX1_amountUpTo 13 = .ok (.getfield 24, 3) := by decide +kernel
theorem dX1_amountUpTo_16 : decode cX1_amountUpTo 16 = .ok (.iload_n 3, 1) := by decide +kernel
theorem dX1_amountUpTo_17 : decode cX1_amountUpTo 17 = .ok (.iaload, 1) := by decide +kernel
theorem dX1_amountUpTo_18 : decode cX1_amountUpTo 18 = .ok (.iload_n 1, 1) := by decide +kernel
theorem dX1_amountUpTo_19 : decode cX1_amountUpTo 19 = .ok (.if_icmp .gt 12, 3) := by decide +kernel
theorem dX1_amountUpTo_22 : decode cX1_amountUpTo 22 = .ok (.iload_n 2, 1) := by decide +kernel
theorem dX1_amountUpTo_23 : decode cX1_amountUpTo 23 = .ok (.aload_n 0, 1) := by decide +kernel
theorem dX1_amountUpTo_24 : decode cX1_amountUpTo 24 = .ok (.getfield 15, 3) := by decide +kernel
theorem dX1_amountUpTo_27 : decode cX1_amountUpTo 27 = .ok (.iload_n 3, 1) := by decide +kernel
theorem dX1_amountUpTo_28 : decode cX1_amountUpTo 28 = .ok (.iaload, 1) := by decide +kernel
theorem dX1_amountUpTo_29 : decode cX1_amountUpTo 29 = .ok (.iadd, 1) := by decide +kernel
theorem dX1_amountUpTo_30 : decode cX1_amountUpTo 30 = .ok (.istore_n 2, 1) := by decide +kernel
theorem dX1_amountUpTo_31 : decode cX1_amountUpTo 31 = .ok (.iinc 3 1, 3) := by decide +kernel
theorem dX1_amountUpTo_34 : decode cX1_amountUpTo 34 = .ok (.goto (-30), 3) := by decide +kernel
theorem dX1_amountUpTo_37 : decode cX1_amountUpTo 37 = .ok (.iload_n 2, 1) := by decide +kernel
theorem dX1_amountUpTo_38 : decode cX1_amountUpTo 38 = .ok (.ireturn, 1) := by decide +kernel
set_option maxRecDepth 20000 in
theorem ggX1_bestFirst_X0_worthOf : GoodIn wsX1_bestFirst wsX0_worthOf := goodIn_r _ [9, 10, 11, 12, 13, 14, 15, 16, 17, 25, 26, 27, 28] (by decide +kernel) (by decide +kernel)
set_option maxRecDepth 20000 in
theorem gX1_bestFirst_X0_worthOf : GoodIn wsX1_bestFirst (wsV RX1 35 RX0 yX0_worthOf wsX0_worthOf) := goodIn_app (goodIn_of _ (by decide +kernel)) ggX1_bestFirst_X0_worthOf
theorem dX1_bestFirst_0 : decode cX1_bestFirst 0 = .ok (.iload_n 2, 1) := by decide +kernel
theorem dX1_bestFirst_1 : decode cX1_bestFirst 1 = .ok (.istore_n 3, 1) := by decide +kernel
theorem dX1_bestFirst_2 : decode cX1_bestFirst 2 = .ok (.iconst 0, 1) := by decide +kernel
theorem dX1_bestFirst_3 : decode cX1_bestFirst 3 = .ok (.istore 4, 2) := by decide +kernel
theorem dX1_bestFirst_5 : decode cX1_bestFirst 5 = .ok (.aload_n 1, 1) := by decide +kernel
theorem dX1_bestFirst_6 : decode cX1_bestFirst 6 = .ok (.iload_n 3, 1) := by decide +kernel
theorem dX1_bestFirst_7 : decode cX1_bestFirst 7 = .ok (.invokevirtual 35, 3) := by decide +kernel
theorem dX1_bestFirst_10 : decode cX1_bestFirst 10 = .ok (.istore 5, 2) := by decide +kernel
theorem dX1_bestFirst_12 : decode cX1_bestFirst 12 = .ok (.iconst 0, 1) := by decide +kernel
theorem dX1_bestFirst_13 : decode cX1_bestFirst 13 = .ok (.istore 6, 2) := by decide +kernel
theorem dX1_bestFirst_15 : decode cX1_bestFirst 15 = .ok (.iconst 0, 1) := by decide +kernel
theorem dX1_bestFirst_16 : decode cX1_bestFirst 16 = .ok (.istore 7, 2) := by decide +kernel
theorem dX1_bestFirst_18 : decode cX1_bestFirst 18 = .ok (.iload 7, 2) := by decide +kernel
theorem dX1_bestFirst_20 : decode cX1_bestFirst 20 = .ok (.aload_n 0, 1) := by decide +kernel
theorem dX1_bestFirst_21 : decode cX1_bestFirst 21 = .ok (.getfield 31, 3) := by decide +kernel
theorem dX1_bestFirst_24 : decode cX1_bestFirst 24 = .ok (.if_icmp .ge 75, 3) := by decide +kernel
theorem dX1_bestFirst_27 : decode cX1_bestFirst 27 = .ok (.aload_n 0, 1) := by decide +kernel
theorem dX1_bestFirst_28 : decode cX1_bestFirst 28 = .ok (.getfield 21, 3) := by decide +kernel
theorem dX1_bestFirst_31 : decode cX1_bestFirst 31 = .ok (.iload 7, 2) := by decide +kernel
theorem dX1_bestFirst_33 : decode cX1_bestFirst 33 = .ok (.iaload, 1) := by decide +kernel
theorem dX1_bestFirst_34 : decode cX1_bestFirst 34 = .ok (.istore 8, 2) := by decide +kernel
theorem dX1_bestFirst_36 : decode cX1_bestFirst 36 = .ok (.iload_n 3, 1) := by decide +kernel
theorem dX1_bestFirst_37 : decode cX1_bestFirst 37 = .ok (.aload_n 0, 1) := by decide +kernel
theorem dX1_bestFirst_38 : decode cX1_bestFirst 38 = .ok (.getfield 15, 3) := by decide +kernel
theorem dX1_bestFirst_41 : decode cX1_bestFirst 41 = .ok (.iload 8, 2) := by decide +kernel
theorem dX1_bestFirst_43 : decode cX1_bestFirst 43 = .ok (.iaload, 1) := by decide +kernel
theorem dX1_bestFirst_44 : decode cX1_bestFirst 44 = .ok (.iadd, 1) := by decide +kernel
theorem dX1_bestFirst_45 : decode cX1_bestFirst 45 = .ok (.istore_n 3, 1) := by decide +kernel
theorem dX1_bestFirst_46 : decode cX1_bestFirst 46 = .ok (.iload 4, 2) := by decide +kernel
theorem dX1_bestFirst_48 : decode cX1_bestFirst 48 = .ok (.aload_n 0, 1) := by decide +kernel
theorem dX1_bestFirst_49 : decode cX1_bestFirst 49 = .ok (.getfield 15, 3) := by decide +kernel
theorem dX1_bestFirst_52 : decode cX1_bestFirst 52 = .ok (.iload 8, 2) := by decide +kernel
theorem dX1_bestFirst_54 : decode cX1_bestFirst 54 = .ok (.iaload, 1) := by decide +kernel
theorem dX1_bestFirst_55 : decode cX1_bestFirst 55 = .ok (.aload_n 0, 1) := by decide +kernel
theorem dX1_bestFirst_56 : decode cX1_bestFirst 56 = .ok (.getfield 24, 3) := by decide +kernel
theorem dX1_bestFirst_59 : decode cX1_bestFirst 59 = .ok (.iload 8, 2) := by decide +kernel
theorem dX1_bestFirst_61 : decode cX1_bestFirst 61 = .ok (.iaload, 1) := by decide +kernel
theorem dX1_bestFirst_62 : decode cX1_bestFirst 62 = .ok (.imul, 1) := by decide +kernel
theorem dX1_bestFirst_63 : decode cX1_bestFirst 63 = .ok (.iadd, 1) := by decide +kernel
theorem dX1_bestFirst_64 : decode cX1_bestFirst 64 = .ok (.istore 4, 2) := by decide +kernel
theorem dX1_bestFirst_66 : decode cX1_bestFirst 66 = .ok (.aload_n 1, 1) := by decide +kernel
theorem dX1_bestFirst_67 : decode cX1_bestFirst 67 = .ok (.iload_n 3, 1) := by decide +kernel
theorem dX1_bestFirst_68 : decode cX1_bestFirst 68 = .ok (.invokevirtual 35, 3) := by decide +kernel
theorem dX1_bestFirst_71 : decode cX1_bestFirst 71 = .ok (.iload 4, 2) := by decide +kernel
theorem dX1_bestFirst_73 : decode cX1_bestFirst 73 = .ok (.isub, 1) := by decide +kernel
theorem dX1_bestFirst_74 : decode cX1_bestFirst 74 = .ok (.istore 9, 2) := by decide +kernel
theorem dX1_bestFirst_76 : decode cX1_bestFirst 76 = .ok (.iload 9, 2) := by decide +kernel
theorem dX1_bestFirst_78 : decode cX1_bestFirst 78 = .ok (.iload 5, 2) := by decide +kernel
theorem dX1_bestFirst_80 : decode cX1_bestFirst 80 = .ok (.if_icmp .le 13, 3) := by decide +kernel
theorem dX1_bestFirst_83 : decode cX1_bestFirst 83 = .ok (.iload 9, 2) := by decide +kernel
theorem dX1_bestFirst_85 : decode cX1_bestFirst 85 = .ok (.istore 5, 2) := by decide +kernel
theorem dX1_bestFirst_87 : decode cX1_bestFirst 87 = .ok (.iload 7, 2) := by decide +kernel
theorem dX1_bestFirst_89 : decode cX1_bestFirst 89 = .ok (.iconst 1, 1) := by decide +kernel
theorem dX1_bestFirst_90 : decode cX1_bestFirst 90 = .ok (.iadd, 1) := by decide +kernel
theorem dX1_bestFirst_91 : decode cX1_bestFirst 91 = .ok (.istore 6, 2) := by decide +kernel
theorem dX1_bestFirst_93 : decode cX1_bestFirst 93 = .ok (.iinc 7 1, 3) := by decide +kernel
theorem dX1_bestFirst_96 : decode cX1_bestFirst 96 = .ok (.goto (-78), 3) := by decide +kernel
theorem dX1_bestFirst_99 : decode cX1_bestFirst 99 = .ok (.iload 6, 2) := by decide +kernel
theorem dX1_bestFirst_101 : decode cX1_bestFirst 101 = .ok (.ireturn, 1) := by decide +kernel
theorem dX1_priceOfFirst_0 : decode cX1_priceOfFirst 0 = .ok (.iload_n 1, 1) := by decide +kernel
theorem dX1_priceOfFirst_1 : decode cX1_priceOfFirst 1 = .ok (.iconst 1, 1) := by decide +kernel
theorem dX1_priceOfFirst_2 : decode cX1_priceOfFirst 2 = .ok (.if_icmp .lt 11, 3) := by decide +kernel
theorem dX1_priceOfFirst_5 : decode cX1_priceOfFirst 5 = .ok (.iload_n 1, 1) := by decide +kernel
theorem dX1_priceOfFirst_6 : decode cX1_priceOfFirst 6 = .ok (.aload_n 0, 1) := by decide +kernel
theorem dX1_priceOfFirst_7 : decode cX1_priceOfFirst 7 = .ok (.getfield 31, 3) := by decide +kernel
theorem dX1_priceOfFirst_10 : decode cX1_priceOfFirst 10 = .ok (.if_icmp .le 7, 3) := by decide +kernel
theorem dX1_priceOfFirst_13 : decode cX1_priceOfFirst 13 = .ok (.iconst 0, 1) := by decide +kernel
theorem dX1_priceOfFirst_14 : decode cX1_priceOfFirst 14 = .ok (.goto 16, 3) := by decide +kernel
theorem dX1_priceOfFirst_17 : decode cX1_priceOfFirst 17 = .ok (.aload_n 0, 1) := by decide +kernel
theorem dX1_priceOfFirst_18 : decode cX1_priceOfFirst 18 = .ok (.getfield 24, 3) := by decide +kernel
theorem dX1_priceOfFirst_21 : decode cX1_priceOfFirst 21 = .ok (.aload_n 0, 1) := by decide +kernel
theorem dX1_priceOfFirst_22 : decode cX1_priceOfFirst 22 = .ok (.getfield 21, 3) := by decide +kernel
theorem dX1_priceOfFirst_25 : decode cX1_priceOfFirst 25 = .ok (.iload_n 1, 1) := by decide +kernel
theorem dX1_priceOfFirst_26 : decode cX1_priceOfFirst 26 = .ok (.iconst 1, 1) := by decide +kernel
theorem dX1_priceOfFirst_27 : decode cX1_priceOfFirst 27 = .ok (.isub, 1) := by decide +kernel
theorem dX1_priceOfFirst_28 : decode cX1_priceOfFirst 28 = .ok (.iaload, 1) := by decide +kernel
theorem dX1_priceOfFirst_29 : decode cX1_priceOfFirst 29 = .ok (.iaload, 1) := by decide +kernel
theorem dX1_priceOfFirst_30 : decode cX1_priceOfFirst 30 = .ok (.ireturn, 1) := by decide +kernel
theorem dX1_isAmongFirst_0 : decode cX1_isAmongFirst 0 = .ok (.iconst 0, 1) := by decide +kernel
theorem dX1_isAmongFirst_1 : decode cX1_isAmongFirst 1 = .ok (.istore_n 3, 1) := by decide +kernel
theorem dX1_isAmongFirst_2 : decode cX1_isAmongFirst 2 = .ok (.iload_n 3, 1) := by decide +kernel
theorem dX1_isAmongFirst_3 : decode cX1_isAmongFirst 3 = .ok (.iload_n 2, 1) := by decide +kernel
theorem dX1_isAmongFirst_4 : decode cX1_isAmongFirst 4 = .ok (.if_icmp .ge 29, 3) := by decide +kernel
theorem dX1_isAmongFirst_7 : decode cX1_isAmongFirst 7 = .ok (.iload_n 3, 1) := by decide +kernel
theorem dX1_isAmongFirst_8 : decode cX1_isAmongFirst 8 = .ok (.aload_n 0, 1) := by decide +kernel
theorem dX1_isAmongFirst_9 : decode cX1_isAmongFirst 9 = .ok (.getfield 31, 3) := by decide +kernel
theorem dX1_isAmongFirst_12 : decode cX1_isAmongFirst 12 = .ok (.if_icmp .ge 21, 3) := by decide +kernel
theorem dX1_isAmongFirst_15 : decode cX1_isAmongFirst 15 = .ok (.aload_n 0, 1) := by decide +kernel
theorem dX1_isAmongFirst_16 : decode cX1_isAmongFirst 16 = .ok (.getfield 21, 3) := by decide +kernel
theorem dX1_isAmongFirst_19 : decode cX1_isAmongFirst 19 = .ok (.iload_n 3, 1) := by decide +kernel
theorem dX1_isAmongFirst_20 : decode cX1_isAmongFirst 20 = .ok (.iaload, 1) := by decide +kernel
theorem dX1_isAmongFirst_21 : decode cX1_isAmongFirst 21 = .ok (.iload_n 1, 1) := by decide +kernel
theorem dX1_isAmongFirst_22 : decode cX1_isAmongFirst 22 = .ok (.if_icmp .ne 5, 3) := by decide +kernel
theorem dX1_isAmongFirst_25 : decode cX1_isAmongFirst 25 = .ok (.iconst 1, 1) := by decide +kernel
theorem dX1_isAmongFirst_26 : decode cX1_isAmongFirst 26 = .ok (.ireturn, 1) := by decide +kernel
theorem dX1_isAmongFirst_27 : decode cX1_isAmongFirst 27 = .ok (.iinc 3 1, 3) := by decide +kernel
theorem dX1_isAmongFirst_30 : decode cX1_isAmongFirst 30 = .ok (.goto (-28), 3) := by decide +kernel
theorem dX1_isAmongFirst_33 : decode cX1_isAmongFirst 33 = .ok (.iconst 0, 1) := by decide +kernel
theorem dX1_isAmongFirst_34 : decode cX1_isAmongFirst 34 = .ok (.ireturn, 1) := by decide +kernel
set_option maxRecDepth 20000 in
theorem ggX1_priceByClock_X0_worthOf : GoodIn wsX1_priceByClock wsX0_worthOf := goodIn_r _ [9, 10, 11, 12, 13, 14, 15, 16, 17, 34, 35, 36, 37] (by decide +kernel) (by decide +kernel)
set_option maxRecDepth 20000 in
theorem gX1_priceByClock_X0_worthOf : GoodIn wsX1_priceByClock (wsV RX1 35 RX0 yX0_worthOf wsX0_worthOf) := goodIn_app (goodIn_of _ (by decide +kernel)) ggX1_priceByClock_X0_worthOf
set_option maxRecDepth 20000 in
theorem ggX1_priceByClock_X1_dearestIn : GoodIn wsX1_priceByClock wsX1_dearestIn := goodIn_r _ [22, 1, 2, 4, 27, 28, 29, 30, 31, 32, 33] (by decide +kernel) (by decide +kernel)
set_option maxRecDepth 20000 in
theorem gX1_priceByClock_X1_dearestIn : GoodIn wsX1_priceByClock (wsV RX1 41 RX1 yX1_dearestIn wsX1_dearestIn) := goodIn_app (goodIn_of _ (by decide +kernel)) ggX1_priceByClock_X1_dearestIn
set_option maxRecDepth 20000 in
theorem ggX1_priceByClock_X1_exitOf : GoodIn wsX1_priceByClock wsX1_exitOf := goodIn_r _ [26, 4, 27, 28, 29, 30, 31, 32, 33] (by decide +kernel) (by decide +kernel)
set_option maxRecDepth 20000 in
theorem gX1_priceByClock_X1_exitOf : GoodIn wsX1_priceByClock (wsV RX1 45 RX1 yX1_exitOf wsX1_exitOf) := goodIn_app (goodIn_of _ (by decide +kernel)) ggX1_priceByClock_X1_exitOf
theorem dX1_priceByClock_0 : decode cX1_priceByClock 0 = .ok (.iload_n 2, 1) := by decide +kernel
theorem dX1_priceByClock_1 : decode cX1_priceByClock 1 = .ok (.istore_n 3, 1) := by decide +kernel
theorem dX1_priceByClock_2 : decode cX1_priceByClock 2 = .ok (.iconst 0, 1) := by decide +kernel
theorem dX1_priceByClock_3 : decode cX1_priceByClock 3 = .ok (.istore 4, 2) := by decide +kernel
theorem dX1_priceByClock_5 : decode cX1_priceByClock 5 = .ok (.iconst 0, 1) := by decide +kernel
theorem dX1_priceByClock_6 : decode cX1_priceByClock 6 = .ok (.istore 5, 2) := by decide +kernel
theorem dX1_priceByClock_8 : decode cX1_priceByClock 8 = .ok (.iload 5, 2) := by decide +kernel
theorem dX1_priceByClock_10 : decode cX1_priceByClock 10 = .ok (.aload_n 0, 1) := by decide +kernel
theorem dX1_priceByClock_11 : decode cX1_priceByClock 11 = .ok (.getfield 31, 3) := by decide +kernel
theorem dX1_priceByClock_14 : decode cX1_priceByClock 14 = .ok (.if_icmp .ge 47, 3) := by decide +kernel
theorem dX1_priceByClock_17 : decode cX1_priceByClock 17 = .ok (.aload_n 0, 1) := by decide +kernel
theorem dX1_priceByClock_18 : decode cX1_priceByClock 18 = .ok (.getfield 27, 3) := by decide +kernel
theorem dX1_priceByClock_21 : decode cX1_priceByClock 21 = .ok (.iload 5, 2) := by decide +kernel
theorem dX1_priceByClock_23 : decode cX1_priceByClock 23 = .ok (.iconst 1, 1) := by decide +kernel
theorem dX1_priceByClock_24 : decode cX1_priceByClock 24 = .ok (.bastore, 1) := by decide +kernel
theorem dX1_priceByClock_25 : decode cX1_priceByClock 25 = .ok (.iload_n 3, 1) := by decide +kernel
theorem dX1_priceByClock_26 : decode cX1_priceByClock 26 = .ok (.aload_n 0, 1) := by decide +kernel
theorem dX1_priceByClock_27 : decode cX1_priceByClock 27 = .ok (.getfield 15, 3) := by decide +kernel
theorem dX1_priceByClock_30 : decode cX1_priceByClock 30 = .ok (.iload 5, 2) := by decide +kernel
theorem dX1_priceByClock_32 : decode cX1_priceByClock 32 = .ok (.iaload, 1) := by decide +kernel
theorem dX1_priceByClock_33 : decode cX1_priceByClock 33 = .ok (.iadd, 1) := by decide +kernel
theorem dX1_priceByClock_34 : decode cX1_priceByClock 34 = .ok (.istore_n 3, 1) := by decide +kernel
theorem dX1_priceByClock_35 : decode cX1_priceByClock 35 = .ok (.iload 4, 2) := by decide +kernel
theorem dX1_priceByClock_37 : decode cX1_priceByClock 37 = .ok (.aload_n 0, 1) := by decide +kernel
theorem dX1_priceByClock_38 : decode cX1_priceByClock 38 = .ok (.getfield 15, 3) := by decide +kernel
theorem dX1_priceByClock_41 : decode cX1_priceByClock 41 = .ok (.iload 5, 2) := by decide +kernel
theorem dX1_priceByClock_43 : decode cX1_priceByClock 43 = .ok (.iaload, 1) := by decide +kernel
theorem dX1_priceByClock_44 : decode cX1_priceByClock 44 = .ok (.aload_n 0, 1) := by decide +kernel
theorem dX1_priceByClock_45 : decode cX1_priceByClock 45 = .ok (.getfield 24, 3) := by decide +kernel
theorem dX1_priceByClock_48 : decode cX1_priceByClock 48 = .ok (.iload 5, 2) := by decide +kernel
theorem dX1_priceByClock_50 : decode cX1_priceByClock 50 = .ok (.iaload, 1) := by decide +kernel
theorem dX1_priceByClock_51 : decode cX1_priceByClock 51 = .ok (.imul, 1) := by decide +kernel
theorem dX1_priceByClock_52 : decode cX1_priceByClock 52 = .ok (.iadd, 1) := by decide +kernel
theorem dX1_priceByClock_53 : decode cX1_priceByClock 53 = .ok (.istore 4, 2) := by decide +kernel
theorem dX1_priceByClock_55 : decode cX1_priceByClock 55 = .ok (.iinc 5 1, 3) := by decide +kernel
theorem dX1_priceByClock_58 : decode cX1_priceByClock 58 = .ok (.goto (-50), 3) := by decide +kernel
theorem dX1_priceByClock_61 : decode cX1_priceByClock 61 = .ok (.aload_n 1, 1) := by decide +kernel
theorem dX1_priceByClock_62 : decode cX1_priceByClock 62 = .ok (.iload_n 3, 1) := by decide +kernel
theorem dX1_priceByClock_63 : decode cX1_priceByClock 63 = .ok (.invokevirtual 35, 3) := by decide +kernel
theorem dX1_priceByClock_66 : decode cX1_priceByClock 66 = .ok (.iload 4, 2) := by decide +kernel
theorem dX1_priceByClock_68 : decode cX1_priceByClock 68 = .ok (.isub, 1) := by decide +kernel
theorem dX1_priceByClock_69 : decode cX1_priceByClock 69 = .ok (.istore 5, 2) := by decide +kernel
theorem dX1_priceByClock_71 : decode cX1_priceByClock 71 = .ok (.aload_n 0, 1) := by decide +kernel
theorem dX1_priceByClock_72 : decode cX1_priceByClock 72 = .ok (.invokevirtual 41, 3) := by decide +kernel
theorem dX1_priceByClock_75 : decode cX1_priceByClock 75 = .ok (.istore 6, 2) := by decide +kernel
theorem dX1_priceByClock_77 : decode cX1_priceByClock 77 = .ok (.aload_n 0, 1) := by decide +kernel
theorem dX1_priceByClock_78 : decode cX1_priceByClock 78 = .ok (.iload 6, 2) := by decide +kernel
theorem dX1_priceByClock_80 : decode cX1_priceByClock 80 = .ok (.invokevirtual 45, 3) := by decide +kernel
theorem dX1_priceByClock_83 : decode cX1_priceByClock 83 = .ok (.istore 7, 2) := by decide +kernel
theorem dX1_priceByClock_85 : decode cX1_priceByClock 85 = .ok (.aload_n 0, 1) := by decide +kernel
theorem dX1_priceByClock_86 : decode cX1_priceByClock 86 = .ok (.getfield 31, 3) := by decide +kernel
theorem dX1_priceByClock_89 : decode cX1_priceByClock 89 = .ok (.istore 8, 2) := by decide +kernel
theorem dX1_priceByClock_91 : decode cX1_priceByClock 91 = .ok (.iload 8, 2) := by decide +kernel
theorem dX1_priceByClock_93 : decode cX1_priceByClock 93 = .ok (.ifCond .le 88, 3) := by decide +kernel
theorem dX1_priceByClock_96 : decode cX1_priceByClock 96 = .ok (.iload 6, 2) := by decide +kernel
theorem dX1_priceByClock_98 : decode cX1_priceByClock 98 = .ok (.iconst (-1), 1) := by decide +kernel
theorem dX1_priceByClock_99 : decode cX1_priceByClock 99 = .ok (.if_icmp .eq 82, 3) := by decide +kernel
theorem dX1_priceByClock_102 : decode cX1_priceByClock 102 = .ok (.aload_n 0, 1) := by decide +kernel
theorem dX1_priceByClock_103 : decode cX1_priceByClock 103 = .ok (.getfield 27, 3) := by decide +kernel
theorem dX1_priceByClock_106 : decode cX1_priceByClock 106 = .ok (.iload 6, 2) := by decide +kernel
theorem dX1_priceByClock_108 : decode cX1_priceByClock 108 = .ok (.iconst 0, 1) := by decide +kernel
theorem dX1_priceByClock_109 : decode cX1_priceByClock 109 = .ok (.bastore, 1) := by decide +kernel
theorem dX1_priceByClock_110 : decode cX1_priceByClock 110 = .ok (.iload_n 3, 1) := by decide +kernel
theorem dX1_priceByClock_111 : decode cX1_priceByClock 111 = .ok (.aload_n 0, 1) := by decide +kernel
theorem dX1_priceByClock_112 : decode cX1_priceByClock 112 = .ok (.getfield 15, 3) := by decide +kernel
theorem dX1_priceByClock_115 : decode cX1_priceByClock 115 = .ok (.iload 6, 2) := by decide +kernel
theorem dX1_priceByClock_117 : decode cX1_priceByClock 117 = .ok (.iaload, 1) := by decide +kernel
theorem dX1_priceByClock_118 : decode cX1_priceByClock 118 = .ok (.isub, 1) := by decide +kernel
theorem dX1_priceByClock_119 : decode cX1_priceByClock 119 = .ok (.istore_n 3, 1) := by decide +kernel
theorem dX1_priceByClock_120 : decode cX1_priceByClock 120 = .ok (.iload 4, 2) := by decide +kernel
theorem dX1_priceByClock_122 : decode cX1_priceByClock 122 = .ok (.aload_n 0, 1) := by decide +kernel
theorem dX1_priceByClock_123 : decode cX1_priceByClock 123 = .ok (.getfield 15, 3) := by decide +kernel
theorem dX1_priceByClock_126 : decode cX1_priceByClock 126 = .ok (.iload 6, 2) := by decide +kernel
theorem dX1_priceByClock_128 : decode cX1_priceByClock 128 = .ok (.iaload, 1) := by decide +kernel
theorem dX1_priceByClock_129 : decode cX1_priceByClock 129 = .ok (.aload_n 0, 1) := by decide +kernel
theorem dX1_priceByClock_130 : decode cX1_priceByClock 130 = .ok (.getfield 24, 3) := by decide +kernel
theorem dX1_priceByClock_133 : decode cX1_priceByClock 133 = .ok (.iload 6, 2) := by decide +kernel
theorem dX1_priceByClock_135 : decode cX1_priceByClock 135 = .ok (.iaload, 1) := by decide +kernel
theorem dX1_priceByClock_136 : decode cX1_priceByClock 136 = .ok (.imul, 1) := by decide +kernel
theorem dX1_priceByClock_137 : decode cX1_priceByClock 137 = .ok (.isub, 1) := by decide +kernel
theorem dX1_priceByClock_138 : decode cX1_priceByClock 138 = .ok (.istore 4, 2) := by decide +kernel
theorem dX1_priceByClock_140 : decode cX1_priceByClock 140 = .ok (.aload_n 0, 1) := by decide +kernel
theorem dX1_priceByClock_141 : decode cX1_priceByClock 141 = .ok (.invokevirtual 41, 3) := by decide +kernel
theorem dX1_priceByClock_144 : decode cX1_priceByClock 144 = .ok (.istore 6, 2) := by decide +kernel
theorem dX1_priceByClock_146 : decode cX1_priceByClock 146 = .ok (.aload_n 1, 1) := by decide +kernel
theorem dX1_priceByClock_147 : decode cX1_priceByClock 147 = .ok (.iload_n 3, 1) := by decide +kernel
theorem dX1_priceByClock_148 : decode cX1_priceByClock 148 = .ok (.invokevirtual 35, 3) := by decide +kernel
theorem dX1_priceByClock_151 : decode cX1_priceByClock 151 = .ok (.iload 4, 2) := by decide +kernel
theorem dX1_priceByClock_153 : decode cX1_priceByClock 153 = .ok (.isub, 1) := by decide +kernel
theorem dX1_priceByClock_154 : decode cX1_priceByClock 154 = .ok (.istore 9, 2) := by decide +kernel
theorem dX1_priceByClock_156 : decode cX1_priceByClock 156 = .ok (.iload 9, 2) := by decide +kernel
theorem dX1_priceByClock_158 : decode cX1_priceByClock 158 = .ok (.iload 5, 2) := by decide +kernel
theorem dX1_priceByClock_160 : decode cX1_priceByClock 160 = .ok (.if_icmp .lt 15, 3) := by decide +kernel
theorem dX1_priceByClock_163 : decode cX1_priceByClock 163 = .ok (.iload 9, 2) := by decide +kernel
theorem dX1_priceByClock_165 : decode cX1_priceByClock 165 = .ok (.istore 5, 2) := by decide +kernel
theorem dX1_priceByClock_167 : decode cX1_priceByClock 167 = .ok (.aload_n 0, 1) := by decide +kernel
theorem dX1_priceByClock_168 : decode cX1_priceByClock 168 = .ok (.iload 6, 2) := by decide +kernel
theorem dX1_priceByClock_170 : decode cX1_priceByClock 170 = .ok (.invokevirtual 45, 3) := by decide +kernel
theorem dX1_priceByClock_173 : decode cX1_priceByClock 173 = .ok (.istore 7, 2) := by decide +kernel
theorem dX1_priceByClock_175 : decode cX1_priceByClock 175 = .ok (.iinc 8 (-1), 3) := by decide +kernel
theorem dX1_priceByClock_178 : decode cX1_priceByClock 178 = .ok (.goto (-87), 3) := by decide +kernel
theorem dX1_priceByClock_181 : decode cX1_priceByClock 181 = .ok (.iload 7, 2) := by decide +kernel
theorem dX1_priceByClock_183 : decode cX1_priceByClock 183 = .ok (.ireturn, 1) := by decide +kernel
theorem dX1_dearestIn_0 : decode cX1_dearestIn 0 = .ok (.iconst (-1), 1) := by decide +kernel
theorem dX1_dearestIn_1 : decode cX1_dearestIn 1 = .ok (.istore_n 1, 1) := by decide +kernel
theorem dX1_dearestIn_2 : decode cX1_dearestIn 2 = .ok (.iconst 0, 1) := by decide +kernel
theorem dX1_dearestIn_3 : decode cX1_dearestIn 3 = .ok (.istore_n 2, 1) := by decide +kernel
theorem dX1_dearestIn_4 : decode cX1_dearestIn 4 = .ok (.iload_n 2, 1) := by decide +kernel
theorem dX1_dearestIn_5 : decode cX1_dearestIn 5 = .ok (.aload_n 0, 1) := by decide +kernel
theorem dX1_dearestIn_6 : decode cX1_dearestIn 6 = .ok (.getfield 31, 3) := by decide +kernel
theorem dX1_dearestIn_9 : decode cX1_dearestIn 9 = .ok (.if_icmp .ge 40, 3) := by decide +kernel
theorem dX1_dearestIn_12 : decode cX1_dearestIn 12 = .ok (.aload_n 0, 1) := by decide +kernel
theorem dX1_dearestIn_13 : decode cX1_dearestIn 13 = .ok (.getfield 27, 3) := by decide +kernel
theorem dX1_dearestIn_16 : decode cX1_dearestIn 16 = .ok (.iload_n 2, 1) := by decide +kernel
theorem dX1_dearestIn_17 : decode cX1_dearestIn 17 = .ok (.baload, 1) := by decide +kernel
theorem dX1_dearestIn_18 : decode cX1_dearestIn 18 = .ok (.ifCond .eq 25, 3) := by decide +kernel
theorem dX1_dearestIn_21 : decode cX1_dearestIn 21 = .ok (.iload_n 1, 1) := by decide +kernel
theorem dX1_dearestIn_22 : decode cX1_dearestIn 22 = .ok (.iconst (-1), 1) := by decide +kernel
theorem dX1_dearestIn_23 : decode cX1_dearestIn 23 = .ok (.if_icmp .eq 18, 3) := by decide +kernel
theorem dX1_dearestIn_26 : decode cX1_dearestIn 26 = .ok (.aload_n 0, 1) := by decide +kernel
theorem dX1_dearestIn_27 : decode cX1_dearestIn 27 = .ok (.getfield 24, 3) := by decide +kernel
theorem dX1_dearestIn_30 : decode cX1_dearestIn 30 = .ok (.iload_n 2, 1) := by decide +kernel
theorem dX1_dearestIn_31 : decode cX1_dearestIn 31 = .ok (.iaload, 1) := by decide +kernel
theorem dX1_dearestIn_32 : decode cX1_dearestIn 32 = .ok (.aload_n 0, 1) := by decide +kernel
theorem dX1_dearestIn_33 : decode cX1_dearestIn 33 = .ok (.getfield 24, 3) := by decide +kernel
theorem dX1_dearestIn_36 : decode cX1_dearestIn 36 = .ok (.iload_n 1, 1) := by decide +kernel
theorem dX1_dearestIn_37 : decode cX1_dearestIn 37 = .ok (.iaload, 1) := by decide +kernel
theorem dX1_dearestIn_38 : decode cX1_dearestIn 38 = .ok (.if_icmp .lt 5, 3) := by decide +kernel
theorem dX1_dearestIn_41 : decode cX1_dearestIn 41 = .ok (.iload_n 2, 1) := by decide +kernel
theorem dX1_dearestIn_42 : decode cX1_dearestIn 42 = .ok (.istore_n 1, 1) := by decide +kernel
theorem dX1_dearestIn_43 : decode cX1_dearestIn 43 = .ok (.iinc 2 1, 3) := by decide +kernel
theorem dX1_dearestIn_46 : decode cX1_dearestIn 46 = .ok (.goto (-42), 3) := by decide +kernel
theorem dX1_dearestIn_49 : decode cX1_dearestIn 49 = .ok (.iload_n 1, 1) := by decide +kernel
theorem dX1_dearestIn_50 : decode cX1_dearestIn 50 = .ok (.ireturn, 1) := by decide +kernel
theorem dX1_exitOf_0 : decode cX1_exitOf 0 = .ok (.iload_n 1, 1) := by decide +kernel
theorem dX1_exitOf_1 : decode cX1_exitOf 1 = .ok (.iconst (-1), 1) := by decide +kernel
theorem dX1_exitOf_2 : decode cX1_exitOf 2 = .ok (.if_icmp .ne 7, 3) := by decide +kernel
theorem dX1_exitOf_5 : decode cX1_exitOf 5 = .ok (.iconst 0, 1) := by decide +kernel
theorem dX1_exitOf_6 : decode cX1_exitOf 6 = .ok (.goto 9, 3) := by decide +kernel
theorem dX1_exitOf_9 : decode cX1_exitOf 9 = .ok (.aload_n 0, 1) := by decide +kernel
theorem dX1_exitOf_10 : decode cX1_exitOf 10 = .ok (.getfield 24, 3) := by decide +kernel
theorem dX1_exitOf_13 : decode cX1_exitOf 13 = .ok (.iload_n 1, 1) := by decide +kernel
theorem dX1_exitOf_14 : decode cX1_exitOf 14 = .ok (.iaload, 1) := by decide +kernel
theorem dX1_exitOf_15 : decode cX1_exitOf 15 = .ok (.ireturn, 1) := by decide +kernel
end
section
set_option maxRecDepth 20000 in
theorem ggX2_init_X0_init : GoodIn wsX2_init wsX0_init := goodIn_r _ [24, 25, 2, 3, 12, 26, 27, 28, 29, 6, 30, 31, 32, 33, 34, 35, 36, 37, 49, 50, 51, 52] (by decide +kernel) (by decide +kernel)
set_option maxRecDepth 20000 in
theorem gX2_init_X0_init : GoodIn wsX2_init (wsX0_init) := ggX2_init_X0_init
set_option maxRecDepth 20000 in
theorem ggX2_init_X1_init : GoodIn wsX2_init wsX1_init := goodIn_r _ [40, 41, 2, 3, 12, 42, 43, 44, 45, 46, 17, 47, 48, 63, 64, 65, 66, 67, 68, 69] (by decide +kernel) (by decide +kernel)
set_option maxRecDepth 20000 in
theorem gX2_init_X1_init : GoodIn wsX2_init (wsX1_init) := ggX2_init_X1_init
theorem dX2_init_0 : decode cX2_init 0 = .ok (.aload_n 0, 1) := by decide +kernel
theorem dX2_init_1 : decode cX2_init 1 = .ok (.invokespecial 1, 3) := by decide +kernel
theorem dX2_init_4 : decode cX2_init 4 = .ok (.aload_n 0, 1) := by decide +kernel
theorem dX2_init_5 : decode cX2_init 5 = .ok (.new 7, 3) := by decide +kernel
theorem dX2_init_8 : decode cX2_init 8 = .ok (.dup, 1) := by decide +kernel
theorem dX2_init_9 : decode cX2_init 9 = .ok (.invokespecial 9, 3) := by decide +kernel
theorem dX2_init_12 : decode cX2_init 12 = .ok (.putfield 10, 3) := by decide +kernel
theorem dX2_init_15 : decode cX2_init 15 = .ok (.aload_n 0, 1) := by decide +kernel
theorem dX2_init_16 : decode cX2_init 16 = .ok (.new 16, 3) := by decide +kernel
theorem dX2_init_19 : decode cX2_init 19 = .ok (.dup, 1) := by decide +kernel
theorem dX2_init_20 : decode cX2_init 20 = .ok (.invokespecial 18, 3) := by decide +kernel
theorem dX2_init_23 : decode cX2_init 23 = .ok (.putfield 19, 3) := by decide +kernel
theorem dX2_init_26 : decode cX2_init 26 = .ok (.aload_n 0, 1) := by decide +kernel
theorem dX2_init_27 : decode cX2_init 27 = .ok (.bipush 8, 2) := by decide +kernel
theorem dX2_init_29 : decode cX2_init 29 = .ok (.newarray .int, 2) := by decide +kernel
theorem dX2_init_31 : decode cX2_init 31 = .ok (.putfield 23, 3) := by decide +kernel
theorem dX2_init_34 : decode cX2_init 34 = .ok (.aload_n 0, 1) := by decide +kernel
theorem dX2_init_35 : decode cX2_init 35 = .ok (.bipush 40, 2) := by decide +kernel
theorem dX2_init_37 : decode cX2_init 37 = .ok (.newarray .int, 2) := by decide +kernel
theorem dX2_init_39 : decode cX2_init 39 = .ok (.putfield 27, 3) := by decide +kernel
theorem dX2_init_42 : decode cX2_init 42 = .ok (.aload_n 0, 1) := by decide +kernel
theorem dX2_init_43 : decode cX2_init 43 = .ok (.sipush 480, 3) := by decide +kernel
theorem dX2_init_46 : decode cX2_init 46 = .ok (.newarray .int, 2) := by decide +kernel
theorem dX2_init_48 : decode cX2_init 48 = .ok (.putfield 30, 3) := by decide +kernel
theorem dX2_init_51 : decode cX2_init 51 = .ok (.aload_n 0, 1) := by decide +kernel
theorem dX2_init_52 : decode cX2_init 52 = .ok (.sipush 480, 3) := by decide +kernel
theorem dX2_init_55 : decode cX2_init 55 = .ok (.newarray .int, 2) := by decide +kernel
theorem dX2_init_57 : decode cX2_init 57 = .ok (.putfield 33, 3) := by decide +kernel
theorem dX2_init_60 : decode cX2_init 60 = .ok (.aload_n 0, 1) := by decide +kernel
theorem dX2_init_61 : decode cX2_init 61 = .ok (.bipush 96, 2) := by decide +kernel
theorem dX2_init_63 : decode cX2_init 63 = .ok (.newarray .boolean, 2) := by decide +kernel
theorem dX2_init_65 : decode cX2_init 65 = .ok (.putfield 36, 3) := by decide +kernel
theorem dX2_init_68 : decode cX2_init 68 = .ok (.aload_n 0, 1) := by decide +kernel
theorem dX2_init_69 : decode cX2_init 69 = .ok (.iconst 0, 1) := by decide +kernel
theorem dX2_init_70 : decode cX2_init 70 = .ok (.putfield 40, 3) := by decide +kernel
theorem dX2_init_73 : decode cX2_init 73 = .ok (.aload_n 0, 1) := by decide +kernel
theorem dX2_init_74 : decode cX2_init 74 = .ok (.bipush 20, 2) := by decide +kernel
theorem dX2_init_76 : decode cX2_init 76 = .ok (.putfield 44, 3) := by decide +kernel
theorem dX2_init_79 : decode cX2_init 79 = .ok (.aload_n 0, 1) := by decide +kernel
theorem dX2_init_80 : decode cX2_init 80 = .ok (.bipush 50, 2) := by decide +kernel
theorem dX2_init_82 : decode cX2_init 82 = .ok (.putfield 47, 3) := by decide +kernel
theorem dX2_init_85 : decode cX2_init 85 = .ok (.return_, 1) := by decide +kernel
set_option maxRecDepth 20000 in
theorem ggX2_setDemand_X2_isWithin : GoodIn wsX2_setDemand wsX2_isWithin := goodIn_r _ [7] (by decide +kernel) (by decide +kernel)
set_option maxRecDepth 20000 in
theorem gX2_setDemand_X2_isWithin : GoodIn wsX2_setDemand (va_wsS RX2 50 yX2_isWithin wsX2_isWithin) := goodIn_app (goodIn_of _ (by decide +kernel)) ggX2_setDemand_X2_isWithin
set_option maxRecDepth 20000 in
theorem ggX2_setDemand_X0_change : GoodIn wsX2_setDemand wsX0_change := goodIn_r _ [12, 13, 14, 15, 16, 17, 18, 19, 11, 20, 31, 32, 33, 34] (by decide +kernel) (by decide +kernel)
set_option maxRecDepth 20000 in
theorem gX2_setDemand_X0_change : GoodIn wsX2_setDemand (wsV RX2 61 RX0 yX0_change wsX0_change) := goodIn_app (goodIn_of _ (by decide +kernel)) ggX2_setDemand_X0_change
theorem dX2_setDemand_0 : decode cX2_setDemand 0 = .ok (.iload_n 1, 1) := by decide +kernel
theorem dX2_setDemand_1 : decode cX2_setDemand 1 = .ok (.iconst 0, 1) := by decide +kernel
theorem dX2_setDemand_2 : decode cX2_setDemand 2 = .ok (.sipush 1000, 3) := by decide +kernel
theorem dX2_setDemand_5 : decode cX2_setDemand 5 = .ok (.invokestatic 50, 3) := by decide +kernel
theorem dX2_setDemand_8 : decode cX2_setDemand 8 = .ok (.ifCond .eq 27, 3) := by decide +kernel
theorem dX2_setDemand_11 : decode cX2_setDemand 11 = .ok (.iload_n 2, 1) := by decide +kernel
theorem dX2_setDemand_12 : decode cX2_setDemand 12 = .ok (.iload_n 1, 1) := by decide +kernel
theorem dX2_setDemand_13 : decode cX2_setDemand 13 = .ok (.iconst 1, 1) := by decide +kernel
theorem dX2_setDemand_14 : decode cX2_setDemand 14 = .ok (.iadd, 1) := by decide +kernel
theorem dX2_setDemand_15 : decode cX2_setDemand 15 = .ok (.sipush 1001, 3) := by decide +kernel
theorem dX2_setDemand_18 : decode cX2_setDemand 18 = .ok (.invokestatic 50, 3) := by decide +kernel
theorem dX2_setDemand_21 : decode cX2_setDemand 21 = .ok (.ifCond .eq 14, 3) := by decide +kernel
theorem dX2_setDemand_24 : decode cX2_setDemand 24 = .ok (.iload_n 3, 1) := by decide +kernel
theorem dX2_setDemand_25 : decode cX2_setDemand 25 = .ok (.iconst 1, 1) := by decide +kernel
theorem dX2_setDemand_26 : decode cX2_setDemand 26 = .ok (.sipush 1000, 3) := by decide +kernel
theorem dX2_setDemand_29 : decode cX2_setDemand 29 = .ok (.invokestatic 50, 3) := by decide +kernel
theorem dX2_setDemand_32 : decode cX2_setDemand 32 = .ok (.ifCond .ne 13, 3) := by decide +kernel
theorem dX2_setDemand_35 : decode cX2_setDemand 35 = .ok (.new 54, 3) := by decide +kernel
theorem dX2_setDemand_38 : decode cX2_setDemand 38 = .ok (.dup, 1) := by decide +kernel
theorem dX2_setDemand_39 : decode cX2_setDemand 39 = .ok (.ldc 56, 2) := by decide +kernel
theorem dX2_setDemand_41 : decode cX2_setDemand 41 = .ok (.invokespecial 58, 3) := by decide +kernel
theorem dX2_setDemand_44 : decode cX2_setDemand 44 = .ok (.athrow, 1) := by decide +kernel
theorem dX2_setDemand_45 : decode cX2_setDemand 45 = .ok (.aload_n 0, 1) := by decide +kernel
theorem dX2_setDemand_46 : decode cX2_setDemand 46 = .ok (.getfield 10, 3) := by decide +kernel
theorem dX2_setDemand_49 : decode cX2_setDemand 49 = .ok (.iload_n 1, 1) := by decide +kernel
theorem dX2_setDemand_50 : decode cX2_setDemand 50 = .ok (.iload_n 2, 1) := by decide +kernel
theorem dX2_setDemand_51 : decode cX2_setDemand 51 = .ok (.iload_n 3, 1) := by decide +kernel
theorem dX2_setDemand_52 : decode cX2_setDemand 52 = .ok (.invokevirtual 61, 3) := by decide +kernel
theorem dX2_setDemand_55 : decode cX2_setDemand 55 = .ok (.return_, 1) := by decide +kernel
set_option maxRecDepth 20000 in
theorem ggX2_value_X2_isWithin : GoodIn wsX2_value wsX2_isWithin := goodIn_r _ [7] (by decide +kernel) (by decide +kernel)
set_option maxRecDepth 20000 in
theorem gX2_value_X2_isWithin : GoodIn wsX2_value (va_wsS RX2 50 yX2_isWithin wsX2_isWithin) := goodIn_app (goodIn_of _ (by decide +kernel)) ggX2_value_X2_isWithin
set_option maxRecDepth 20000 in
theorem ggX2_value_X0_valueOf : GoodIn wsX2_value wsX0_valueOf := goodIn_r _ [12, 13, 14, 15, 26, 27, 28, 29] (by decide +kernel) (by decide +kernel)
set_option maxRecDepth 20000 in
theorem gX2_value_X0_valueOf : GoodIn wsX2_value (wsV RX2 67 RX0 yX0_valueOf wsX0_valueOf) := goodIn_app (goodIn_of _ (by decide +kernel)) ggX2_value_X0_valueOf
theorem dX2_value_0 : decode cX2_value 0 = .ok (.iload_n 1, 1) := by decide +kernel
theorem dX2_value_1 : decode cX2_value 1 = .ok (.iconst 1, 1) := by decide +kernel
theorem dX2_value_2 : decode cX2_value 2 = .ok (.sipush 10000, 3) := by decide +kernel
theorem dX2_value_5 : decode cX2_value 5 = .ok (.invokestatic 50, 3) := by decide +kernel
theorem dX2_value_8 : decode cX2_value 8 = .ok (.ifCond .ne 13, 3) := by decide +kernel
theorem dX2_value_11 : decode cX2_value 11 = .ok (.new 54, 3) := by decide +kernel
theorem dX2_value_14 : decode cX2_value 14 = .ok (.dup, 1) := by decide +kernel
theorem dX2_value_15 : decode cX2_value 15 = .ok (.ldc 65, 2) := by decide +kernel
theorem dX2_value_17 : decode cX2_value 17 = .ok (.invokespecial 58, 3) := by decide +kernel
theorem dX2_value_20 : decode cX2_value 20 = .ok (.athrow, 1) := by decide +kernel
theorem dX2_value_21 : decode cX2_value 21 = .ok (.aload_n 0, 1) := by decide +kernel
theorem dX2_value_22 : decode cX2_value 22 = .ok (.getfield 10, 3) := by decide +kernel
theorem dX2_value_25 : decode cX2_value 25 = .ok (.iload_n 1, 1) := by decide +kernel
theorem dX2_value_26 : decode cX2_value 26 = .ok (.invokevirtual 67, 3) := by decide +kernel
theorem dX2_value_29 : decode cX2_value 29 = .ok (.ireturn, 1) := by decide +kernel
set_option maxRecDepth 20000 in
theorem ggX2_worth_X2_isWithin : GoodIn wsX2_worth wsX2_isWithin := goodIn_r _ [7] (by decide +kernel) (by decide +kernel)
set_option maxRecDepth 20000 in
theorem gX2_worth_X2_isWithin : GoodIn wsX2_worth (va_wsS RX2 50 yX2_isWithin wsX2_isWithin) := goodIn_app (goodIn_of _ (by decide +kernel)) ggX2_worth_X2_isWithin
set_option maxRecDepth 20000 in
theorem ggX2_worth_X0_worthOf : GoodIn wsX2_worth wsX0_worthOf := goodIn_r _ [12, 13, 14, 15, 16, 17, 18, 19, 20, 31, 32, 33, 34] (by decide +kernel) (by decide +kernel)
set_option maxRecDepth 20000 in
theorem gX2_worth_X0_worthOf : GoodIn wsX2_worth (wsV RX2 73 RX0 yX0_worthOf wsX0_worthOf) := goodIn_app (goodIn_of _ (by decide +kernel)) ggX2_worth_X0_worthOf
theorem dX2_worth_0 : decode cX2_worth 0 = .ok (.iload_n 1, 1) := by decide +kernel
theorem dX2_worth_1 : decode cX2_worth 1 = .ok (.iconst 0, 1) := by decide +kernel
theorem dX2_worth_2 : decode cX2_worth 2 = .ok (.sipush 10000, 3) := by decide +kernel
theorem dX2_worth_5 : decode cX2_worth 5 = .ok (.invokestatic 50, 3) := by decide +kernel
theorem dX2_worth_8 : decode cX2_worth 8 = .ok (.ifCond .ne 13, 3) := by decide +kernel
theorem dX2_worth_11 : decode cX2_worth 11 = .ok (.new 54, 3) := by decide +kernel
theorem dX2_worth_14 : decode cX2_worth 14 = .ok (.dup, 1) := by decide +kernel
theorem dX2_worth_15 : decode cX2_worth 15 = .ok (.ldc 71, 2) := by decide +kernel
theorem dX2_worth_17 : decode cX2_worth 17 = .ok (.invokespecial 58, 3) := by decide +kernel
theorem dX2_worth_20 : decode cX2_worth 20 = .ok (.athrow, 1) := by decide +kernel
theorem dX2_worth_21 : decode cX2_worth 21 = .ok (.aload_n 0, 1) := by decide +kernel
theorem dX2_worth_22 : decode cX2_worth 22 = .ok (.getfield 10, 3) := by decide +kernel
theorem dX2_worth_25 : decode cX2_worth 25 = .ok (.iload_n 1, 1) := by decide +kernel
theorem dX2_worth_26 : decode cX2_worth 26 = .ok (.invokevirtual 73, 3) := by decide +kernel
theorem dX2_worth_29 : decode cX2_worth 29 = .ok (.ireturn, 1) := by decide +kernel
set_option maxRecDepth 20000 in
theorem ggX2_offer_X2_isParty : GoodIn wsX2_offer wsX2_isParty := goodIn_r _ [11, 12, 13, 10, 14] (by decide +kernel) (by decide +kernel)
set_option maxRecDepth 20000 in
theorem gX2_offer_X2_isParty : GoodIn wsX2_offer (va_wsS RX2 76 yX2_isParty wsX2_isParty) := goodIn_app (goodIn_of _ (by decide +kernel)) ggX2_offer_X2_isParty
set_option maxRecDepth 20000 in
theorem ggX2_offer_X2_isWithin : GoodIn wsX2_offer wsX2_isWithin := goodIn_r _ [14] (by decide +kernel) (by decide +kernel)
set_option maxRecDepth 20000 in
theorem gX2_offer_X2_isWithin : GoodIn wsX2_offer (va_wsS RX2 50 yX2_isWithin wsX2_isWithin) := goodIn_app (goodIn_of _ (by decide +kernel)) ggX2_offer_X2_isWithin
set_option maxRecDepth 20000 in
theorem ggX2_offer_X1_isFull : GoodIn wsX2_offer wsX1_isFull := goodIn_r _ [19, 20, 40, 41, 42, 43, 44, 45, 46] (by decide +kernel) (by decide +kernel)
set_option maxRecDepth 20000 in
theorem gX2_offer_X1_isFull : GoodIn wsX2_offer (wsV RX2 87 RX1 yX1_isFull wsX1_isFull) := goodIn_app (goodIn_of _ (by decide +kernel)) ggX2_offer_X1_isFull
set_option maxRecDepth 20000 in
theorem ggX2_offer_X1_add : GoodIn wsX2_offer wsX1_add := goodIn_r _ [24, 20, 25, 26, 27, 28, 29, 40, 41, 42, 43, 44, 45, 46] (by decide +kernel) (by decide +kernel)
set_option maxRecDepth 20000 in
theorem gX2_offer_X1_add : GoodIn wsX2_offer (wsV RX2 96 RX1 yX1_add wsX1_add) := goodIn_app (goodIn_of _ (by decide +kernel)) ggX2_offer_X1_add
theorem dX2_offer_0 : decode cX2_offer 0 = .ok (.iload_n 1, 1) := by decide +kernel
theorem dX2_offer_1 : decode cX2_offer 1 = .ok (.invokestatic 76, 3) := by decide +kernel
theorem dX2_offer_4 : decode cX2_offer 4 = .ok (.ifCond .ne 13, 3) := by decide +kernel
theorem dX2_offer_7 : decode cX2_offer 7 = .ok (.new 80, 3) := by decide +kernel
theorem dX2_offer_10 : decode cX2_offer 10 = .ok (.dup, 1) := by decide +kernel
theorem dX2_offer_11 : decode cX2_offer 11 = .ok (.ldc 82, 2) := by decide +kernel
theorem dX2_offer_13 : decode cX2_offer 13 = .ok (.invokespecial 84, 3) := by decide +kernel
theorem dX2_offer_16 : decode cX2_offer 16 = .ok (.athrow, 1) := by decide +kernel
theorem dX2_offer_17 : decode cX2_offer 17 = .ok (.iload_n 2, 1) := by decide +kernel
theorem dX2_offer_18 : decode cX2_offer 18 = .ok (.iconst 1, 1) := by decide +kernel
theorem dX2_offer_19 : decode cX2_offer 19 = .ok (.sipush 300, 3) := by decide +kernel
theorem dX2_offer_22 : decode cX2_offer 22 = .ok (.invokestatic 50, 3) := by decide +kernel
theorem dX2_offer_25 : decode cX2_offer 25 = .ok (.ifCond .eq 35, 3) := by decide +kernel
theorem dX2_offer_28 : decode cX2_offer 28 = .ok (.iload_n 3, 1) := by decide +kernel
theorem dX2_offer_29 : decode cX2_offer 29 = .ok (.iconst 0, 1) := by decide +kernel
theorem dX2_offer_30 : decode cX2_offer 30 = .ok (.bipush 100, 2) := by decide +kernel
theorem dX2_offer_32 : decode cX2_offer 32 = .ok (.invokestatic 50, 3) := by decide +kernel
theorem dX2_offer_35 : decode cX2_offer 35 = .ok (.ifCond .eq 25, 3) := by decide +kernel
theorem dX2_offer_38 : decode cX2_offer 38 = .ok (.iload 4, 2) := by decide +kernel
theorem dX2_offer_40 : decode cX2_offer 40 = .ok (.iconst 0, 1) := by decide +kernel
theorem dX2_offer_41 : decode cX2_offer 41 = .ok (.sipush 1000, 3) := by decide +kernel
theorem dX2_offer_44 : decode cX2_offer 44 = .ok (.invokestatic 50, 3) := by decide +kernel
theorem dX2_offer_47 : decode cX2_offer 47 = .ok (.ifCond .eq 13, 3) := by decide +kernel
theorem dX2_offer_50 : decode cX2_offer 50 = .ok (.iload 5, 2) := by decide +kernel
theorem dX2_offer_52 : decode cX2_offer 52 = .ok (.iconst 1, 1) := by decide +kernel
theorem dX2_offer_53 : decode cX2_offer 53 = .ok (.iconst 4, 1) := by decide +kernel
theorem dX2_offer_54 : decode cX2_offer 54 = .ok (.invokestatic 50, 3) := by decide +kernel
theorem dX2_offer_57 : decode cX2_offer 57 = .ok (.ifCond .ne 13, 3) := by decide +kernel
theorem dX2_offer_60 : decode cX2_offer 60 = .ok (.new 54, 3) := by decide +kernel
theorem dX2_offer_63 : decode cX2_offer 63 = .ok (.dup, 1) := by decide +kernel
theorem dX2_offer_64 : decode cX2_offer 64 = .ok (.ldc 85, 2) := by decide +kernel
theorem dX2_offer_66 : decode cX2_offer 66 = .ok (.invokespecial 58, 3) := by decide +kernel
theorem dX2_offer_69 : decode cX2_offer 69 = .ok (.athrow, 1) := by decide +kernel
theorem dX2_offer_70 : decode cX2_offer 70 = .ok (.aload_n 0, 1) := by decide +kernel
theorem dX2_offer_71 : decode cX2_offer 71 = .ok (.getfield 19, 3) := by decide +kernel
theorem dX2_offer_74 : decode cX2_offer 74 = .ok (.invokevirtual 87, 3) := by decide +kernel
theorem dX2_offer_77 : decode cX2_offer 77 = .ok (.ifCond .eq 13, 3) := by decide +kernel
theorem dX2_offer_80 : decode cX2_offer 80 = .ok (.new 91, 3) := by decide +kernel
theorem dX2_offer_83 : decode cX2_offer 83 = .ok (.dup, 1) := by decide +kernel
theorem dX2_offer_84 : decode cX2_offer 84 = .ok (.ldc 93, 2) := by decide +kernel
theorem dX2_offer_86 : decode cX2_offer 86 = .ok (.invokespecial 95, 3) := by decide +kernel
theorem dX2_offer_89 : decode cX2_offer 89 = .ok (.athrow, 1) := by decide +kernel
theorem dX2_offer_90 : decode cX2_offer 90 = .ok (.aload_n 0, 1) := by decide +kernel
theorem dX2_offer_91 : decode cX2_offer 91 = .ok (.getfield 19, 3) := by decide +kernel
theorem dX2_offer_94 : decode cX2_offer 94 = .ok (.iload_n 1, 1) := by decide +kernel
theorem dX2_offer_95 : decode cX2_offer 95 = .ok (.iload_n 2, 1) := by decide +kernel
theorem dX2_offer_96 : decode cX2_offer 96 = .ok (.iload_n 3, 1) := by decide +kernel
theorem dX2_offer_97 : decode cX2_offer 97 = .ok (.imul, 1) := by decide +kernel
theorem dX2_offer_98 : decode cX2_offer 98 = .ok (.bipush 100, 2) := by decide +kernel
theorem dX2_offer_100 : decode cX2_offer 100 = .ok (.idiv, 1) := by decide +kernel
theorem dX2_offer_101 : decode cX2_offer 101 = .ok (.iload 4, 2) := by decide +kernel
theorem dX2_offer_103 : decode cX2_offer 103 = .ok (.iload 5, 2) := by decide +kernel
theorem dX2_offer_105 : decode cX2_offer 105 = .ok (.invokevirtual 96, 3) := by decide +kernel
theorem dX2_offer_108 : decode cX2_offer 108 = .ok (.ireturn, 1) := by decide +kernel
theorem dX2_offers_0 : decode cX2_offers 0 = .ok (.aload_n 0, 1) := by decide +kernel
theorem dX2_offers_1 : decode cX2_offers 1 = .ok (.getfield 19, 3) := by decide +kernel
theorem dX2_offers_4 : decode cX2_offers 4 = .ok (.getfield 100, 3) := by decide +kernel
theorem dX2_offers_7 : decode cX2_offers 7 = .ok (.ireturn, 1) := by decide +kernel
set_option maxRecDepth 20000 in
theorem ggX2_supply_X2_isWithin : GoodIn wsX2_supply wsX2_isWithin := goodIn_r _ [7] (by decide +kernel) (by decide +kernel)
set_option maxRecDepth 20000 in
theorem gX2_supply_X2_isWithin : GoodIn wsX2_supply (va_wsS RX2 50 yX2_isWithin wsX2_isWithin) := goodIn_app (goodIn_of _ (by decide +kernel)) ggX2_supply_X2_isWithin
set_option maxRecDepth 20000 in
theorem ggX2_supply_X1_amountUpTo : GoodIn wsX2_supply wsX1_amountUpTo := goodIn_r _ [12, 13, 14, 15, 26, 27, 28, 29, 30, 31, 32] (by decide +kernel) (by decide +kernel)
set_option maxRecDepth 20000 in
theorem gX2_supply_X1_amountUpTo : GoodIn wsX2_supply (wsV RX2 105 RX1 yX1_amountUpTo wsX1_amountUpTo) := goodIn_app (goodIn_of _ (by decide +kernel)) ggX2_supply_X1_amountUpTo
theorem dX2_supply_0 : decode cX2_supply 0 = .ok (.iload_n 1, 1) := by decide +kernel
theorem dX2_supply_1 : decode cX2_supply 1 = .ok (.iconst 0, 1) := by decide +kernel
theorem dX2_supply_2 : decode cX2_supply 2 = .ok (.sipush 1000, 3) := by decide +kernel
theorem dX2_supply_5 : decode cX2_supply 5 = .ok (.invokestatic 50, 3) := by decide +kernel
theorem dX2_supply_8 : decode cX2_supply 8 = .ok (.ifCond .ne 13, 3) := by decide +kernel
theorem dX2_supply_11 : decode cX2_supply 11 = .ok (.new 54, 3) := by decide +kernel
theorem dX2_supply_14 : decode cX2_supply 14 = .ok (.dup, 1) := by decide +kernel
theorem dX2_supply_15 : decode cX2_supply 15 = .ok (.ldc 103, 2) := by decide +kernel
theorem dX2_supply_17 : decode cX2_supply 17 = .ok (.invokespecial 58, 3) := by decide +kernel
theorem dX2_supply_20 : decode cX2_supply 20 = .ok (.athrow, 1) := by decide +kernel
theorem dX2_supply_21 : decode cX2_supply 21 = .ok (.aload_n 0, 1) := by decide +kernel
theorem dX2_supply_22 : decode cX2_supply 22 = .ok (.getfield 19, 3) := by decide +kernel
theorem dX2_supply_25 : decode cX2_supply 25 = .ok (.iload_n 1, 1) := by decide +kernel
theorem dX2_supply_26 : decode cX2_supply 26 = .ok (.invokevirtual 105, 3) := by decide +kernel
theorem dX2_supply_29 : decode cX2_supply 29 = .ok (.ireturn, 1) := by decide +kernel
set_option maxRecDepth 20000 in
theorem ggX2_clearing_X2_isYear : GoodIn wsX2_clearing wsX2_isYear := goodIn_r _ [9, 10, 11, 8, 12] (by decide +kernel) (by decide +kernel)
set_option maxRecDepth 20000 in
theorem gX2_clearing_X2_isYear : GoodIn wsX2_clearing (va_wsS RX2 108 yX2_isYear wsX2_isYear) := goodIn_app (goodIn_of _ (by decide +kernel)) ggX2_clearing_X2_isYear
set_option maxRecDepth 20000 in
theorem ggX2_clearing_X1_bestFirst : GoodIn wsX2_clearing wsX1_bestFirst := goodIn_r _ [17, 18, 19, 20, 21, 22, 23, 24, 25, 26, 27, 28, 29, 30, 31, 32, 33, 34, 49, 50, 51, 52, 53, 54, 55, 56, 57, 58, 59] (by decide +kernel) (by decide +kernel)
set_option maxRecDepth 20000 in
theorem gX2_clearing_X1_bestFirst : GoodIn wsX2_clearing (wsV RX2 113 RX1 yX1_bestFirst wsX1_bestFirst) := goodIn_app (goodIn_of _ (by decide +kernel)) ggX2_clearing_X1_bestFirst
set_option maxRecDepth 20000 in
theorem ggX2_clearing_X1_priceOfFirst : GoodIn wsX2_clearing wsX1_priceOfFirst := goodIn_r _ [38, 18, 21, 19, 49, 50, 51, 52, 53, 54, 55] (by decide +kernel) (by decide +kernel)
set_option maxRecDepth 20000 in
theorem gX2_clearing_X1_priceOfFirst : GoodIn wsX2_clearing (wsV RX2 117 RX1 yX1_priceOfFirst wsX1_priceOfFirst) := goodIn_app (goodIn_of _ (by decide +kernel)) ggX2_clearing_X1_priceOfFirst
theorem dX2_clearing_0 : decode cX2_clearing 0 = .ok (.iload_n 1, 1) := by decide +kernel
theorem dX2_clearing_1 : decode cX2_clearing 1 = .ok (.invokestatic 108, 3) := by decide +kernel
theorem dX2_clearing_4 : decode cX2_clearing 4 = .ok (.ifCond .ne 13, 3) := by decide +kernel
theorem dX2_clearing_7 : decode cX2_clearing 7 = .ok (.new 80, 3) := by decide +kernel
theorem dX2_clearing_10 : decode cX2_clearing 10 = .ok (.dup, 1) := by decide +kernel
theorem dX2_clearing_11 : decode cX2_clearing 11 = .ok (.ldc 111, 2) := by decide +kernel
theorem dX2_clearing_13 : decode cX2_clearing 13 = .ok (.invokespecial 84, 3) := by decide +kernel
theorem dX2_clearing_16 : decode cX2_clearing 16 = .ok (.athrow, 1) := by decide +kernel
theorem dX2_clearing_17 : decode cX2_clearing 17 = .ok (.aload_n 0, 1) := by decide +kernel
theorem dX2_clearing_18 : decode cX2_clearing 18 = .ok (.getfield 19, 3) := by decide +kernel
theorem dX2_clearing_21 : decode cX2_clearing 21 = .ok (.aload_n 0, 1) := by decide +kernel
theorem dX2_clearing_22 : decode cX2_clearing 22 = .ok (.getfield 19, 3) := by decide +kernel
theorem dX2_clearing_25 : decode cX2_clearing 25 = .ok (.aload_n 0, 1) := by decide +kernel
theorem dX2_clearing_26 : decode cX2_clearing 26 = .ok (.getfield 10, 3) := by decide +kernel
theorem dX2_clearing_29 : decode cX2_clearing 29 = .ok (.aload_n 0, 1) := by decide +kernel
theorem dX2_clearing_30 : decode cX2_clearing 30 = .ok (.getfield 23, 3) := by decide +kernel
theorem dX2_clearing_33 : decode cX2_clearing 33 = .ok (.iload_n 1, 1) := by decide +kernel
theorem dX2_clearing_34 : decode cX2_clearing 34 = .ok (.iaload, 1) := by decide +kernel
theorem dX2_clearing_35 : decode cX2_clearing 35 = .ok (.invokevirtual 113, 3) := by decide +kernel
theorem dX2_clearing_38 : decode cX2_clearing 38 = .ok (.invokevirtual 117, 3) := by decide +kernel
theorem dX2_clearing_41 : decode cX2_clearing 41 = .ok (.ireturn, 1) := by decide +kernel
set_option maxRecDepth 20000 in
theorem ggX2_clearingByClock_X2_isYear : GoodIn wsX2_clearingByClock wsX2_isYear := goodIn_r _ [9, 10, 11, 8, 12] (by decide +kernel) (by decide +kernel)
set_option maxRecDepth 20000 in
theorem gX2_clearingByClock_X2_isYear : GoodIn wsX2_clearingByClock (va_wsS RX2 108 yX2_isYear wsX2_isYear) := goodIn_app (goodIn_of _ (by decide +kernel)) ggX2_clearingByClock_X2_isYear
set_option maxRecDepth 20000 in
theorem ggX2_clearingByClock_X1_priceByClock : GoodIn wsX2_clearingByClock wsX1_priceByClock := goodIn_r _ [17, 18, 19, 20, 21, 22, 23, 24, 25, 26, 27, 28, 29, 30, 31, 32, 33, 34, 35, 36, 37, 16, 38, 39, 40, 41, 42, 53, 54, 55, 56, 57, 58, 59, 60, 61, 62, 63] (by decide +kernel) (by decide +kernel)
set_option maxRecDepth 20000 in
theorem gX2_clearingByClock_X1_priceByClock : GoodIn wsX2_clearingByClock (wsV RX2 120 RX1 yX1_priceByClock wsX1_priceByClock) := goodIn_app (goodIn_of _ (by decide +kernel)) ggX2_clearingByClock_X1_priceByClock
theorem dX2_clearingByClock_0 : decode cX2_clearingByClock 0 = .ok (.iload_n 1, 1) := by decide +kernel
theorem dX2_clearingByClock_1 : decode cX2_clearingByClock 1 = .ok (.invokestatic 108, 3) := by decide +kernel
theorem dX2_clearingByClock_4 : decode cX2_clearingByClock 4 = .ok (.ifCond .ne 13, 3) := by decide +kernel
theorem dX2_clearingByClock_7 : decode cX2_clearingByClock 7 = .ok (.new 80, 3) := by decide +kernel
theorem dX2_clearingByClock_10 : decode cX2_clearingByClock 10 = .ok (.dup, 1) := by decide +kernel
theorem dX2_clearingByClock_11 : decode cX2_clearingByClock 11 = .ok (.ldc 111, 2) := by decide +kernel
theorem dX2_clearingByClock_13 : decode cX2_clearingByClock 13 = .ok (.invokespecial 84, 3) := by decide +kernel
theorem dX2_clearingByClock_16 : decode cX2_clearingByClock 16 = .ok (.athrow, 1) := by decide +kernel
theorem dX2_clearingByClock_17 : decode cX2_clearingByClock 17 = .ok (.aload_n 0, 1) := by decide +kernel
theorem dX2_clearingByClock_18 : decode cX2_clearingByClock 18 = .ok (.getfield 19, 3) := by decide +kernel
theorem dX2_clearingByClock_21 : decode cX2_clearingByClock 21 = .ok (.aload_n 0, 1) := by decide +kernel
theorem dX2_clearingByClock_22 : decode cX2_clearingByClock 22 = .ok (.getfield 10, 3) := by decide +kernel
theorem dX2_clearingByClock_25 : decode cX2_clearingByClock 25 = .ok (.aload_n 0, 1) := by decide +kernel
theorem dX2_clearingByClock_26 : decode cX2_clearingByClock 26 = .ok (.getfield 23, 3) := by decide +kernel
theorem dX2_clearingByClock_29 : decode cX2_clearingByClock 29 = .ok (.iload_n 1, 1) := by decide +kernel
theorem dX2_clearingByClock_30 : decode cX2_clearingByClock 30 = .ok (.iaload, 1) := by decide +kernel
theorem dX2_clearingByClock_31 : decode cX2_clearingByClock 31 = .ok (.invokevirtual 120, 3) := by decide +kernel
theorem dX2_clearingByClock_34 : decode cX2_clearingByClock 34 = .ok (.ireturn, 1) := by decide +kernel
set_option maxRecDepth 20000 in
theorem ggX2_wouldTake_X1_has : GoodIn wsX2_wouldTake wsX1_has := goodIn_r _ [10, 11, 53, 54, 55, 56, 57, 58, 59] (by decide +kernel) (by decide +kernel)
set_option maxRecDepth 20000 in
theorem gX2_wouldTake_X1_has : GoodIn wsX2_wouldTake (wsV RX2 123 RX1 yX1_has wsX1_has) := goodIn_app (goodIn_of _ (by decide +kernel)) ggX2_wouldTake_X1_has
set_option maxRecDepth 20000 in
theorem ggX2_wouldTake_X2_isYear : GoodIn wsX2_wouldTake wsX2_isYear := goodIn_r _ [15, 16, 17, 14, 18] (by decide +kernel) (by decide +kernel)
set_option maxRecDepth 20000 in
theorem gX2_wouldTake_X2_isYear : GoodIn wsX2_wouldTake (va_wsS RX2 108 yX2_isYear wsX2_isYear) := goodIn_app (goodIn_of _ (by decide +kernel)) ggX2_wouldTake_X2_isYear
set_option maxRecDepth 20000 in
theorem ggX2_wouldTake_X1_bestFirst : GoodIn wsX2_wouldTake wsX1_bestFirst := goodIn_r _ [22, 11, 23, 24, 25, 26, 27, 28, 29, 30, 31, 32, 33, 34, 35, 36, 37, 38, 53, 54, 55, 56, 57, 58, 59, 60, 61, 62, 63] (by decide +kernel) (by decide +kernel)
set_option maxRecDepth 20000 in
theorem gX2_wouldTake_X1_bestFirst : GoodIn wsX2_wouldTake (wsV RX2 113 RX1 yX1_bestFirst wsX1_bestFirst) := goodIn_app (goodIn_of _ (by decide +kernel)) ggX2_wouldTake_X1_bestFirst
set_option maxRecDepth 20000 in
theorem ggX2_wouldTake_X1_isAmongFirst : GoodIn wsX2_wouldTake wsX1_isAmongFirst := goodIn_r _ [42, 11, 23, 53, 54, 55, 56, 57, 58, 59] (by decide +kernel) (by decide +kernel)
set_option maxRecDepth 20000 in
theorem gX2_wouldTake_X1_isAmongFirst : GoodIn wsX2_wouldTake (wsV RX2 128 RX1 yX1_isAmongFirst wsX1_isAmongFirst) := goodIn_app (goodIn_of _ (by decide +kernel)) ggX2_wouldTake_X1_isAmongFirst
theorem dX2_wouldTake_0 : decode cX2_wouldTake 0 = .ok (.aload_n 0, 1) := by decide +kernel
theorem dX2_wouldTake_1 : decode cX2_wouldTake 1 = .ok (.getfield 19, 3) := by decide +kernel
theorem dX2_wouldTake_4 : decode cX2_wouldTake 4 = .ok (.iload_n 1, 1) := by decide +kernel
theorem dX2_wouldTake_5 : decode cX2_wouldTake 5 = .ok (.invokevirtual 123, 3) := by decide +kernel
theorem dX2_wouldTake_8 : decode cX2_wouldTake 8 = .ok (.ifCond .eq 10, 3) := by decide +kernel
theorem dX2_wouldTake_11 : decode cX2_wouldTake 11 = .ok (.iload_n 2, 1) := by decide +kernel
theorem dX2_wouldTake_12 : decode cX2_wouldTake 12 = .ok (.invokestatic 108, 3) := by decide +kernel
theorem dX2_wouldTake_15 : decode cX2_wouldTake 15 = .ok (.ifCond .ne 13, 3) := by decide +kernel
theorem dX2_wouldTake_18 : decode cX2_wouldTake 18 = .ok (.new 80, 3) := by decide +kernel
theorem dX2_wouldTake_21 : decode cX2_wouldTake 21 = .ok (.dup, 1) := by decide +kernel
theorem dX2_wouldTake_22 : decode cX2_wouldTake 22 = .ok (.ldc 126, 2) := by decide +kernel
theorem dX2_wouldTake_24 : decode cX2_wouldTake 24 = .ok (.invokespecial 84, 3) := by decide +kernel
theorem dX2_wouldTake_27 : decode cX2_wouldTake 27 = .ok (.athrow, 1) := by decide +kernel
theorem dX2_wouldTake_28 : decode cX2_wouldTake 28 = .ok (.aload_n 0, 1) := by decide +kernel
theorem dX2_wouldTake_29 : decode cX2_wouldTake 29 = .ok (.getfield 19, 3) := by decide +kernel
theorem dX2_wouldTake_32 : decode cX2_wouldTake 32 = .ok (.iload_n 1, 1) := by decide +kernel
theorem dX2_wouldTake_33 : decode cX2_wouldTake 33 = .ok (.aload_n 0, 1) := by decide +kernel
theorem dX2_wouldTake_34 : decode cX2_wouldTake 34 = .ok (.getfield 19, 3) := by decide +kernel
theorem dX2_wouldTake_37 : decode cX2_wouldTake 37 = .ok (.aload_n 0, 1) := by decide +kernel
theorem dX2_wouldTake_38 : decode cX2_wouldTake 38 = .ok (.getfield 10, 3) := by decide +kernel
theorem dX2_wouldTake_41 : decode cX2_wouldTake 41 = .ok (.aload_n 0, 1) := by decide +kernel
theorem dX2_wouldTake_42 : decode cX2_wouldTake 42 = .ok (.getfield 23, 3) := by decide +kernel
theorem dX2_wouldTake_45 : decode cX2_wouldTake 45 = .ok (.iload_n 2, 1) := by decide +kernel
theorem dX2_wouldTake_46 : decode cX2_wouldTake 46 = .ok (.iaload, 1) := by decide +kernel
theorem dX2_wouldTake_47 : decode cX2_wouldTake 47 = .ok (.invokevirtual 113, 3) := by decide +kernel
theorem dX2_wouldTake_50 : decode cX2_wouldTake 50 = .ok (.invokevirtual 128, 3) := by decide +kernel
theorem dX2_wouldTake_53 : decode cX2_wouldTake 53 = .ok (.ireturn, 1) := by decide +kernel
set_option maxRecDepth 20000 in
theorem ggX2_run_X2_isYear : GoodIn wsX2_run wsX2_isYear := goodIn_r _ [13, 14, 15, 12, 16] (by decide +kernel) (by decide +kernel)
set_option maxRecDepth 20000 in
theorem gX2_run_X2_isYear : GoodIn wsX2_run (va_wsS RX2 108 yX2_isYear wsX2_isYear) := goodIn_app (goodIn_of _ (by decide +kernel)) ggX2_run_X2_isYear
set_option maxRecDepth 20000 in
theorem ggX2_run_X1_bestFirst : GoodIn wsX2_run wsX1_bestFirst := goodIn_r _ [21, 22, 23, 24, 25, 26, 27, 28, 29, 30, 31, 32, 33, 34, 35, 36, 37, 38, 73, 74, 75, 76, 77, 78, 79, 80, 81, 82, 83] (by decide +kernel) (by decide +kernel)
set_option maxRecDepth 20000 in
theorem gX2_run_X1_bestFirst : GoodIn wsX2_run (wsV RX2 113 RX1 yX1_bestFirst wsX1_bestFirst) := goodIn_app (goodIn_of _ (by decide +kernel)) ggX2_run_X1_bestFirst
set_option maxRecDepth 20000 in
theorem ggX2_run_X1_priceOfFirst : GoodIn wsX2_run wsX1_priceOfFirst := goodIn_r _ [42, 22, 25, 23, 73, 74, 75, 76, 77, 78, 79] (by decide +kernel) (by decide +kernel)
set_option maxRecDepth 20000 in
theorem gX2_run_X1_priceOfFirst : GoodIn wsX2_run (wsV RX2 117 RX1 yX1_priceOfFirst wsX1_priceOfFirst) := goodIn_app (goodIn_of _ (by decide +kernel)) ggX2_run_X1_priceOfFirst
set_option maxRecDepth 20000 in
theorem ggX2_run_X2_take : GoodIn wsX2_run wsX2_take := goodIn_r _ [46, 5, 47, 48, 49, 50, 33, 34, 35, 8, 51, 52, 53, 54, 12, 55, 56, 57, 58, 63, 64, 65, 66, 67, 68, 69, 70, 71, 72, 73, 74, 75, 76, 77, 78, 79] (by decide +kernel) (by decide +kernel)
set_option maxRecDepth 20000 in
theorem gX2_run_X2_take : GoodIn wsX2_run (wsV RX2 137 RX2 yX2_take wsX2_take) := goodIn_app (goodIn_of _ (by decide +kernel)) ggX2_run_X2_take
set_option maxRecDepth 20000 in
theorem ggX2_run_X1_clear : GoodIn wsX2_run wsX1_clear := goodIn_r _ [62, 22, 73, 74, 75, 76, 77, 78, 79] (by decide +kernel) (by decide +kernel)
set_option maxRecDepth 20000 in
theorem gX2_run_X1_clear : GoodIn wsX2_run (wsV RX2 140 RX1 yX1_clear wsX1_clear) := goodIn_app (goodIn_of _ (by decide +kernel)) ggX2_run_X1_clear
theorem dX2_run_0 : decode cX2_run 0 = .ok (.iload_n 1, 1) := by decide +kernel
theorem dX2_run_1 : decode cX2_run 1 = .ok (.invokestatic 108, 3) := by decide +kernel
theorem dX2_run_4 : decode cX2_run 4 = .ok (.ifCond .ne 13, 3) := by decide +kernel
theorem dX2_run_7 : decode cX2_run 7 = .ok (.new 80, 3) := by decide +kernel
theorem dX2_run_10 : decode cX2_run 10 = .ok (.dup, 1) := by decide +kernel
theorem dX2_run_11 : decode cX2_run 11 = .ok (.ldc 111, 2) := by decide +kernel
theorem dX2_run_13 : decode cX2_run 13 = .ok (.invokespecial 84, 3) := by decide +kernel
theorem dX2_run_16 : decode cX2_run 16 = .ok (.athrow, 1) := by decide +kernel
theorem dX2_run_17 : decode cX2_run 17 = .ok (.aload_n 0, 1) := by decide +kernel
theorem dX2_run_18 : decode cX2_run 18 = .ok (.getfield 19, 3) := by decide +kernel
theorem dX2_run_21 : decode cX2_run 21 = .ok (.getfield 100, 3) := by decide +kernel
theorem dX2_run_24 : decode cX2_run 24 = .ok (.ifCond .ne 13, 3) := by decide +kernel
theorem dX2_run_27 : decode cX2_run 27 = .ok (.new 91, 3) := by decide +kernel
theorem dX2_run_30 : decode cX2_run 30 = .ok (.dup, 1) := by decide +kernel
theorem dX2_run_31 : decode cX2_run 31 = .ok (.ldc 132, 2) := by decide +kernel
theorem dX2_run_33 : decode cX2_run 33 = .ok (.invokespecial 95, 3) := by decide +kernel
theorem dX2_run_36 : decode cX2_run 36 = .ok (.athrow, 1) := by decide +kernel
theorem dX2_run_37 : decode cX2_run 37 = .ok (.aload_n 0, 1) := by decide +kernel
theorem dX2_run_38 : decode cX2_run 38 = .ok (.getfield 19, 3) := by decide +kernel
theorem dX2_run_41 : decode cX2_run 41 = .ok (.aload_n 0, 1) := by decide +kernel
theorem dX2_run_42 : decode cX2_run 42 = .ok (.getfield 10, 3) := by decide +kernel
theorem dX2_run_45 : decode cX2_run 45 = .ok (.aload_n 0, 1) := by decide +kernel
theorem dX2_run_46 : decode cX2_run 46 = .ok (.getfield 23, 3) := by decide +kernel
theorem dX2_run_49 : decode cX2_run 49 = .ok (.iload_n 1, 1) := by decide +kernel
theorem dX2_run_50 : decode cX2_run 50 = .ok (.iaload, 1) := by decide +kernel
theorem dX2_run_51 : decode cX2_run 51 = .ok (.invokevirtual 113, 3) := by decide +kernel
theorem dX2_run_54 : decode cX2_run 54 = .ok (.istore_n 2, 1) := by decide +kernel
theorem dX2_run_55 : decode cX2_run 55 = .ok (.aload_n 0, 1) := by decide +kernel
theorem dX2_run_56 : decode cX2_run 56 = .ok (.getfield 19, 3) := by decide +kernel
theorem dX2_run_59 : decode cX2_run 59 = .ok (.iload_n 2, 1) := by decide +kernel
theorem dX2_run_60 : decode cX2_run 60 = .ok (.invokevirtual 117, 3) := by decide +kernel
theorem dX2_run_63 : decode cX2_run 63 = .ok (.istore_n 3, 1) := by decide +kernel
theorem dX2_run_64 : decode cX2_run 64 = .ok (.iconst 0, 1) := by decide +kernel
theorem dX2_run_65 : decode cX2_run 65 = .ok (.istore 4, 2) := by decide +kernel
theorem dX2_run_67 : decode cX2_run 67 = .ok (.iload 4, 2) := by decide +kernel
theorem dX2_run_69 : decode cX2_run 69 = .ok (.iload_n 2, 1) := by decide +kernel
theorem dX2_run_70 : decode cX2_run 70 = .ok (.if_icmp .ge 25, 3) := by decide +kernel
theorem dX2_run_73 : decode cX2_run 73 = .ok (.aload_n 0, 1) := by decide +kernel
theorem dX2_run_74 : decode cX2_run 74 = .ok (.aload_n 0, 1) := by decide +kernel
theorem dX2_run_75 : decode cX2_run 75 = .ok (.getfield 19, 3) := by decide +kernel
theorem dX2_run_78 : decode cX2_run 78 = .ok (.getfield 134, 3) := by decide +kernel
theorem dX2_run_81 : decode cX2_run 81 = .ok (.iload 4, 2) := by decide +kernel
theorem dX2_run_83 : decode cX2_run 83 = .ok (.iaload, 1) := by decide +kernel
theorem dX2_run_84 : decode cX2_run 84 = .ok (.iload_n 1, 1) := by decide +kernel
theorem dX2_run_85 : decode cX2_run 85 = .ok (.iload_n 3, 1) := by decide +kernel
theorem dX2_run_86 : decode cX2_run 86 = .ok (.invokevirtual 137, 3) := by decide +kernel
theorem dX2_run_89 : decode cX2_run 89 = .ok (.iinc 4 1, 3) := by decide +kernel
theorem dX2_run_92 : decode cX2_run 92 = .ok (.goto (-25), 3) := by decide +kernel
theorem dX2_run_95 : decode cX2_run 95 = .ok (.aload_n 0, 1) := by decide +kernel
theorem dX2_run_96 : decode cX2_run 96 = .ok (.getfield 19, 3) := by decide +kernel
theorem dX2_run_99 : decode cX2_run 99 = .ok (.invokevirtual 140, 3) := by decide +kernel
theorem dX2_run_102 : decode cX2_run 102 = .ok (.iload_n 2, 1) := by decide +kernel
theorem dX2_run_103 : decode cX2_run 103 = .ok (.ireturn, 1) := by decide +kernel
set_option maxRecDepth 20000 in
theorem ggX2_bought_X2_isYear : GoodIn wsX2_bought wsX2_isYear := goodIn_r _ [7, 8, 9, 6, 10] (by decide +kernel) (by decide +kernel)
set_option maxRecDepth 20000 in
theorem gX2_bought_X2_isYear : GoodIn wsX2_bought (va_wsS RX2 108 yX2_isYear wsX2_isYear) := goodIn_app (goodIn_of _ (by decide +kernel)) ggX2_bought_X2_isYear
theorem dX2_bought_0 : decode cX2_bought 0 = .ok (.iload_n 1, 1) := by decide +kernel
theorem dX2_bought_1 : decode cX2_bought 1 = .ok (.invokestatic 108, 3) := by decide +kernel
theorem dX2_bought_4 : decode cX2_bought 4 = .ok (.ifCond .ne 13, 3) := by decide +kernel
theorem dX2_bought_7 : decode cX2_bought 7 = .ok (.new 80, 3) := by decide +kernel
theorem dX2_bought_10 : decode cX2_bought 10 = .ok (.dup, 1) := by decide +kernel
theorem dX2_bought_11 : decode cX2_bought 11 = .ok (.ldc 111, 2) := by decide +kernel
theorem dX2_bought_13 : decode cX2_bought 13 = .ok (.invokespecial 84, 3) := by decide +kernel
theorem dX2_bought_16 : decode cX2_bought 16 = .ok (.athrow, 1) := by decide +kernel
theorem dX2_bought_17 : decode cX2_bought 17 = .ok (.aload_n 0, 1) := by decide +kernel
theorem dX2_bought_18 : decode cX2_bought 18 = .ok (.getfield 23, 3) := by decide +kernel
theorem dX2_bought_21 : decode cX2_bought 21 = .ok (.iload_n 1, 1) := by decide +kernel
theorem dX2_bought_22 : decode cX2_bought 22 = .ok (.iaload, 1) := by decide +kernel
theorem dX2_bought_23 : decode cX2_bought 23 = .ok (.ireturn, 1) := by decide +kernel
set_option maxRecDepth 20000 in
theorem ggX2_income_X2_isParty : GoodIn wsX2_income wsX2_isParty := goodIn_r _ [7, 8, 9, 6, 10] (by decide +kernel) (by decide +kernel)
set_option maxRecDepth 20000 in
theorem gX2_income_X2_isParty : GoodIn wsX2_income (va_wsS RX2 76 yX2_isParty wsX2_isParty) := goodIn_app (goodIn_of _ (by decide +kernel)) ggX2_income_X2_isParty
set_option maxRecDepth 20000 in
theorem ggX2_income_X2_isYear : GoodIn wsX2_income wsX2_isYear := goodIn_r _ [13, 8, 9, 6, 10] (by decide +kernel) (by decide +kernel)
set_option maxRecDepth 20000 in
theorem gX2_income_X2_isYear : GoodIn wsX2_income (va_wsS RX2 108 yX2_isYear wsX2_isYear) := goodIn_app (goodIn_of _ (by decide +kernel)) ggX2_income_X2_isYear
set_option maxRecDepth 20000 in
theorem ggX2_income_X2_yearCell : GoodIn wsX2_income wsX2_yearCell := goodIn_r _ [16] (by decide +kernel) (by decide +kernel)
set_option maxRecDepth 20000 in
theorem gX2_income_X2_yearCell : GoodIn wsX2_income (va_wsS RX2 145 yX2_yearCell wsX2_yearCell) := goodIn_app (goodIn_of _ (by decide +kernel)) ggX2_income_X2_yearCell
theorem dX2_income_0 : decode cX2_income 0 = .ok (.iload_n 1, 1) := by decide +kernel
theorem dX2_income_1 : decode cX2_income 1 = .ok (.invokestatic 76, 3) := by decide +kernel
theorem dX2_income_4 : decode cX2_income 4 = .ok (.ifCond .eq 10, 3) := by decide +kernel
theorem dX2_income_7 : decode cX2_income 7 = .ok (.iload_n 2, 1) := by decide +kernel
theorem dX2_income_8 : decode cX2_income 8 = .ok (.invokestatic 108, 3) := by decide +kernel
theorem dX2_income_11 : decode cX2_income 11 = .ok (.ifCond .ne 13, 3) := by decide +kernel
theorem dX2_income_14 : decode cX2_income 14 = .ok (.new 80, 3) := by decide +kernel
theorem dX2_income_17 : decode cX2_income 17 = .ok (.dup, 1) := by decide +kernel
theorem dX2_income_18 : decode cX2_income 18 = .ok (.ldc 143, 2) := by decide +kernel
theorem dX2_income_20 : decode cX2_income 20 = .ok (.invokespecial 84, 3) := by decide +kernel
theorem dX2_income_23 : decode cX2_income 23 = .ok (.athrow, 1) := by decide +kernel
theorem dX2_income_24 : decode cX2_income 24 = .ok (.aload_n 0, 1) := by decide +kernel
theorem dX2_income_25 : decode cX2_income 25 = .ok (.getfield 27, 3) := by decide +kernel
theorem dX2_income_28 : decode cX2_income 28 = .ok (.iload_n 1, 1) := by decide +kernel
theorem dX2_income_29 : decode cX2_income 29 = .ok (.iload_n 2, 1) := by decide +kernel
theorem dX2_income_30 : decode cX2_income 30 = .ok (.invokestatic 145, 3) := by decide +kernel
theorem dX2_income_33 : decode cX2_income 33 = .ok (.iaload, 1) := by decide +kernel
theorem dX2_income_34 : decode cX2_income 34 = .ok (.ireturn, 1) := by decide +kernel
set_option maxRecDepth 20000 in
theorem ggX2_obligation_X2_isParty : GoodIn wsX2_obligation wsX2_isParty := goodIn_r _ [7, 8, 9, 6, 10] (by decide +kernel) (by decide +kernel)
set_option maxRecDepth 20000 in
theorem gX2_obligation_X2_isParty : GoodIn wsX2_obligation (va_wsS RX2 76 yX2_isParty wsX2_isParty) := goodIn_app (goodIn_of _ (by decide +kernel)) ggX2_obligation_X2_isParty
set_option maxRecDepth 20000 in
theorem ggX2_obligation_X2_isYear : GoodIn wsX2_obligation wsX2_isYear := goodIn_r _ [13, 8, 9, 6, 10] (by decide +kernel) (by decide +kernel)
set_option maxRecDepth 20000 in
theorem gX2_obligation_X2_isYear : GoodIn wsX2_obligation (va_wsS RX2 108 yX2_isYear wsX2_isYear) := goodIn_app (goodIn_of _ (by decide +kernel)) ggX2_obligation_X2_isYear
set_option maxRecDepth 20000 in
theorem ggX2_obligation_X2_isHour : GoodIn wsX2_obligation wsX2_isHour := goodIn_r _ [16, 8, 9, 6, 10] (by decide +kernel) (by decide +kernel)
set_option maxRecDepth 20000 in
theorem gX2_obligation_X2_isHour : GoodIn wsX2_obligation (va_wsS RX2 149 yX2_isHour wsX2_isHour) := goodIn_app (goodIn_of _ (by decide +kernel)) ggX2_obligation_X2_isHour
set_option maxRecDepth 20000 in
theorem ggX2_obligation_X2_hourCell : GoodIn wsX2_obligation wsX2_hourCell := goodIn_r _ [19, 20, 21, 6, 22] (by decide +kernel) (by decide +kernel)
set_option maxRecDepth 20000 in
theorem gX2_obligation_X2_hourCell : GoodIn wsX2_obligation (va_wsS RX2 154 yX2_hourCell wsX2_hourCell) := goodIn_app (goodIn_of _ (by decide +kernel)) ggX2_obligation_X2_hourCell
theorem dX2_obligation_0 : decode cX2_obligation 0 = .ok (.iload_n 1, 1) := by decide +kernel
theorem dX2_obligation_1 : decode cX2_obligation 1 = .ok (.invokestatic 76, 3) := by decide +kernel
theorem dX2_obligation_4 : decode cX2_obligation 4 = .ok (.ifCond .eq 17, 3) := by decide +kernel
theorem dX2_obligation_7 : decode cX2_obligation 7 = .ok (.iload_n 2, 1) := by decide +kernel
theorem dX2_obligation_8 : decode cX2_obligation 8 = .ok (.invokestatic 108, 3) := by decide +kernel
theorem dX2_obligation_11 : decode cX2_obligation 11 = .ok (.ifCond .eq 10, 3) := by decide +kernel
theorem dX2_obligation_14 : decode cX2_obligation 14 = .ok (.iload_n 3, 1) := by decide +kernel
theorem dX2_obligation_15 : decode cX2_obligation 15 = .ok (.invokestatic 149, 3) := by decide +kernel
theorem dX2_obligation_18 : decode cX2_obligation 18 = .ok (.ifCond .ne 13, 3) := by decide +kernel
theorem dX2_obligation_21 : decode cX2_obligation 21 = .ok (.new 80, 3) := by decide +kernel
theorem dX2_obligation_24 : decode cX2_obligation 24 = .ok (.dup, 1) := by decide +kernel
theorem dX2_obligation_25 : decode cX2_obligation 25 = .ok (.ldc 152, 2) := by decide +kernel
theorem dX2_obligation_27 : decode cX2_obligation 27 = .ok (.invokespecial 84, 3) := by decide +kernel
theorem dX2_obligation_30 : decode cX2_obligation 30 = .ok (.athrow, 1) := by decide +kernel
theorem dX2_obligation_31 : decode cX2_obligation 31 = .ok (.aload_n 0, 1) := by decide +kernel
theorem dX2_obligation_32 : decode cX2_obligation 32 = .ok (.getfield 30, 3) := by decide +kernel
theorem dX2_obligation_35 : decode cX2_obligation 35 = .ok (.iload_n 1, 1) := by decide +kernel
theorem dX2_obligation_36 : decode cX2_obligation 36 = .ok (.iload_n 2, 1) := by decide +kernel
theorem dX2_obligation_37 : decode cX2_obligation 37 = .ok (.iload_n 3, 1) := by decide +kernel
theorem dX2_obligation_38 : decode cX2_obligation 38 = .ok (.invokestatic 154, 3) := by decide +kernel
theorem dX2_obligation_41 : decode cX2_obligation 41 = .ok (.iaload, 1) := by decide +kernel
theorem dX2_obligation_42 : decode cX2_obligation 42 = .ok (.ireturn, 1) := by decide +kernel
set_option maxRecDepth 20000 in
theorem ggX2_trade_X2_isParty : GoodIn wsX2_trade wsX2_isParty := goodIn_r _ [12, 13, 14, 11, 15] (by decide +kernel) (by decide +kernel)
set_option maxRecDepth 20000 in
theorem gX2_trade_X2_isParty : GoodIn wsX2_trade (va_wsS RX2 76 yX2_isParty wsX2_isParty) := goodIn_app (goodIn_of _ (by decide +kernel)) ggX2_trade_X2_isParty
set_option maxRecDepth 20000 in
theorem ggX2_trade_X2_isYear : GoodIn wsX2_trade wsX2_isYear := goodIn_r _ [18, 13, 14, 11, 15] (by decide +kernel) (by decide +kernel)
set_option maxRecDepth 20000 in
theorem gX2_trade_X2_isYear : GoodIn wsX2_trade (va_wsS RX2 108 yX2_isYear wsX2_isYear) := goodIn_app (goodIn_of _ (by decide +kernel)) ggX2_trade_X2_isYear
set_option maxRecDepth 20000 in
theorem ggX2_trade_X2_isHour : GoodIn wsX2_trade wsX2_isHour := goodIn_r _ [21, 13, 14, 11, 15] (by decide +kernel) (by decide +kernel)
set_option maxRecDepth 20000 in
theorem gX2_trade_X2_isHour : GoodIn wsX2_trade (va_wsS RX2 149 yX2_isHour wsX2_isHour) := goodIn_app (goodIn_of _ (by decide +kernel)) ggX2_trade_X2_isHour
end
section
set_option maxRecDepth 20000 in
theorem ggX2_trade_X2_isWithin : GoodIn wsX2_trade wsX2_isWithin := goodIn_r _ [15] (by decide +kernel) (by decide +kernel)
set_option maxRecDepth 20000 in
theorem gX2_trade_X2_isWithin : GoodIn wsX2_trade (va_wsS RX2 50 yX2_isWithin wsX2_isWithin) := goodIn_app (goodIn_of _ (by decide +kernel)) ggX2_trade_X2_isWithin
set_option maxRecDepth 20000 in
theorem ggX2_trade_X2_leastObligation : GoodIn wsX2_trade wsX2_leastObligation := goodIn_r _ [25, 7, 26, 27, 28, 29, 30, 31, 11, 32, 33, 34, 35, 36, 37, 38, 39, 40, 41, 42, 43, 44, 45] (by decide +kernel) (by decide +kernel)
set_option maxRecDepth 20000 in
theorem gX2_trade_X2_leastObligation : GoodIn wsX2_trade (wsV RX2 160 RX2 yX2_leastObligation wsX2_leastObligation) := goodIn_app (goodIn_of _ (by decide +kernel)) ggX2_trade_X2_leastObligation
set_option maxRecDepth 20000 in
theorem ggX2_trade_X2_hourCell : GoodIn wsX2_trade wsX2_hourCell := goodIn_r _ [32, 33, 34, 11, 35] (by decide +kernel) (by decide +kernel)
set_option maxRecDepth 20000 in
theorem gX2_trade_X2_hourCell : GoodIn wsX2_trade (va_wsS RX2 154 yX2_hourCell wsX2_hourCell) := goodIn_app (goodIn_of _ (by decide +kernel)) ggX2_trade_X2_hourCell
theorem dX2_trade_0 : decode cX2_trade 0 = .ok (.iload_n 1, 1) := by decide +kernel
theorem dX2_trade_1 : decode cX2_trade 1 = .ok (.invokestatic 76, 3) := by decide +kernel
theorem dX2_trade_4 : decode cX2_trade 4 = .ok (.ifCond .eq 33, 3) := by decide +kernel
theorem dX2_trade_7 : decode cX2_trade 7 = .ok (.iload_n 2, 1) := by decide +kernel
theorem dX2_trade_8 : decode cX2_trade 8 = .ok (.invokestatic 76, 3) := by decide +kernel
theorem dX2_trade_11 : decode cX2_trade 11 = .ok (.ifCond .eq 26, 3) := by decide +kernel
theorem dX2_trade_14 : decode cX2_trade 14 = .ok (.iload_n 3, 1) := by decide +kernel
theorem dX2_trade_15 : decode cX2_trade 15 = .ok (.invokestatic 108, 3) := by decide +kernel
theorem dX2_trade_18 : decode cX2_trade 18 = .ok (.ifCond .eq 19, 3) := by decide +kernel
theorem dX2_trade_21 : decode cX2_trade 21 = .ok (.iload 4, 2) := by decide +kernel
theorem dX2_trade_23 : decode cX2_trade 23 = .ok (.invokestatic 149, 3) := by decide +kernel
theorem dX2_trade_26 : decode cX2_trade 26 = .ok (.ifCond .eq 11, 3) := by decide +kernel
theorem dX2_trade_29 : decode cX2_trade 29 = .ok (.iload 5, 2) := by decide +kernel
theorem dX2_trade_31 : decode cX2_trade 31 = .ok (.invokestatic 149, 3) := by decide +kernel
theorem dX2_trade_34 : decode cX2_trade 34 = .ok (.ifCond .ne 13, 3) := by decide +kernel
theorem dX2_trade_37 : decode cX2_trade 37 = .ok (.new 80, 3) := by decide +kernel
theorem dX2_trade_40 : decode cX2_trade 40 = .ok (.dup, 1) := by decide +kernel
theorem dX2_trade_41 : decode cX2_trade 41 = .ok (.ldc 152, 2) := by decide +kernel
theorem dX2_trade_43 : decode cX2_trade 43 = .ok (.invokespecial 84, 3) := by decide +kernel
theorem dX2_trade_46 : decode cX2_trade 46 = .ok (.athrow, 1) := by decide +kernel
theorem dX2_trade_47 : decode cX2_trade 47 = .ok (.iload_n 1, 1) := by decide +kernel
theorem dX2_trade_48 : decode cX2_trade 48 = .ok (.iload_n 2, 1) := by decide +kernel
theorem dX2_trade_49 : decode cX2_trade 49 = .ok (.if_icmp .eq 22, 3) := by decide +kernel
theorem dX2_trade_52 : decode cX2_trade 52 = .ok (.iload 5, 2) := by decide +kernel
theorem dX2_trade_54 : decode cX2_trade 54 = .ok (.iload 4, 2) := by decide +kernel
theorem dX2_trade_56 : decode cX2_trade 56 = .ok (.if_icmp .lt 15, 3) := by decide +kernel
theorem dX2_trade_59 : decode cX2_trade 59 = .ok (.iload 6, 2) := by decide +kernel
theorem dX2_trade_61 : decode cX2_trade 61 = .ok (.iconst 1, 1) := by decide +kernel
theorem dX2_trade_62 : decode cX2_trade 62 = .ok (.sipush 1000, 3) := by decide +kernel
theorem dX2_trade_65 : decode cX2_trade 65 = .ok (.invokestatic 50, 3) := by decide +kernel
theorem dX2_trade_68 : decode cX2_trade 68 = .ok (.ifCond .ne 13, 3) := by decide +kernel
theorem dX2_trade_71 : decode cX2_trade 71 = .ok (.new 54, 3) := by decide +kernel
theorem dX2_trade_74 : decode cX2_trade 74 = .ok (.dup, 1) := by decide +kernel
theorem dX2_trade_75 : decode cX2_trade 75 = .ok (.ldc 158, 2) := by decide +kernel
theorem dX2_trade_77 : decode cX2_trade 77 = .ok (.invokespecial 58, 3) := by decide +kernel
theorem dX2_trade_80 : decode cX2_trade 80 = .ok (.athrow, 1) := by decide +kernel
theorem dX2_trade_81 : decode cX2_trade 81 = .ok (.aload_n 0, 1) := by decide +kernel
theorem dX2_trade_82 : decode cX2_trade 82 = .ok (.iload_n 1, 1) := by decide +kernel
theorem dX2_trade_83 : decode cX2_trade 83 = .ok (.iload_n 3, 1) := by decide +kernel
theorem dX2_trade_84 : decode cX2_trade 84 = .ok (.iload 4, 2) := by decide +kernel
theorem dX2_trade_86 : decode cX2_trade 86 = .ok (.iload 5, 2) := by decide +kernel
theorem dX2_trade_88 : decode cX2_trade 88 = .ok (.invokevirtual 160, 3) := by decide +kernel
theorem dX2_trade_91 : decode cX2_trade 91 = .ok (.istore 7, 2) := by decide +kernel
theorem dX2_trade_93 : decode cX2_trade 93 = .ok (.iload 7, 2) := by decide +kernel
theorem dX2_trade_95 : decode cX2_trade 95 = .ok (.iload 6, 2) := by decide +kernel
theorem dX2_trade_97 : decode cX2_trade 97 = .ok (.if_icmp .ge 13, 3) := by decide +kernel
theorem dX2_trade_100 : decode cX2_trade 100 = .ok (.new 91, 3) := by decide +kernel
theorem dX2_trade_103 : decode cX2_trade 103 = .ok (.dup, 1) := by decide +kernel
theorem dX2_trade_104 : decode cX2_trade 104 = .ok (.ldc 163, 2) := by decide +kernel
theorem dX2_trade_106 : decode cX2_trade 106 = .ok (.invokespecial 95, 3) := by decide +kernel
theorem dX2_trade_109 : decode cX2_trade 109 = .ok (.athrow, 1) := by decide +kernel
theorem dX2_trade_110 : decode cX2_trade 110 = .ok (.iload 4, 2) := by decide +kernel
theorem dX2_trade_112 : decode cX2_trade 112 = .ok (.istore 8, 2) := by decide +kernel
theorem dX2_trade_114 : decode cX2_trade 114 = .ok (.iload 8, 2) := by decide +kernel
theorem dX2_trade_116 : decode cX2_trade 116 = .ok (.iload 5, 2) := by decide +kernel
theorem dX2_trade_118 : decode cX2_trade 118 = .ok (.if_icmp .gt 43, 3) := by decide +kernel
theorem dX2_trade_121 : decode cX2_trade 121 = .ok (.aload_n 0, 1) := by decide +kernel
theorem dX2_trade_122 : decode cX2_trade 122 = .ok (.getfield 30, 3) := by decide +kernel
theorem dX2_trade_125 : decode cX2_trade 125 = .ok (.iload_n 1, 1) := by decide +kernel
theorem dX2_trade_126 : decode cX2_trade 126 = .ok (.iload_n 3, 1) := by decide +kernel
theorem dX2_trade_127 : decode cX2_trade 127 = .ok (.iload 8, 2) := by decide +kernel
theorem dX2_trade_129 : decode cX2_trade 129 = .ok (.invokestatic 154, 3) := by decide +kernel
theorem dX2_trade_132 : decode cX2_trade 132 = .ok (.dup2, 1) := by decide +kernel
theorem dX2_trade_133 : decode cX2_trade 133 = .ok (.iaload, 1) := by decide +kernel
theorem dX2_trade_134 : decode cX2_trade 134 = .ok (.iload 6, 2) := by decide +kernel
theorem dX2_trade_136 : decode cX2_trade 136 = .ok (.isub, 1) := by decide +kernel
theorem dX2_trade_137 : decode cX2_trade 137 = .ok (.iastore, 1) := by decide +kernel
theorem dX2_trade_138 : decode cX2_trade 138 = .ok (.aload_n 0, 1) := by decide +kernel
theorem dX2_trade_139 : decode cX2_trade 139 = .ok (.getfield 30, 3) := by decide +kernel
theorem dX2_trade_142 : decode cX2_trade 142 = .ok (.iload_n 2, 1) := by decide +kernel
theorem dX2_trade_143 : decode cX2_trade 143 = .ok (.iload_n 3, 1) := by decide +kernel
theorem dX2_trade_144 : decode cX2_trade 144 = .ok (.iload 8, 2) := by decide +kernel
theorem dX2_trade_146 : decode cX2_trade 146 = .ok (.invokestatic 154, 3) := by decide +kernel
theorem dX2_trade_149 : decode cX2_trade 149 = .ok (.dup2, 1) := by decide +kernel
theorem dX2_trade_150 : decode cX2_trade 150 = .ok (.iaload, 1) := by decide +kernel
theorem dX2_trade_151 : decode cX2_trade 151 = .ok (.iload 6, 2) := by decide +kernel
theorem dX2_trade_153 : decode cX2_trade 153 = .ok (.iadd, 1) := by decide +kernel
theorem dX2_trade_154 : decode cX2_trade 154 = .ok (.iastore, 1) := by decide +kernel
theorem dX2_trade_155 : decode cX2_trade 155 = .ok (.iinc 8 1, 3) := by decide +kernel
theorem dX2_trade_158 : decode cX2_trade 158 = .ok (.goto (-44), 3) := by decide +kernel
theorem dX2_trade_161 : decode cX2_trade 161 = .ok (.aload_n 0, 1) := by decide +kernel
theorem dX2_trade_162 : decode cX2_trade 162 = .ok (.dup, 1) := by decide +kernel
theorem dX2_trade_163 : decode cX2_trade 163 = .ok (.getfield 40, 3) := by decide +kernel
theorem dX2_trade_166 : decode cX2_trade 166 = .ok (.iconst 1, 1) := by decide +kernel
theorem dX2_trade_167 : decode cX2_trade 167 = .ok (.iadd, 1) := by decide +kernel
theorem dX2_trade_168 : decode cX2_trade 168 = .ok (.putfield 40, 3) := by decide +kernel
theorem dX2_trade_171 : decode cX2_trade 171 = .ok (.iload 7, 2) := by decide +kernel
theorem dX2_trade_173 : decode cX2_trade 173 = .ok (.iload 6, 2) := by decide +kernel
theorem dX2_trade_175 : decode cX2_trade 175 = .ok (.isub, 1) := by decide +kernel
theorem dX2_trade_176 : decode cX2_trade 176 = .ok (.ireturn, 1) := by decide +kernel
theorem dX2_trades_0 : decode cX2_trades 0 = .ok (.aload_n 0, 1) := by decide +kernel
theorem dX2_trades_1 : decode cX2_trades 1 = .ok (.getfield 40, 3) := by decide +kernel
theorem dX2_trades_4 : decode cX2_trades 4 = .ok (.ireturn, 1) := by decide +kernel
set_option maxRecDepth 20000 in
theorem ggX2_stress_X2_isYear : GoodIn wsX2_stress wsX2_isYear := goodIn_r _ [7, 8, 9, 6, 10] (by decide +kernel) (by decide +kernel)
set_option maxRecDepth 20000 in
theorem gX2_stress_X2_isYear : GoodIn wsX2_stress (va_wsS RX2 108 yX2_isYear wsX2_isYear) := goodIn_app (goodIn_of _ (by decide +kernel)) ggX2_stress_X2_isYear
set_option maxRecDepth 20000 in
theorem ggX2_stress_X2_isHour : GoodIn wsX2_stress wsX2_isHour := goodIn_r _ [13, 8, 9, 6, 10] (by decide +kernel) (by decide +kernel)
set_option maxRecDepth 20000 in
theorem gX2_stress_X2_isHour : GoodIn wsX2_stress (va_wsS RX2 149 yX2_isHour wsX2_isHour) := goodIn_app (goodIn_of _ (by decide +kernel)) ggX2_stress_X2_isHour
theorem dX2_stress_0 : decode cX2_stress 0 = .ok (.iload_n 1, 1) := by decide +kernel
theorem dX2_stress_1 : decode cX2_stress 1 = .ok (.invokestatic 108, 3) := by decide +kernel
theorem dX2_stress_4 : decode cX2_stress 4 = .ok (.ifCond .eq 10, 3) := by decide +kernel
theorem dX2_stress_7 : decode cX2_stress 7 = .ok (.iload_n 2, 1) := by decide +kernel
theorem dX2_stress_8 : decode cX2_stress 8 = .ok (.invokestatic 149, 3) := by decide +kernel
theorem dX2_stress_11 : decode cX2_stress 11 = .ok (.ifCond .ne 13, 3) := by decide +kernel
theorem dX2_stress_14 : decode cX2_stress 14 = .ok (.new 80, 3) := by decide +kernel
theorem dX2_stress_17 : decode cX2_stress 17 = .ok (.dup, 1) := by decide +kernel
theorem dX2_stress_18 : decode cX2_stress 18 = .ok (.ldc 165, 2) := by decide +kernel
theorem dX2_stress_20 : decode cX2_stress 20 = .ok (.invokespecial 84, 3) := by decide +kernel
theorem dX2_stress_23 : decode cX2_stress 23 = .ok (.athrow, 1) := by decide +kernel
theorem dX2_stress_24 : decode cX2_stress 24 = .ok (.iload_n 1, 1) := by decide +kernel
theorem dX2_stress_25 : decode cX2_stress 25 = .ok (.bipush 12, 2) := by decide +kernel
theorem dX2_stress_27 : decode cX2_stress 27 = .ok (.imul, 1) := by decide +kernel
theorem dX2_stress_28 : decode cX2_stress 28 = .ok (.iload_n 2, 1) := by decide +kernel
theorem dX2_stress_29 : decode cX2_stress 29 = .ok (.iadd, 1) := by decide +kernel
theorem dX2_stress_30 : decode cX2_stress 30 = .ok (.istore_n 3, 1) := by decide +kernel
theorem dX2_stress_31 : decode cX2_stress 31 = .ok (.aload_n 0, 1) := by decide +kernel
theorem dX2_stress_32 : decode cX2_stress 32 = .ok (.getfield 36, 3) := by decide +kernel
theorem dX2_stress_35 : decode cX2_stress 35 = .ok (.iload_n 3, 1) := by decide +kernel
theorem dX2_stress_36 : decode cX2_stress 36 = .ok (.aload_n 0, 1) := by decide +kernel
theorem dX2_stress_37 : decode cX2_stress 37 = .ok (.getfield 36, 3) := by decide +kernel
theorem dX2_stress_40 : decode cX2_stress 40 = .ok (.iload_n 3, 1) := by decide +kernel
theorem dX2_stress_41 : decode cX2_stress 41 = .ok (.baload, 1) := by decide +kernel
theorem dX2_stress_42 : decode cX2_stress 42 = .ok (.ifCond .ne 7, 3) := by decide +kernel
theorem dX2_stress_45 : decode cX2_stress 45 = .ok (.iconst 1, 1) := by decide +kernel
theorem dX2_stress_46 : decode cX2_stress 46 = .ok (.goto 4, 3) := by decide +kernel
theorem dX2_stress_49 : decode cX2_stress 49 = .ok (.iconst 0, 1) := by decide +kernel
theorem dX2_stress_50 : decode cX2_stress 50 = .ok (.bastore, 1) := by decide +kernel
theorem dX2_stress_51 : decode cX2_stress 51 = .ok (.aload_n 0, 1) := by decide +kernel
theorem dX2_stress_52 : decode cX2_stress 52 = .ok (.getfield 36, 3) := by decide +kernel
theorem dX2_stress_55 : decode cX2_stress 55 = .ok (.iload_n 3, 1) := by decide +kernel
theorem dX2_stress_56 : decode cX2_stress 56 = .ok (.baload, 1) := by decide +kernel
theorem dX2_stress_57 : decode cX2_stress 57 = .ok (.ireturn, 1) := by decide +kernel
set_option maxRecDepth 20000 in
theorem ggX2_tell_X2_isParty : GoodIn wsX2_tell wsX2_isParty := goodIn_r _ [9, 10, 11, 8, 12] (by decide +kernel) (by decide +kernel)
set_option maxRecDepth 20000 in
theorem gX2_tell_X2_isParty : GoodIn wsX2_tell (va_wsS RX2 76 yX2_isParty wsX2_isParty) := goodIn_app (goodIn_of _ (by decide +kernel)) ggX2_tell_X2_isParty
set_option maxRecDepth 20000 in
theorem ggX2_tell_X2_isYear : GoodIn wsX2_tell wsX2_isYear := goodIn_r _ [15, 10, 11, 8, 12] (by decide +kernel) (by decide +kernel)
set_option maxRecDepth 20000 in
theorem gX2_tell_X2_isYear : GoodIn wsX2_tell (va_wsS RX2 108 yX2_isYear wsX2_isYear) := goodIn_app (goodIn_of _ (by decide +kernel)) ggX2_tell_X2_isYear
set_option maxRecDepth 20000 in
theorem ggX2_tell_X2_isHour : GoodIn wsX2_tell wsX2_isHour := goodIn_r _ [18, 10, 11, 8, 12] (by decide +kernel) (by decide +kernel)
set_option maxRecDepth 20000 in
theorem gX2_tell_X2_isHour : GoodIn wsX2_tell (va_wsS RX2 149 yX2_isHour wsX2_isHour) := goodIn_app (goodIn_of _ (by decide +kernel)) ggX2_tell_X2_isHour
set_option maxRecDepth 20000 in
theorem ggX2_tell_X2_isWithin : GoodIn wsX2_tell wsX2_isWithin := goodIn_r _ [12] (by decide +kernel) (by decide +kernel)
set_option maxRecDepth 20000 in
theorem gX2_tell_X2_isWithin : GoodIn wsX2_tell (va_wsS RX2 50 yX2_isWithin wsX2_isWithin) := goodIn_app (goodIn_of _ (by decide +kernel)) ggX2_tell_X2_isWithin
set_option maxRecDepth 20000 in
theorem ggX2_tell_X2_hourCell : GoodIn wsX2_tell wsX2_hourCell := goodIn_r _ [21, 22, 23, 8, 24] (by decide +kernel) (by decide +kernel)
set_option maxRecDepth 20000 in
theorem gX2_tell_X2_hourCell : GoodIn wsX2_tell (va_wsS RX2 154 yX2_hourCell wsX2_hourCell) := goodIn_app (goodIn_of _ (by decide +kernel)) ggX2_tell_X2_hourCell
theorem dX2_tell_0 : decode cX2_tell 0 = .ok (.iload_n 1, 1) := by decide +kernel
theorem dX2_tell_1 : decode cX2_tell 1 = .ok (.invokestatic 76, 3) := by decide +kernel
theorem dX2_tell_4 : decode cX2_tell 4 = .ok (.ifCond .eq 17, 3) := by decide +kernel
theorem dX2_tell_7 : decode cX2_tell 7 = .ok (.iload_n 2, 1) := by decide +kernel
theorem dX2_tell_8 : decode cX2_tell 8 = .ok (.invokestatic 108, 3) := by decide +kernel
theorem dX2_tell_11 : decode cX2_tell 11 = .ok (.ifCond .eq 10, 3) := by decide +kernel
theorem dX2_tell_14 : decode cX2_tell 14 = .ok (.iload_n 3, 1) := by decide +kernel
theorem dX2_tell_15 : decode cX2_tell 15 = .ok (.invokestatic 149, 3) := by decide +kernel
theorem dX2_tell_18 : decode cX2_tell 18 = .ok (.ifCond .ne 13, 3) := by decide +kernel
theorem dX2_tell_21 : decode cX2_tell 21 = .ok (.new 80, 3) := by decide +kernel
theorem dX2_tell_24 : decode cX2_tell 24 = .ok (.dup, 1) := by decide +kernel
theorem dX2_tell_25 : decode cX2_tell 25 = .ok (.ldc 152, 2) := by decide +kernel
theorem dX2_tell_27 : decode cX2_tell 27 = .ok (.invokespecial 84, 3) := by decide +kernel
theorem dX2_tell_30 : decode cX2_tell 30 = .ok (.athrow, 1) := by decide +kernel
theorem dX2_tell_31 : decode cX2_tell 31 = .ok (.iload 4, 2) := by decide +kernel
theorem dX2_tell_33 : decode cX2_tell 33 = .ok (.iconst 0, 1) := by decide +kernel
theorem dX2_tell_34 : decode cX2_tell 34 = .ok (.sipush 5000, 3) := by decide +kernel
theorem dX2_tell_37 : decode cX2_tell 37 = .ok (.invokestatic 50, 3) := by decide +kernel
theorem dX2_tell_40 : decode cX2_tell 40 = .ok (.ifCond .ne 13, 3) := by decide +kernel
theorem dX2_tell_43 : decode cX2_tell 43 = .ok (.new 54, 3) := by decide +kernel
theorem dX2_tell_46 : decode cX2_tell 46 = .ok (.dup, 1) := by decide +kernel
theorem dX2_tell_47 : decode cX2_tell 47 = .ok (.ldc 167, 2) := by decide +kernel
theorem dX2_tell_49 : decode cX2_tell 49 = .ok (.invokespecial 58, 3) := by decide +kernel
theorem dX2_tell_52 : decode cX2_tell 52 = .ok (.athrow, 1) := by decide +kernel
theorem dX2_tell_53 : decode cX2_tell 53 = .ok (.iload_n 1, 1) := by decide +kernel
theorem dX2_tell_54 : decode cX2_tell 54 = .ok (.iload_n 2, 1) := by decide +kernel
theorem dX2_tell_55 : decode cX2_tell 55 = .ok (.iload_n 3, 1) := by decide +kernel
theorem dX2_tell_56 : decode cX2_tell 56 = .ok (.invokestatic 154, 3) := by decide +kernel
theorem dX2_tell_59 : decode cX2_tell 59 = .ok (.istore 5, 2) := by decide +kernel
theorem dX2_tell_61 : decode cX2_tell 61 = .ok (.aload_n 0, 1) := by decide +kernel
theorem dX2_tell_62 : decode cX2_tell 62 = .ok (.getfield 33, 3) := by decide +kernel
theorem dX2_tell_65 : decode cX2_tell 65 = .ok (.iload 5, 2) := by decide +kernel
theorem dX2_tell_67 : decode cX2_tell 67 = .ok (.iaload, 1) := by decide +kernel
theorem dX2_tell_68 : decode cX2_tell 68 = .ok (.istore 6, 2) := by decide +kernel
theorem dX2_tell_70 : decode cX2_tell 70 = .ok (.aload_n 0, 1) := by decide +kernel
theorem dX2_tell_71 : decode cX2_tell 71 = .ok (.getfield 33, 3) := by decide +kernel
theorem dX2_tell_74 : decode cX2_tell 74 = .ok (.iload 5, 2) := by decide +kernel
theorem dX2_tell_76 : decode cX2_tell 76 = .ok (.iload 4, 2) := by decide +kernel
theorem dX2_tell_78 : decode cX2_tell 78 = .ok (.iastore, 1) := by decide +kernel
theorem dX2_tell_79 : decode cX2_tell 79 = .ok (.iload 6, 2) := by decide +kernel
theorem dX2_tell_81 : decode cX2_tell 81 = .ok (.ireturn, 1) := by decide +kernel
set_option maxRecDepth 20000 in
theorem ggX2_setPenalty_X2_isWithin : GoodIn wsX2_setPenalty wsX2_isWithin := goodIn_r _ [8] (by decide +kernel) (by decide +kernel)
set_option maxRecDepth 20000 in
theorem gX2_setPenalty_X2_isWithin : GoodIn wsX2_setPenalty (va_wsS RX2 50 yX2_isWithin wsX2_isWithin) := goodIn_app (goodIn_of _ (by decide +kernel)) ggX2_setPenalty_X2_isWithin
theorem dX2_setPenalty_0 : decode cX2_setPenalty 0 = .ok (.iload_n 1, 1) := by decide +kernel
theorem dX2_setPenalty_1 : decode cX2_setPenalty 1 = .ok (.iconst 0, 1) := by decide +kernel
theorem dX2_setPenalty_2 : decode cX2_setPenalty 2 = .ok (.sipush 1000, 3) := by decide +kernel
theorem dX2_setPenalty_5 : decode cX2_setPenalty 5 = .ok (.invokestatic 50, 3) := by decide +kernel
theorem dX2_setPenalty_8 : decode cX2_setPenalty 8 = .ok (.ifCond .eq 14, 3) := by decide +kernel
theorem dX2_setPenalty_11 : decode cX2_setPenalty 11 = .ok (.iload_n 2, 1) := by decide +kernel
theorem dX2_setPenalty_12 : decode cX2_setPenalty 12 = .ok (.iconst 0, 1) := by decide +kernel
theorem dX2_setPenalty_13 : decode cX2_setPenalty 13 = .ok (.sipush 200, 3) := by decide +kernel
theorem dX2_setPenalty_16 : decode cX2_setPenalty 16 = .ok (.invokestatic 50, 3) := by decide +kernel
theorem dX2_setPenalty_19 : decode cX2_setPenalty 19 = .ok (.ifCond .ne 13, 3) := by decide +kernel
theorem dX2_setPenalty_22 : decode cX2_setPenalty 22 = .ok (.new 54, 3) := by decide +kernel
theorem dX2_setPenalty_25 : decode cX2_setPenalty 25 = .ok (.dup, 1) := by decide +kernel
theorem dX2_setPenalty_26 : decode cX2_setPenalty 26 = .ok (.ldc 169, 2) := by decide +kernel
theorem dX2_setPenalty_28 : decode cX2_setPenalty 28 = .ok (.invokespecial 58, 3) := by decide +kernel
theorem dX2_setPenalty_31 : decode cX2_setPenalty 31 = .ok (.athrow, 1) := by decide +kernel
theorem dX2_setPenalty_32 : decode cX2_setPenalty 32 = .ok (.aload_n 0, 1) := by decide +kernel
theorem dX2_setPenalty_33 : decode cX2_setPenalty 33 = .ok (.iload_n 1, 1) := by decide +kernel
theorem dX2_setPenalty_34 : decode cX2_setPenalty 34 = .ok (.putfield 44, 3) := by decide +kernel
theorem dX2_setPenalty_37 : decode cX2_setPenalty 37 = .ok (.aload_n 0, 1) := by decide +kernel
theorem dX2_setPenalty_38 : decode cX2_setPenalty 38 = .ok (.iload_n 2, 1) := by decide +kernel
theorem dX2_setPenalty_39 : decode cX2_setPenalty 39 = .ok (.putfield 47, 3) := by decide +kernel
theorem dX2_setPenalty_42 : decode cX2_setPenalty 42 = .ok (.return_, 1) := by decide +kernel
set_option maxRecDepth 20000 in
theorem ggX2_lack_X2_isParty : GoodIn wsX2_lack wsX2_isParty := goodIn_r _ [6, 7, 8, 5, 9] (by decide +kernel) (by decide +kernel)
set_option maxRecDepth 20000 in
theorem gX2_lack_X2_isParty : GoodIn wsX2_lack (va_wsS RX2 76 yX2_isParty wsX2_isParty) := goodIn_app (goodIn_of _ (by decide +kernel)) ggX2_lack_X2_isParty
set_option maxRecDepth 20000 in
theorem ggX2_lack_X2_isYear : GoodIn wsX2_lack wsX2_isYear := goodIn_r _ [12, 7, 8, 5, 9] (by decide +kernel) (by decide +kernel)
set_option maxRecDepth 20000 in
theorem gX2_lack_X2_isYear : GoodIn wsX2_lack (va_wsS RX2 108 yX2_isYear wsX2_isYear) := goodIn_app (goodIn_of _ (by decide +kernel)) ggX2_lack_X2_isYear
set_option maxRecDepth 20000 in
theorem ggX2_lack_X2_lackOf : GoodIn wsX2_lack wsX2_lackOf := goodIn_r _ [16, 17, 18, 19, 20, 21, 5, 22, 23, 24, 25, 26, 27, 28, 29, 30, 31, 32, 33, 34, 35] (by decide +kernel) (by decide +kernel)
set_option maxRecDepth 20000 in
theorem gX2_lack_X2_lackOf : GoodIn wsX2_lack (wsV RX2 171 RX2 yX2_lackOf wsX2_lackOf) := goodIn_app (goodIn_of _ (by decide +kernel)) ggX2_lack_X2_lackOf
theorem dX2_lack_0 : decode cX2_lack 0 = .ok (.iload_n 1, 1) := by decide +kernel
theorem dX2_lack_1 : decode cX2_lack 1 = .ok (.invokestatic 76, 3) := by decide +kernel
theorem dX2_lack_4 : decode cX2_lack 4 = .ok (.ifCond .eq 10, 3) := by decide +kernel
theorem dX2_lack_7 : decode cX2_lack 7 = .ok (.iload_n 2, 1) := by decide +kernel
theorem dX2_lack_8 : decode cX2_lack 8 = .ok (.invokestatic 108, 3) := by decide +kernel
theorem dX2_lack_11 : decode cX2_lack 11 = .ok (.ifCond .ne 13, 3) := by decide +kernel
theorem dX2_lack_14 : decode cX2_lack 14 = .ok (.new 80, 3) := by decide +kernel
theorem dX2_lack_17 : decode cX2_lack 17 = .ok (.dup, 1) := by decide +kernel
theorem dX2_lack_18 : decode cX2_lack 18 = .ok (.ldc 143, 2) := by decide +kernel
theorem dX2_lack_20 : decode cX2_lack 20 = .ok (.invokespecial 84, 3) := by decide +kernel
theorem dX2_lack_23 : decode cX2_lack 23 = .ok (.athrow, 1) := by decide +kernel
theorem dX2_lack_24 : decode cX2_lack 24 = .ok (.aload_n 0, 1) := by decide +kernel
theorem dX2_lack_25 : decode cX2_lack 25 = .ok (.iload_n 1, 1) := by decide +kernel
theorem dX2_lack_26 : decode cX2_lack 26 = .ok (.iload_n 2, 1) := by decide +kernel
theorem dX2_lack_27 : decode cX2_lack 27 = .ok (.invokevirtual 171, 3) := by decide +kernel
theorem dX2_lack_30 : decode cX2_lack 30 = .ok (.ireturn, 1) := by decide +kernel
set_option maxRecDepth 20000 in
theorem ggX2_penalty_X2_isParty : GoodIn wsX2_penalty wsX2_isParty := goodIn_r _ [6, 7, 8, 5, 9] (by decide +kernel) (by decide +kernel)
set_option maxRecDepth 20000 in
theorem gX2_penalty_X2_isParty : GoodIn wsX2_penalty (va_wsS RX2 76 yX2_isParty wsX2_isParty) := goodIn_app (goodIn_of _ (by decide +kernel)) ggX2_penalty_X2_isParty
set_option maxRecDepth 20000 in
theorem ggX2_penalty_X2_isYear : GoodIn wsX2_penalty wsX2_isYear := goodIn_r _ [12, 7, 8, 5, 9] (by decide +kernel) (by decide +kernel)
set_option maxRecDepth 20000 in
theorem gX2_penalty_X2_isYear : GoodIn wsX2_penalty (va_wsS RX2 108 yX2_isYear wsX2_isYear) := goodIn_app (goodIn_of _ (by decide +kernel)) ggX2_penalty_X2_isYear
set_option maxRecDepth 20000 in
theorem ggX2_penalty_X2_penaltyOf : GoodIn wsX2_penalty wsX2_penaltyOf := goodIn_r _ [16, 17, 18, 19, 20, 21, 22, 23, 24, 25, 26, 27, 28, 29, 30, 5, 31, 32, 33, 34, 35, 36, 37, 38, 39, 40, 41, 42, 43, 44, 45, 46, 47, 48, 49, 50] (by decide +kernel) (by decide +kernel)
set_option maxRecDepth 20000 in
theorem gX2_penalty_X2_penaltyOf : GoodIn wsX2_penalty (wsV RX2 174 RX2 yX2_penaltyOf wsX2_penaltyOf) := goodIn_app (goodIn_of _ (by decide +kernel)) ggX2_penalty_X2_penaltyOf
theorem dX2_penalty_0 : decode cX2_penalty 0 = .ok (.iload_n 1, 1) := by decide +kernel
theorem dX2_penalty_1 : decode cX2_penalty 1 = .ok (.invokestatic 76, 3) := by decide +kernel
theorem dX2_penalty_4 : decode cX2_penalty 4 = .ok (.ifCond .eq 10, 3) := by decide +kernel
theorem dX2_penalty_7 : decode cX2_penalty 7 = .ok (.iload_n 2, 1) := by decide +kernel
theorem dX2_penalty_8 : decode cX2_penalty 8 = .ok (.invokestatic 108, 3) := by decide +kernel
theorem dX2_penalty_11 : decode cX2_penalty 11 = .ok (.ifCond .ne 13, 3) := by decide +kernel
theorem dX2_penalty_14 : decode cX2_penalty 14 = .ok (.new 80, 3) := by decide +kernel
theorem dX2_penalty_17 : decode cX2_penalty 17 = .ok (.dup, 1) := by decide +kernel
theorem dX2_penalty_18 : decode cX2_penalty 18 = .ok (.ldc 143, 2) := by decide +kernel
theorem dX2_penalty_20 : decode cX2_penalty 20 = .ok (.invokespecial 84, 3) := by decide +kernel
theorem dX2_penalty_23 : decode cX2_penalty 23 = .ok (.athrow, 1) := by decide +kernel
theorem dX2_penalty_24 : decode cX2_penalty 24 = .ok (.aload_n 0, 1) := by decide +kernel
theorem dX2_penalty_25 : decode cX2_penalty 25 = .ok (.iload_n 1, 1) := by decide +kernel
theorem dX2_penalty_26 : decode cX2_penalty 26 = .ok (.iload_n 2, 1) := by decide +kernel
theorem dX2_penalty_27 : decode cX2_penalty 27 = .ok (.invokevirtual 174, 3) := by decide +kernel
theorem dX2_penalty_30 : decode cX2_penalty 30 = .ok (.ireturn, 1) := by decide +kernel
set_option maxRecDepth 20000 in
theorem ggX2_penalties_X2_penaltyOf : GoodIn wsX2_penalties wsX2_penaltyOf := goodIn_r _ [5, 6, 7, 8, 9, 10, 11, 12, 13, 14, 15, 16, 17, 18, 19, 4, 20, 21, 22, 23, 24, 25, 26, 27, 28, 29, 30, 31, 32, 33, 34, 35, 36, 37, 38, 39] (by decide +kernel) (by decide +kernel)
set_option maxRecDepth 20000 in
theorem gX2_penalties_X2_penaltyOf : GoodIn wsX2_penalties (wsV RX2 174 RX2 yX2_penaltyOf wsX2_penaltyOf) := goodIn_app (goodIn_of _ (by decide +kernel)) ggX2_penalties_X2_penaltyOf
theorem dX2_penalties_0 : decode cX2_penalties 0 = .ok (.lconst 0, 1) := by decide +kernel
theorem dX2_penalties_1 : decode cX2_penalties 1 = .ok (.lstore_n 1, 1) := by decide +kernel
theorem dX2_penalties_2 : decode cX2_penalties 2 = .ok (.iconst 0, 1) := by decide +kernel
theorem dX2_penalties_3 : decode cX2_penalties 3 = .ok (.istore_n 3, 1) := by decide +kernel
theorem dX2_penalties_4 : decode cX2_penalties 4 = .ok (.iload_n 3, 1) := by decide +kernel
theorem dX2_penalties_5 : decode cX2_penalties 5 = .ok (.iconst 5, 1) := by decide +kernel
theorem dX2_penalties_6 : decode cX2_penalties 6 = .ok (.if_icmp .ge 36, 3) := by decide +kernel
theorem dX2_penalties_9 : decode cX2_penalties 9 = .ok (.iconst 0, 1) := by decide +kernel
theorem dX2_penalties_10 : decode cX2_penalties 10 = .ok (.istore 4, 2) := by decide +kernel
theorem dX2_penalties_12 : decode cX2_penalties 12 = .ok (.iload 4, 2) := by decide +kernel
theorem dX2_penalties_14 : decode cX2_penalties 14 = .ok (.bipush 8, 2) := by decide +kernel
theorem dX2_penalties_16 : decode cX2_penalties 16 = .ok (.if_icmp .ge 20, 3) := by decide +kernel
theorem dX2_penalties_19 : decode cX2_penalties 19 = .ok (.lload_n 1, 1) := by decide +kernel
theorem dX2_penalties_20 : decode cX2_penalties 20 = .ok (.aload_n 0, 1) := by decide +kernel
theorem dX2_penalties_21 : decode cX2_penalties 21 = .ok (.iload_n 3, 1) := by decide +kernel
theorem dX2_penalties_22 : decode cX2_penalties 22 = .ok (.iload 4, 2) := by decide +kernel
theorem dX2_penalties_24 : decode cX2_penalties 24 = .ok (.invokevirtual 174, 3) := by decide +kernel
theorem dX2_penalties_27 : decode cX2_penalties 27 = .ok (.i2l, 1) := by decide +kernel
theorem dX2_penalties_28 : decode cX2_penalties 28 = .ok (.ladd, 1) := by decide +kernel
theorem dX2_penalties_29 : decode cX2_penalties 29 = .ok (.lstore_n 1, 1) := by decide +kernel
theorem dX2_penalties_30 : decode cX2_penalties 30 = .ok (.iinc 4 1, 3) := by decide +kernel
theorem dX2_penalties_33 : decode cX2_penalties 33 = .ok (.goto (-21), 3) := by decide +kernel
theorem dX2_penalties_36 : decode cX2_penalties 36 = .ok (.iinc 3 1, 3) := by decide +kernel
theorem dX2_penalties_39 : decode cX2_penalties 39 = .ok (.goto (-35), 3) := by decide +kernel
theorem dX2_penalties_42 : decode cX2_penalties 42 = .ok (.lload_n 1, 1) := by decide +kernel
theorem dX2_penalties_43 : decode cX2_penalties 43 = .ok (.lreturn, 1) := by decide +kernel
theorem dX2_isWithin_0 : decode cX2_isWithin 0 = .ok (.iload_n 0, 1) := by decide +kernel
theorem dX2_isWithin_1 : decode cX2_isWithin 1 = .ok (.iload_n 1, 1) := by decide +kernel
theorem dX2_isWithin_2 : decode cX2_isWithin 2 = .ok (.if_icmp .lt 12, 3) := by decide +kernel
theorem dX2_isWithin_5 : decode cX2_isWithin 5 = .ok (.iload_n 0, 1) := by decide +kernel
theorem dX2_isWithin_6 : decode cX2_isWithin 6 = .ok (.iload_n 2, 1) := by decide +kernel
theorem dX2_isWithin_7 : decode cX2_isWithin 7 = .ok (.if_icmp .gt 7, 3) := by decide +kernel
theorem dX2_isWithin_10 : decode cX2_isWithin 10 = .ok (.iconst 1, 1) := by decide +kernel
theorem dX2_isWithin_11 : decode cX2_isWithin 11 = .ok (.goto 4, 3) := by decide +kernel
theorem dX2_isWithin_14 : decode cX2_isWithin 14 = .ok (.iconst 0, 1) := by decide +kernel
theorem dX2_isWithin_15 : decode cX2_isWithin 15 = .ok (.ireturn, 1) := by decide +kernel
set_option maxRecDepth 20000 in
theorem ggX2_isParty_X2_isWithin : GoodIn wsX2_isParty wsX2_isWithin := goodIn_r _ [4] (by decide +kernel) (by decide +kernel)
set_option maxRecDepth 20000 in
theorem gX2_isParty_X2_isWithin : GoodIn wsX2_isParty (va_wsS RX2 50 yX2_isWithin wsX2_isWithin) := goodIn_app (goodIn_of _ (by decide +kernel)) ggX2_isParty_X2_isWithin
theorem dX2_isParty_0 : decode cX2_isParty 0 = .ok (.iload_n 0, 1) := by decide +kernel
theorem dX2_isParty_1 : decode cX2_isParty 1 = .ok (.iconst 0, 1) := by decide +kernel
theorem dX2_isParty_2 : decode cX2_isParty 2 = .ok (.iconst 4, 1) := by decide +kernel
theorem dX2_isParty_3 : decode cX2_isParty 3 = .ok (.invokestatic 50, 3) := by decide +kernel
theorem dX2_isParty_6 : decode cX2_isParty 6 = .ok (.ireturn, 1) := by decide +kernel
set_option maxRecDepth 20000 in
theorem ggX2_isYear_X2_isWithin : GoodIn wsX2_isYear wsX2_isWithin := goodIn_r _ [4] (by decide +kernel) (by decide +kernel)
set_option maxRecDepth 20000 in
theorem gX2_isYear_X2_isWithin : GoodIn wsX2_isYear (va_wsS RX2 50 yX2_isWithin wsX2_isWithin) := goodIn_app (goodIn_of _ (by decide +kernel)) ggX2_isYear_X2_isWithin
theorem dX2_isYear_0 : decode cX2_isYear 0 = .ok (.iload_n 0, 1) := by decide +kernel
theorem dX2_isYear_1 : decode cX2_isYear 1 = .ok (.iconst 0, 1) := by decide +kernel
theorem dX2_isYear_2 : decode cX2_isYear 2 = .ok (.bipush 7, 2) := by decide +kernel
theorem dX2_isYear_4 : decode cX2_isYear 4 = .ok (.invokestatic 50, 3) := by decide +kernel
theorem dX2_isYear_7 : decode cX2_isYear 7 = .ok (.ireturn, 1) := by decide +kernel
set_option maxRecDepth 20000 in
theorem ggX2_isHour_X2_isWithin : GoodIn wsX2_isHour wsX2_isWithin := goodIn_r _ [4] (by decide +kernel) (by decide +kernel)
set_option maxRecDepth 20000 in
theorem gX2_isHour_X2_isWithin : GoodIn wsX2_isHour (va_wsS RX2 50 yX2_isWithin wsX2_isWithin) := goodIn_app (goodIn_of _ (by decide +kernel)) ggX2_isHour_X2_isWithin
theorem dX2_isHour_0 : decode cX2_isHour 0 = .ok (.iload_n 0, 1) := by decide +kernel
theorem dX2_isHour_1 : decode cX2_isHour 1 = .ok (.iconst 0, 1) := by decide +kernel
theorem dX2_isHour_2 : decode cX2_isHour 2 = .ok (.bipush 11, 2) := by decide +kernel
theorem dX2_isHour_4 : decode cX2_isHour 4 = .ok (.invokestatic 50, 3) := by decide +kernel
theorem dX2_isHour_7 : decode cX2_isHour 7 = .ok (.ireturn, 1) := by decide +kernel
theorem dX2_yearCell_0 : decode cX2_yearCell 0 = .ok (.iload_n 0, 1) := by decide +kernel
theorem dX2_yearCell_1 : decode cX2_yearCell 1 = .ok (.bipush 8, 2) := by decide +kernel
theorem dX2_yearCell_3 : decode cX2_yearCell 3 = .ok (.imul, 1) := by decide +kernel
theorem dX2_yearCell_4 : decode cX2_yearCell 4 = .ok (.iload_n 1, 1) := by decide +kernel
theorem dX2_yearCell_5 : decode cX2_yearCell 5 = .ok (.iadd, 1) := by decide +kernel
theorem dX2_yearCell_6 : decode cX2_yearCell 6 = .ok (.ireturn, 1) := by decide +kernel
set_option maxRecDepth 20000 in
theorem ggX2_hourCell_X2_yearCell : GoodIn wsX2_hourCell wsX2_yearCell := goodIn_r _ [4] (by decide +kernel) (by decide +kernel)
set_option maxRecDepth 20000 in
theorem gX2_hourCell_X2_yearCell : GoodIn wsX2_hourCell (va_wsS RX2 145 yX2_yearCell wsX2_yearCell) := goodIn_app (goodIn_of _ (by decide +kernel)) ggX2_hourCell_X2_yearCell
theorem dX2_hourCell_0 : decode cX2_hourCell 0 = .ok (.iload_n 0, 1) := by decide +kernel
theorem dX2_hourCell_1 : decode cX2_hourCell 1 = .ok (.iload_n 1, 1) := by decide +kernel
theorem dX2_hourCell_2 : decode cX2_hourCell 2 = .ok (.invokestatic 145, 3) := by decide +kernel
theorem dX2_hourCell_5 : decode cX2_hourCell 5 = .ok (.bipush 12, 2) := by decide +kernel
theorem dX2_hourCell_7 : decode cX2_hourCell 7 = .ok (.imul, 1) := by decide +kernel
theorem dX2_hourCell_8 : decode cX2_hourCell 8 = .ok (.iload_n 2, 1) := by decide +kernel
theorem dX2_hourCell_9 : decode cX2_hourCell 9 = .ok (.iadd, 1) := by decide +kernel
theorem dX2_hourCell_10 : decode cX2_hourCell 10 = .ok (.ireturn, 1) := by decide +kernel
set_option maxRecDepth 20000 in
theorem ggX2_take_X2_yearCell : GoodIn wsX2_take wsX2_yearCell := goodIn_r _ [15] (by decide +kernel) (by decide +kernel)
set_option maxRecDepth 20000 in
theorem gX2_take_X2_yearCell : GoodIn wsX2_take (va_wsS RX2 145 yX2_yearCell wsX2_yearCell) := goodIn_app (goodIn_of _ (by decide +kernel)) ggX2_take_X2_yearCell
set_option maxRecDepth 20000 in
theorem ggX2_take_X2_hourCell : GoodIn wsX2_take wsX2_hourCell := goodIn_r _ [18, 12, 13, 14, 15] (by decide +kernel) (by decide +kernel)
set_option maxRecDepth 20000 in
theorem gX2_take_X2_hourCell : GoodIn wsX2_take (va_wsS RX2 154 yX2_hourCell wsX2_hourCell) := goodIn_app (goodIn_of _ (by decide +kernel)) ggX2_take_X2_hourCell
theorem dX2_take_0 : decode cX2_take 0 = .ok (.aload_n 0, 1) := by decide +kernel
theorem dX2_take_1 : decode cX2_take 1 = .ok (.getfield 19, 3) := by decide +kernel
theorem dX2_take_4 : decode cX2_take 4 = .ok (.getfield 177, 3) := by decide +kernel
theorem dX2_take_7 : decode cX2_take 7 = .ok (.iload_n 1, 1) := by decide +kernel
theorem dX2_take_8 : decode cX2_take 8 = .ok (.iaload, 1) := by decide +kernel
theorem dX2_take_9 : decode cX2_take 9 = .ok (.istore 4, 2) := by decide +kernel
theorem dX2_take_11 : decode cX2_take 11 = .ok (.aload_n 0, 1) := by decide +kernel
theorem dX2_take_12 : decode cX2_take 12 = .ok (.getfield 19, 3) := by decide +kernel
theorem dX2_take_15 : decode cX2_take 15 = .ok (.getfield 180, 3) := by decide +kernel
theorem dX2_take_18 : decode cX2_take 18 = .ok (.iload_n 1, 1) := by decide +kernel
theorem dX2_take_19 : decode cX2_take 19 = .ok (.iaload, 1) := by decide +kernel
theorem dX2_take_20 : decode cX2_take 20 = .ok (.istore 5, 2) := by decide +kernel
theorem dX2_take_22 : decode cX2_take 22 = .ok (.iload_n 2, 1) := by decide +kernel
theorem dX2_take_23 : decode cX2_take 23 = .ok (.aload_n 0, 1) := by decide +kernel
theorem dX2_take_24 : decode cX2_take 24 = .ok (.getfield 19, 3) := by decide +kernel
theorem dX2_take_27 : decode cX2_take 27 = .ok (.getfield 183, 3) := by decide +kernel
theorem dX2_take_30 : decode cX2_take 30 = .ok (.iload_n 1, 1) := by decide +kernel
theorem dX2_take_31 : decode cX2_take 31 = .ok (.iaload, 1) := by decide +kernel
theorem dX2_take_32 : decode cX2_take 32 = .ok (.iadd, 1) := by decide +kernel
theorem dX2_take_33 : decode cX2_take 33 = .ok (.bipush 8, 2) := by decide +kernel
theorem dX2_take_35 : decode cX2_take 35 = .ok (.invokestatic 186, 3) := by decide +kernel
theorem dX2_take_38 : decode cX2_take 38 = .ok (.istore 6, 2) := by decide +kernel
theorem dX2_take_40 : decode cX2_take 40 = .ok (.iload_n 2, 1) := by decide +kernel
theorem dX2_take_41 : decode cX2_take 41 = .ok (.istore 7, 2) := by decide +kernel
theorem dX2_take_43 : decode cX2_take 43 = .ok (.iload 7, 2) := by decide +kernel
theorem dX2_take_45 : decode cX2_take 45 = .ok (.iload 6, 2) := by decide +kernel
theorem dX2_take_47 : decode cX2_take 47 = .ok (.if_icmp .ge 75, 3) := by decide +kernel
theorem dX2_take_50 : decode cX2_take 50 = .ok (.aload_n 0, 1) := by decide +kernel
theorem dX2_take_51 : decode cX2_take 51 = .ok (.getfield 23, 3) := by decide +kernel
theorem dX2_take_54 : decode cX2_take 54 = .ok (.iload 7, 2) := by decide +kernel
theorem dX2_take_56 : decode cX2_take 56 = .ok (.dup2, 1) := by decide +kernel
theorem dX2_take_57 : decode cX2_take 57 = .ok (.iaload, 1) := by decide +kernel
theorem dX2_take_58 : decode cX2_take 58 = .ok (.iload 5, 2) := by decide +kernel
theorem dX2_take_60 : decode cX2_take 60 = .ok (.iadd, 1) := by decide +kernel
theorem dX2_take_61 : decode cX2_take 61 = .ok (.iastore, 1) := by decide +kernel
theorem dX2_take_62 : decode cX2_take 62 = .ok (.aload_n 0, 1) := by decide +kernel
theorem dX2_take_63 : decode cX2_take 63 = .ok (.getfield 27, 3) := by decide +kernel
theorem dX2_take_66 : decode cX2_take 66 = .ok (.iload 4, 2) := by decide +kernel
theorem dX2_take_68 : decode cX2_take 68 = .ok (.iload 7, 2) := by decide +kernel
theorem dX2_take_70 : decode cX2_take 70 = .ok (.invokestatic 145, 3) := by decide +kernel
theorem dX2_take_73 : decode cX2_take 73 = .ok (.dup2, 1) := by decide +kernel
theorem dX2_take_74 : decode cX2_take 74 = .ok (.iaload, 1) := by decide +kernel
theorem dX2_take_75 : decode cX2_take 75 = .ok (.iload 5, 2) := by decide +kernel
theorem dX2_take_77 : decode cX2_take 77 = .ok (.iload_n 3, 1) := by decide +kernel
theorem dX2_take_78 : decode cX2_take 78 = .ok (.imul, 1) := by decide +kernel
theorem dX2_take_79 : decode cX2_take 79 = .ok (.iadd, 1) := by decide +kernel
theorem dX2_take_80 : decode cX2_take 80 = .ok (.iastore, 1) := by decide +kernel
theorem dX2_take_81 : decode cX2_take 81 = .ok (.iconst 0, 1) := by decide +kernel
theorem dX2_take_82 : decode cX2_take 82 = .ok (.istore 8, 2) := by decide +kernel
theorem dX2_take_84 : decode cX2_take 84 = .ok (.iload 8, 2) := by decide +kernel
theorem dX2_take_86 : decode cX2_take 86 = .ok (.bipush 12, 2) := by decide +kernel
theorem dX2_take_88 : decode cX2_take 88 = .ok (.if_icmp .ge 28, 3) := by decide +kernel
theorem dX2_take_91 : decode cX2_take 91 = .ok (.aload_n 0, 1) := by decide +kernel
theorem dX2_take_92 : decode cX2_take 92 = .ok (.getfield 30, 3) := by decide +kernel
theorem dX2_take_95 : decode cX2_take 95 = .ok (.iload 4, 2) := by decide +kernel
theorem dX2_take_97 : decode cX2_take 97 = .ok (.iload 7, 2) := by decide +kernel
theorem dX2_take_99 : decode cX2_take 99 = .ok (.iload 8, 2) := by decide +kernel
theorem dX2_take_101 : decode cX2_take 101 = .ok (.invokestatic 154, 3) := by decide +kernel
theorem dX2_take_104 : decode cX2_take 104 = .ok (.dup2, 1) := by decide +kernel
theorem dX2_take_105 : decode cX2_take 105 = .ok (.iaload, 1) := by decide +kernel
theorem dX2_take_106 : decode cX2_take 106 = .ok (.iload 5, 2) := by decide +kernel
theorem dX2_take_108 : decode cX2_take 108 = .ok (.iadd, 1) := by decide +kernel
theorem dX2_take_109 : decode cX2_take 109 = .ok (.iastore, 1) := by decide +kernel
theorem dX2_take_110 : decode cX2_take 110 = .ok (.iinc 8 1, 3) := by decide +kernel
theorem dX2_take_113 : decode cX2_take 113 = .ok (.goto (-29), 3) := by decide +kernel
theorem dX2_take_116 : decode cX2_take 116 = .ok (.iinc 7 1, 3) := by decide +kernel
theorem dX2_take_119 : decode cX2_take 119 = .ok (.goto (-76), 3) := by decide +kernel
theorem dX2_take_122 : decode cX2_take 122 = .ok (.return_, 1) := by decide +kernel
set_option maxRecDepth 20000 in
theorem ggX2_leastObligation_X2_hourCell : GoodIn wsX2_leastObligation wsX2_hourCell := goodIn_r _ [9, 10, 11, 8, 12] (by decide +kernel) (by decide +kernel)
set_option maxRecDepth 20000 in
theorem gX2_leastObligation_X2_hourCell : GoodIn wsX2_leastObligation (va_wsS RX2 154 yX2_hourCell wsX2_hourCell) := goodIn_app (goodIn_of _ (by decide +kernel)) ggX2_leastObligation_X2_hourCell
theorem dX2_leastObligation_0 : decode cX2_leastObligation 0 = .ok (.aload_n 0, 1) := by decide +kernel
theorem dX2_leastObligation_1 : decode cX2_leastObligation 1 = .ok (.getfield 30, 3) := by decide +kernel
theorem dX2_leastObligation_4 : decode cX2_leastObligation 4 = .ok (.iload_n 1, 1) := by decide +kernel
theorem dX2_leastObligation_5 : decode cX2_leastObligation 5 = .ok (.iload_n 2, 1) := by decide +kernel
theorem dX2_leastObligation_6 : decode cX2_leastObligation 6 = .ok (.iload_n 3, 1) := by decide +kernel
theorem dX2_leastObligation_7 : decode cX2_leastObligation 7 = .ok (.invokestatic 154, 3) := by decide +kernel
theorem dX2_leastObligation_10 : decode cX2_leastObligation 10 = .ok (.iaload, 1) := by decide +kernel
theorem dX2_leastObligation_11 : decode cX2_leastObligation 11 = .ok (.istore 5, 2) := by decide +kernel
theorem dX2_leastObligation_13 : decode cX2_leastObligation 13 = .ok (.iload_n 3, 1) := by decide +kernel
theorem dX2_leastObligation_14 : decode cX2_leastObligation 14 = .ok (.iconst 1, 1) := by decide +kernel
theorem dX2_leastObligation_15 : decode cX2_leastObligation 15 = .ok (.iadd, 1) := by decide +kernel
theorem dX2_leastObligation_16 : decode cX2_leastObligation 16 = .ok (.istore 6, 2) := by decide +kernel
theorem dX2_leastObligation_18 : decode cX2_leastObligation 18 = .ok (.iload 6, 2) := by decide +kernel
theorem dX2_leastObligation_20 : decode cX2_leastObligation 20 = .ok (.iload 4, 2) := by decide +kernel
theorem dX2_leastObligation_22 : decode cX2_leastObligation 22 = .ok (.if_icmp .gt 28, 3) := by decide +kernel
theorem dX2_leastObligation_25 : decode cX2_leastObligation 25 = .ok (.iload 5, 2) := by decide +kernel
theorem dX2_leastObligation_27 : decode cX2_leastObligation 27 = .ok (.aload_n 0, 1) := by decide +kernel
theorem dX2_leastObligation_28 : decode cX2_leastObligation 28 = .ok (.getfield 30, 3) := by decide +kernel
theorem dX2_leastObligation_31 : decode cX2_leastObligation 31 = .ok (.iload_n 1, 1) := by decide +kernel
theorem dX2_leastObligation_32 : decode cX2_leastObligation 32 = .ok (.iload_n 2, 1) := by decide +kernel
theorem dX2_leastObligation_33 : decode cX2_leastObligation 33 = .ok (.iload 6, 2) := by decide +kernel
theorem dX2_leastObligation_35 : decode cX2_leastObligation 35 = .ok (.invokestatic 154, 3) := by decide +kernel
theorem dX2_leastObligation_38 : decode cX2_leastObligation 38 = .ok (.iaload, 1) := by decide +kernel
theorem dX2_leastObligation_39 : decode cX2_leastObligation 39 = .ok (.invokestatic 186, 3) := by decide +kernel
theorem dX2_leastObligation_42 : decode cX2_leastObligation 42 = .ok (.istore 5, 2) := by decide +kernel
theorem dX2_leastObligation_44 : decode cX2_leastObligation 44 = .ok (.iinc 6 1, 3) := by decide +kernel
theorem dX2_leastObligation_47 : decode cX2_leastObligation 47 = .ok (.goto (-29), 3) := by decide +kernel
theorem dX2_leastObligation_50 : decode cX2_leastObligation 50 = .ok (.iload 5, 2) := by decide +kernel
theorem dX2_leastObligation_52 : decode cX2_leastObligation 52 = .ok (.ireturn, 1) := by decide +kernel
set_option maxRecDepth 20000 in
theorem ggX2_lackOf_X2_hourCell : GoodIn wsX2_lackOf wsX2_hourCell := goodIn_r _ [7, 8, 9, 6, 10] (by decide +kernel) (by decide +kernel)
set_option maxRecDepth 20000 in
theorem gX2_lackOf_X2_hourCell : GoodIn wsX2_lackOf (va_wsS RX2 154 yX2_hourCell wsX2_hourCell) := goodIn_app (goodIn_of _ (by decide +kernel)) ggX2_lackOf_X2_hourCell
theorem dX2_lackOf_0 : decode cX2_lackOf 0 = .ok (.iconst 0, 1) := by decide +kernel
theorem dX2_lackOf_1 : decode cX2_lackOf 1 = .ok (.istore_n 3, 1) := by decide +kernel
theorem dX2_lackOf_2 : decode cX2_lackOf 2 = .ok (.iconst 0, 1) := by decide +kernel
theorem dX2_lackOf_3 : decode cX2_lackOf 3 = .ok (.istore 4, 2) := by decide +kernel
theorem dX2_lackOf_5 : decode cX2_lackOf 5 = .ok (.iload 4, 2) := by decide +kernel
theorem dX2_lackOf_7 : decode cX2_lackOf 7 = .ok (.bipush 12, 2) := by decide +kernel
theorem dX2_lackOf_9 : decode cX2_lackOf 9 = .ok (.if_icmp .ge 51, 3) := by decide +kernel
theorem dX2_lackOf_12 : decode cX2_lackOf 12 = .ok (.aload_n 0, 1) := by decide +kernel
theorem dX2_lackOf_13 : decode cX2_lackOf 13 = .ok (.getfield 36, 3) := by decide +kernel
theorem dX2_lackOf_16 : decode cX2_lackOf 16 = .ok (.iload_n 2, 1) := by decide +kernel
theorem dX2_lackOf_17 : decode cX2_lackOf 17 = .ok (.bipush 12, 2) := by decide +kernel
theorem dX2_lackOf_19 : decode cX2_lackOf 19 = .ok (.imul, 1) := by decide +kernel
theorem dX2_lackOf_20 : decode cX2_lackOf 20 = .ok (.iload 4, 2) := by decide +kernel
theorem dX2_lackOf_22 : decode cX2_lackOf 22 = .ok (.iadd, 1) := by decide +kernel
theorem dX2_lackOf_23 : decode cX2_lackOf 23 = .ok (.baload, 1) := by decide +kernel
theorem dX2_lackOf_24 : decode cX2_lackOf 24 = .ok (.ifCond .eq 30, 3) := by decide +kernel
theorem dX2_lackOf_27 : decode cX2_lackOf 27 = .ok (.iload_n 1, 1) := by decide +kernel
theorem dX2_lackOf_28 : decode cX2_lackOf 28 = .ok (.iload_n 2, 1) := by decide +kernel
theorem dX2_lackOf_29 : decode cX2_lackOf 29 = .ok (.iload 4, 2) := by decide +kernel
theorem dX2_lackOf_31 : decode cX2_lackOf 31 = .ok (.invokestatic 154, 3) := by decide +kernel
theorem dX2_lackOf_34 : decode cX2_lackOf 34 = .ok (.istore 5, 2) := by decide +kernel
theorem dX2_lackOf_36 : decode cX2_lackOf 36 = .ok (.iload_n 3, 1) := by decide +kernel
theorem dX2_lackOf_37 : decode cX2_lackOf 37 = .ok (.aload_n 0, 1) := by decide +kernel
theorem dX2_lackOf_38 : decode cX2_lackOf 38 = .ok (.getfield 30, 3) := by decide +kernel
theorem dX2_lackOf_41 : decode cX2_lackOf 41 = .ok (.iload 5, 2) := by decide +kernel
theorem dX2_lackOf_43 : decode cX2_lackOf 43 = .ok (.iaload, 1) := by decide +kernel
theorem dX2_lackOf_44 : decode cX2_lackOf 44 = .ok (.aload_n 0, 1) := by decide +kernel
theorem dX2_lackOf_45 : decode cX2_lackOf 45 = .ok (.getfield 33, 3) := by decide +kernel
theorem dX2_lackOf_48 : decode cX2_lackOf 48 = .ok (.iload 5, 2) := by decide +kernel
theorem dX2_lackOf_50 : decode cX2_lackOf 50 = .ok (.iaload, 1) := by decide +kernel
theorem dX2_lackOf_51 : decode cX2_lackOf 51 = .ok (.isub, 1) := by decide +kernel
theorem dX2_lackOf_52 : decode cX2_lackOf 52 = .ok (.iadd, 1) := by decide +kernel
theorem dX2_lackOf_53 : decode cX2_lackOf 53 = .ok (.istore_n 3, 1) := by decide +kernel
theorem dX2_lackOf_54 : decode cX2_lackOf 54 = .ok (.iinc 4 1, 3) := by decide +kernel
theorem dX2_lackOf_57 : decode cX2_lackOf 57 = .ok (.goto (-52), 3) := by decide +kernel
theorem dX2_lackOf_60 : decode cX2_lackOf 60 = .ok (.iload_n 3, 1) := by decide +kernel
theorem dX2_lackOf_61 : decode cX2_lackOf 61 = .ok (.ireturn, 1) := by decide +kernel
set_option maxRecDepth 20000 in
theorem ggX2_penaltyOf_X2_lackOf : GoodIn wsX2_penaltyOf wsX2_lackOf := goodIn_r _ [16, 17, 18, 19, 20, 21, 15, 22, 23, 24, 25, 26, 27, 28, 29, 30, 31, 32, 33, 34, 35] (by decide +kernel) (by decide +kernel)
set_option maxRecDepth 20000 in
theorem gX2_penaltyOf_X2_lackOf : GoodIn wsX2_penaltyOf (wsV RX2 171 RX2 yX2_lackOf wsX2_lackOf) := goodIn_app (goodIn_of _ (by decide +kernel)) ggX2_penaltyOf_X2_lackOf
set_option maxRecDepth 20000 in
theorem ggX2_penaltyOf_X2_yearCell : GoodIn wsX2_penaltyOf wsX2_yearCell := goodIn_r _ [25] (by decide +kernel) (by decide +kernel)
set_option maxRecDepth 20000 in
theorem gX2_penaltyOf_X2_yearCell : GoodIn wsX2_penaltyOf (va_wsS RX2 145 yX2_yearCell wsX2_yearCell) := goodIn_app (goodIn_of _ (by decide +kernel)) ggX2_penaltyOf_X2_yearCell
theorem dX2_penaltyOf_0 : decode cX2_penaltyOf 0 = .ok (.aload_n 0, 1) := by decide +kernel
theorem dX2_penaltyOf_1 : decode cX2_penaltyOf 1 = .ok (.iload_n 1, 1) := by decide +kernel
theorem dX2_penaltyOf_2 : decode cX2_penaltyOf 2 = .ok (.iload_n 2, 1) := by decide +kernel
theorem dX2_penaltyOf_3 : decode cX2_penaltyOf 3 = .ok (.invokevirtual 171, 3) := by decide +kernel
theorem dX2_penaltyOf_6 : decode cX2_penaltyOf 6 = .ok (.i2l, 1) := by decide +kernel
theorem dX2_penaltyOf_7 : decode cX2_penaltyOf 7 = .ok (.aload_n 0, 1) := by decide +kernel
theorem dX2_penaltyOf_8 : decode cX2_penaltyOf 8 = .ok (.getfield 44, 3) := by decide +kernel
theorem dX2_penaltyOf_11 : decode cX2_penaltyOf 11 = .ok (.i2l, 1) := by decide +kernel
theorem dX2_penaltyOf_12 : decode cX2_penaltyOf 12 = .ok (.lmul, 1) := by decide +kernel
theorem dX2_penaltyOf_13 : decode cX2_penaltyOf 13 = .ok (.lstore_n 3, 1) := by decide +kernel
theorem dX2_penaltyOf_14 : decode cX2_penaltyOf 14 = .ok (.aload_n 0, 1) := by decide +kernel
theorem dX2_penaltyOf_15 : decode cX2_penaltyOf 15 = .ok (.getfield 27, 3) := by decide +kernel
theorem dX2_penaltyOf_18 : decode cX2_penaltyOf 18 = .ok (.iload_n 1, 1) := by decide +kernel
theorem dX2_penaltyOf_19 : decode cX2_penaltyOf 19 = .ok (.iload_n 2, 1) := by decide +kernel
theorem dX2_penaltyOf_20 : decode cX2_penaltyOf 20 = .ok (.invokestatic 145, 3) := by decide +kernel
theorem dX2_penaltyOf_23 : decode cX2_penaltyOf 23 = .ok (.iaload, 1) := by decide +kernel
theorem dX2_penaltyOf_24 : decode cX2_penaltyOf 24 = .ok (.i2l, 1) := by decide +kernel
theorem dX2_penaltyOf_25 : decode cX2_penaltyOf 25 = .ok (.aload_n 0, 1) := by decide +kernel
theorem dX2_penaltyOf_26 : decode cX2_penaltyOf 26 = .ok (.getfield 47, 3) := by decide +kernel
theorem dX2_penaltyOf_29 : decode cX2_penaltyOf 29 = .ok (.i2l, 1) := by decide +kernel
theorem dX2_penaltyOf_30 : decode cX2_penaltyOf 30 = .ok (.lmul, 1) := by decide +kernel
theorem dX2_penaltyOf_31 : decode cX2_penaltyOf 31 = .ok (.ldc2_w 191, 3) := by decide +kernel
theorem dX2_penaltyOf_34 : decode cX2_penaltyOf 34 = .ok (.ldiv, 1) := by decide +kernel
theorem dX2_penaltyOf_35 : decode cX2_penaltyOf 35 = .ok (.lstore 5, 2) := by decide +kernel
theorem dX2_penaltyOf_37 : decode cX2_penaltyOf 37 = .ok (.lconst 0, 1) := by decide +kernel
theorem dX2_penaltyOf_38 : decode cX2_penaltyOf 38 = .ok (.lload_n 3, 1) := by decide +kernel
theorem dX2_penaltyOf_39 : decode cX2_penaltyOf 39 = .ok (.lload 5, 2) := by decide +kernel
theorem dX2_penaltyOf_41 : decode cX2_penaltyOf 41 = .ok (.invokestatic 193, 3) := by decide +kernel
theorem dX2_penaltyOf_44 : decode cX2_penaltyOf 44 = .ok (.invokestatic 196, 3) := by decide +kernel
theorem dX2_penaltyOf_47 : decode cX2_penaltyOf 47 = .ok (.l2i, 1) := by decide +kernel
theorem dX2_penaltyOf_48 : decode cX2_penaltyOf 48 = .ok (.ireturn, 1) := by decide +kernel
end
section
theorem dX3_init_0 : decode cX3_init 0 = .ok (.aload_n 0, 1) := by decide +kernel
theorem dX3_init_1 : decode cX3_init 1 = .ok (.invokespecial 1, 3) := by decide +kernel
theorem dX3_init_4 : decode cX3_init 4 = .ok (.aload_n 0, 1) := by decide +kernel
theorem dX3_init_5 : decode cX3_init 5 = .ok (.bipush 100, 2) := by decide +kernel
theorem dX3_init_7 : decode cX3_init 7 = .ok (.putfield 7, 3) := by decide +kernel
theorem dX3_init_10 : decode cX3_init 10 = .ok (.aload_n 0, 1) := by decide +kernel
theorem dX3_init_11 : decode cX3_init 11 = .ok (.sipush 200, 3) := by decide +kernel
theorem dX3_init_14 : decode cX3_init 14 = .ok (.putfield 13, 3) := by decide +kernel
theorem dX3_init_17 : decode cX3_init 17 = .ok (.aload_n 0, 1) := by decide +kernel
theorem dX3_init_18 : decode cX3_init 18 = .ok (.bipush 50, 2) := by decide +kernel
theorem dX3_init_20 : decode cX3_init 20 = .ok (.putfield 16, 3) := by decide +kernel
theorem dX3_init_23 : decode cX3_init 23 = .ok (.aload_n 0, 1) := by decide +kernel
theorem dX3_init_24 : decode cX3_init 24 = .ok (.bipush 12, 2) := by decide +kernel
theorem dX3_init_26 : decode cX3_init 26 = .ok (.newarray .int, 2) := by decide +kernel
theorem dX3_init_28 : decode cX3_init 28 = .ok (.putfield 19, 3) := by decide +kernel
theorem dX3_init_31 : decode cX3_init 31 = .ok (.aload_n 0, 1) := by decide +kernel
theorem dX3_init_32 : decode cX3_init 32 = .ok (.bipush 12, 2) := by decide +kernel
theorem dX3_init_34 : decode cX3_init 34 = .ok (.newarray .int, 2) := by decide +kernel
theorem dX3_init_36 : decode cX3_init 36 = .ok (.putfield 23, 3) := by decide +kernel
theorem dX3_init_39 : decode cX3_init 39 = .ok (.aload_n 0, 1) := by decide +kernel
theorem dX3_init_40 : decode cX3_init 40 = .ok (.bipush 12, 2) := by decide +kernel
theorem dX3_init_42 : decode cX3_init 42 = .ok (.newarray .int, 2) := by decide +kernel
theorem dX3_init_44 : decode cX3_init 44 = .ok (.putfield 26, 3) := by decide +kernel
theorem dX3_init_47 : decode cX3_init 47 = .ok (.aload_n 0, 1) := by decide +kernel
theorem dX3_init_48 : decode cX3_init 48 = .ok (.bipush 12, 2) := by decide +kernel
theorem dX3_init_50 : decode cX3_init 50 = .ok (.newarray .int, 2) := by decide +kernel
theorem dX3_init_52 : decode cX3_init 52 = .ok (.putfield 29, 3) := by decide +kernel
theorem dX3_init_55 : decode cX3_init 55 = .ok (.aload_n 0, 1) := by decide +kernel
theorem dX3_init_56 : decode cX3_init 56 = .ok (.bipush 8, 2) := by decide +kernel
theorem dX3_init_58 : decode cX3_init 58 = .ok (.newarray .int, 2) := by decide +kernel
theorem dX3_init_60 : decode cX3_init 60 = .ok (.putfield 32, 3) := by decide +kernel
theorem dX3_init_63 : decode cX3_init 63 = .ok (.aload_n 0, 1) := by decide +kernel
theorem dX3_init_64 : decode cX3_init 64 = .ok (.bipush 40, 2) := by decide +kernel
theorem dX3_init_66 : decode cX3_init 66 = .ok (.newarray .int, 2) := by decide +kernel
theorem dX3_init_68 : decode cX3_init 68 = .ok (.putfield 35, 3) := by decide +kernel
theorem dX3_init_71 : decode cX3_init 71 = .ok (.aload_n 0, 1) := by decide +kernel
theorem dX3_init_72 : decode cX3_init 72 = .ok (.sipush 480, 3) := by decide +kernel
theorem dX3_init_75 : decode cX3_init 75 = .ok (.newarray .int, 2) := by decide +kernel
theorem dX3_init_77 : decode cX3_init 77 = .ok (.putfield 38, 3) := by decide +kernel
theorem dX3_init_80 : decode cX3_init 80 = .ok (.aload_n 0, 1) := by decide +kernel
theorem dX3_init_81 : decode cX3_init 81 = .ok (.sipush 480, 3) := by decide +kernel
theorem dX3_init_84 : decode cX3_init 84 = .ok (.newarray .int, 2) := by decide +kernel
theorem dX3_init_86 : decode cX3_init 86 = .ok (.putfield 41, 3) := by decide +kernel
theorem dX3_init_89 : decode cX3_init 89 = .ok (.aload_n 0, 1) := by decide +kernel
theorem dX3_init_90 : decode cX3_init 90 = .ok (.bipush 96, 2) := by decide +kernel
theorem dX3_init_92 : decode cX3_init 92 = .ok (.newarray .boolean, 2) := by decide +kernel
theorem dX3_init_94 : decode cX3_init 94 = .ok (.putfield 44, 3) := by decide +kernel
theorem dX3_init_97 : decode cX3_init 97 = .ok (.aload_n 0, 1) := by decide +kernel
theorem dX3_init_98 : decode cX3_init 98 = .ok (.bipush 20, 2) := by decide +kernel
theorem dX3_init_100 : decode cX3_init 100 = .ok (.putfield 48, 3) := by decide +kernel
theorem dX3_init_103 : decode cX3_init 103 = .ok (.aload_n 0, 1) := by decide +kernel
theorem dX3_init_104 : decode cX3_init 104 = .ok (.bipush 50, 2) := by decide +kernel
theorem dX3_init_106 : decode cX3_init 106 = .ok (.putfield 51, 3) := by decide +kernel
theorem dX3_init_109 : decode cX3_init 109 = .ok (.return_, 1) := by decide +kernel
theorem dX3_thrown_0 : decode cX3_thrown 0 = .ok (.aload_n 0, 1) := by decide +kernel
theorem dX3_thrown_1 : decode cX3_thrown 1 = .ok (.getfield 54, 3) := by decide +kernel
theorem dX3_thrown_4 : decode cX3_thrown 4 = .ok (.ireturn, 1) := by decide +kernel
theorem dX3_goes_0 : decode cX3_goes 0 = .ok (.aload_n 0, 1) := by decide +kernel
theorem dX3_goes_1 : decode cX3_goes 1 = .ok (.iload_n 1, 1) := by decide +kernel
theorem dX3_goes_2 : decode cX3_goes 2 = .ok (.ifCond .ne 7, 3) := by decide +kernel
theorem dX3_goes_5 : decode cX3_goes 5 = .ok (.iconst 1, 1) := by decide +kernel
theorem dX3_goes_6 : decode cX3_goes 6 = .ok (.goto 20, 3) := by decide +kernel
theorem dX3_goes_9 : decode cX3_goes 9 = .ok (.iload_n 2, 1) := by decide +kernel
theorem dX3_goes_10 : decode cX3_goes 10 = .ok (.ifCond .ne 7, 3) := by decide +kernel
theorem dX3_goes_13 : decode cX3_goes 13 = .ok (.iconst 2, 1) := by decide +kernel
theorem dX3_goes_14 : decode cX3_goes 14 = .ok (.goto 12, 3) := by decide +kernel
theorem dX3_goes_17 : decode cX3_goes 17 = .ok (.iload_n 3, 1) := by decide +kernel
theorem dX3_goes_18 : decode cX3_goes 18 = .ok (.ifCond .ne 7, 3) := by decide +kernel
theorem dX3_goes_21 : decode cX3_goes 21 = .ok (.iconst 3, 1) := by decide +kernel
theorem dX3_goes_22 : decode cX3_goes 22 = .ok (.goto 4, 3) := by decide +kernel
theorem dX3_goes_25 : decode cX3_goes 25 = .ok (.iconst 0, 1) := by decide +kernel
theorem dX3_goes_26 : decode cX3_goes 26 = .ok (.putfield 54, 3) := by decide +kernel
theorem dX3_goes_29 : decode cX3_goes 29 = .ok (.aload_n 0, 1) := by decide +kernel
theorem dX3_goes_30 : decode cX3_goes 30 = .ok (.getfield 54, 3) := by decide +kernel
theorem dX3_goes_33 : decode cX3_goes 33 = .ok (.ifCond .ne 7, 3) := by decide +kernel
theorem dX3_goes_36 : decode cX3_goes 36 = .ok (.iconst 1, 1) := by decide +kernel
theorem dX3_goes_37 : decode cX3_goes 37 = .ok (.goto 4, 3) := by decide +kernel
theorem dX3_goes_40 : decode cX3_goes 40 = .ok (.iconst 0, 1) := by decide +kernel
theorem dX3_goes_41 : decode cX3_goes 41 = .ok (.ireturn, 1) := by decide +kernel
theorem dX3_isWithin_0 : decode cX3_isWithin 0 = .ok (.iload_n 0, 1) := by decide +kernel
theorem dX3_isWithin_1 : decode cX3_isWithin 1 = .ok (.iload_n 1, 1) := by decide +kernel
theorem dX3_isWithin_2 : decode cX3_isWithin 2 = .ok (.if_icmp .lt 12, 3) := by decide +kernel
theorem dX3_isWithin_5 : decode cX3_isWithin 5 = .ok (.iload_n 0, 1) := by decide +kernel
theorem dX3_isWithin_6 : decode cX3_isWithin 6 = .ok (.iload_n 2, 1) := by decide +kernel
theorem dX3_isWithin_7 : decode cX3_isWithin 7 = .ok (.if_icmp .gt 7, 3) := by decide +kernel
theorem dX3_isWithin_10 : decode cX3_isWithin 10 = .ok (.iconst 1, 1) := by decide +kernel
theorem dX3_isWithin_11 : decode cX3_isWithin 11 = .ok (.goto 4, 3) := by decide +kernel
theorem dX3_isWithin_14 : decode cX3_isWithin 14 = .ok (.iconst 0, 1) := by decide +kernel
theorem dX3_isWithin_15 : decode cX3_isWithin 15 = .ok (.ireturn, 1) := by decide +kernel
theorem dX3_isParty_0 : decode cX3_isParty 0 = .ok (.iload_n 0, 1) := by decide +kernel
theorem dX3_isParty_1 : decode cX3_isParty 1 = .ok (.ifCond .lt 12, 3) := by decide +kernel
theorem dX3_isParty_4 : decode cX3_isParty 4 = .ok (.iload_n 0, 1) := by decide +kernel
theorem dX3_isParty_5 : decode cX3_isParty 5 = .ok (.iconst 5, 1) := by decide +kernel
theorem dX3_isParty_6 : decode cX3_isParty 6 = .ok (.if_icmp .ge 7, 3) := by decide +kernel
theorem dX3_isParty_9 : decode cX3_isParty 9 = .ok (.iconst 1, 1) := by decide +kernel
theorem dX3_isParty_10 : decode cX3_isParty 10 = .ok (.goto 4, 3) := by decide +kernel
theorem dX3_isParty_13 : decode cX3_isParty 13 = .ok (.iconst 0, 1) := by decide +kernel
theorem dX3_isParty_14 : decode cX3_isParty 14 = .ok (.ireturn, 1) := by decide +kernel
theorem dX3_isYear_0 : decode cX3_isYear 0 = .ok (.iload_n 0, 1) := by decide +kernel
theorem dX3_isYear_1 : decode cX3_isYear 1 = .ok (.ifCond .lt 13, 3) := by decide +kernel
theorem dX3_isYear_4 : decode cX3_isYear 4 = .ok (.iload_n 0, 1) := by decide +kernel
theorem dX3_isYear_5 : decode cX3_isYear 5 = .ok (.bipush 8, 2) := by decide +kernel
theorem dX3_isYear_7 : decode cX3_isYear 7 = .ok (.if_icmp .ge 7, 3) := by decide +kernel
theorem dX3_isYear_10 : decode cX3_isYear 10 = .ok (.iconst 1, 1) := by decide +kernel
theorem dX3_isYear_11 : decode cX3_isYear 11 = .ok (.goto 4, 3) := by decide +kernel
theorem dX3_isYear_14 : decode cX3_isYear 14 = .ok (.iconst 0, 1) := by decide +kernel
theorem dX3_isYear_15 : decode cX3_isYear 15 = .ok (.ireturn, 1) := by decide +kernel
theorem dX3_isHour_0 : decode cX3_isHour 0 = .ok (.iload_n 0, 1) := by decide +kernel
theorem dX3_isHour_1 : decode cX3_isHour 1 = .ok (.ifCond .lt 13, 3) := by decide +kernel
theorem dX3_isHour_4 : decode cX3_isHour 4 = .ok (.iload_n 0, 1) := by decide +kernel
theorem dX3_isHour_5 : decode cX3_isHour 5 = .ok (.bipush 12, 2) := by decide +kernel
theorem dX3_isHour_7 : decode cX3_isHour 7 = .ok (.if_icmp .ge 7, 3) := by decide +kernel
theorem dX3_isHour_10 : decode cX3_isHour 10 = .ok (.iconst 1, 1) := by decide +kernel
theorem dX3_isHour_11 : decode cX3_isHour 11 = .ok (.goto 4, 3) := by decide +kernel
theorem dX3_isHour_14 : decode cX3_isHour 14 = .ok (.iconst 0, 1) := by decide +kernel
theorem dX3_isHour_15 : decode cX3_isHour 15 = .ok (.ireturn, 1) := by decide +kernel
theorem dX3_place_0 : decode cX3_place 0 = .ok (.iload_n 0, 1) := by decide +kernel
theorem dX3_place_1 : decode cX3_place 1 = .ok (.bipush 8, 2) := by decide +kernel
theorem dX3_place_3 : decode cX3_place 3 = .ok (.imul, 1) := by decide +kernel
theorem dX3_place_4 : decode cX3_place 4 = .ok (.iload_n 1, 1) := by decide +kernel
theorem dX3_place_5 : decode cX3_place 5 = .ok (.iadd, 1) := by decide +kernel
theorem dX3_place_6 : decode cX3_place 6 = .ok (.bipush 12, 2) := by decide +kernel
theorem dX3_place_8 : decode cX3_place 8 = .ok (.imul, 1) := by decide +kernel
theorem dX3_place_9 : decode cX3_place 9 = .ok (.iload_n 2, 1) := by decide +kernel
theorem dX3_place_10 : decode cX3_place 10 = .ok (.iadd, 1) := by decide +kernel
theorem dX3_place_11 : decode cX3_place 11 = .ok (.ireturn, 1) := by decide +kernel
set_option maxRecDepth 20000 in
theorem ggX3_setDemand_X3_isWithin : GoodIn wsX3_setDemand wsX3_isWithin := goodIn_r _ [7] (by decide +kernel) (by decide +kernel)
set_option maxRecDepth 20000 in
theorem gX3_setDemand_X3_isWithin : GoodIn wsX3_setDemand (va_wsS RX3 57 yX3_isWithin wsX3_isWithin) := goodIn_app (goodIn_of _ (by decide +kernel)) ggX3_setDemand_X3_isWithin
set_option maxRecDepth 20000 in
theorem ggX3_setDemand_X3_goes : GoodIn wsX3_setDemand wsX3_goes := goodIn_r _ [11, 12, 13, 14, 15, 16, 17, 18, 19, 20, 21, 22, 23, 24, 25, 26, 27, 28, 29] (by decide +kernel) (by decide +kernel)
set_option maxRecDepth 20000 in
theorem gX3_setDemand_X3_goes : GoodIn wsX3_setDemand (wsV RX3 61 RX3 yX3_goes wsX3_goes) := goodIn_app (goodIn_of _ (by decide +kernel)) ggX3_setDemand_X3_goes
theorem dX3_setDemand_0 : decode cX3_setDemand 0 = .ok (.iload_n 1, 1) := by decide +kernel
theorem dX3_setDemand_1 : decode cX3_setDemand 1 = .ok (.iconst 0, 1) := by decide +kernel
theorem dX3_setDemand_2 : decode cX3_setDemand 2 = .ok (.sipush 1000, 3) := by decide +kernel
theorem dX3_setDemand_5 : decode cX3_setDemand 5 = .ok (.invokestatic 57, 3) := by decide +kernel
theorem dX3_setDemand_8 : decode cX3_setDemand 8 = .ok (.ifCond .eq 30, 3) := by decide +kernel
theorem dX3_setDemand_11 : decode cX3_setDemand 11 = .ok (.iload_n 2, 1) := by decide +kernel
theorem dX3_setDemand_12 : decode cX3_setDemand 12 = .ok (.iload_n 1, 1) := by decide +kernel
theorem dX3_setDemand_13 : decode cX3_setDemand 13 = .ok (.if_icmp .le 25, 3) := by decide +kernel
theorem dX3_setDemand_16 : decode cX3_setDemand 16 = .ok (.iload_n 2, 1) := by decide +kernel
theorem dX3_setDemand_17 : decode cX3_setDemand 17 = .ok (.sipush 1001, 3) := by decide +kernel
theorem dX3_setDemand_20 : decode cX3_setDemand 20 = .ok (.if_icmp .gt 18, 3) := by decide +kernel
theorem dX3_setDemand_23 : decode cX3_setDemand 23 = .ok (.iload_n 3, 1) := by decide +kernel
theorem dX3_setDemand_24 : decode cX3_setDemand 24 = .ok (.iconst 1, 1) := by decide +kernel
theorem dX3_setDemand_25 : decode cX3_setDemand 25 = .ok (.sipush 1000, 3) := by decide +kernel
theorem dX3_setDemand_28 : decode cX3_setDemand 28 = .ok (.invokestatic 57, 3) := by decide +kernel
theorem dX3_setDemand_31 : decode cX3_setDemand 31 = .ok (.ifCond .eq 7, 3) := by decide +kernel
theorem dX3_setDemand_34 : decode cX3_setDemand 34 = .ok (.iconst 1, 1) := by decide +kernel
theorem dX3_setDemand_35 : decode cX3_setDemand 35 = .ok (.goto 4, 3) := by decide +kernel
theorem dX3_setDemand_38 : decode cX3_setDemand 38 = .ok (.iconst 0, 1) := by decide +kernel
theorem dX3_setDemand_39 : decode cX3_setDemand 39 = .ok (.istore 4, 2) := by decide +kernel
theorem dX3_setDemand_41 : decode cX3_setDemand 41 = .ok (.aload_n 0, 1) := by decide +kernel
theorem dX3_setDemand_42 : decode cX3_setDemand 42 = .ok (.iload 4, 2) := by decide +kernel
theorem dX3_setDemand_44 : decode cX3_setDemand 44 = .ok (.iconst 1, 1) := by decide +kernel
theorem dX3_setDemand_45 : decode cX3_setDemand 45 = .ok (.iconst 1, 1) := by decide +kernel
theorem dX3_setDemand_46 : decode cX3_setDemand 46 = .ok (.invokevirtual 61, 3) := by decide +kernel
theorem dX3_setDemand_49 : decode cX3_setDemand 49 = .ok (.ifCond .eq 18, 3) := by decide +kernel
theorem dX3_setDemand_52 : decode cX3_setDemand 52 = .ok (.aload_n 0, 1) := by decide +kernel
theorem dX3_setDemand_53 : decode cX3_setDemand 53 = .ok (.iload_n 1, 1) := by decide +kernel
theorem dX3_setDemand_54 : decode cX3_setDemand 54 = .ok (.putfield 7, 3) := by decide +kernel
theorem dX3_setDemand_57 : decode cX3_setDemand 57 = .ok (.aload_n 0, 1) := by decide +kernel
theorem dX3_setDemand_58 : decode cX3_setDemand 58 = .ok (.iload_n 2, 1) := by decide +kernel
theorem dX3_setDemand_59 : decode cX3_setDemand 59 = .ok (.putfield 13, 3) := by decide +kernel
theorem dX3_setDemand_62 : decode cX3_setDemand 62 = .ok (.aload_n 0, 1) := by decide +kernel
theorem dX3_setDemand_63 : decode cX3_setDemand 63 = .ok (.iload_n 3, 1) := by decide +kernel
theorem dX3_setDemand_64 : decode cX3_setDemand 64 = .ok (.putfield 16, 3) := by decide +kernel
theorem dX3_setDemand_67 : decode cX3_setDemand 67 = .ok (.return_, 1) := by decide +kernel
theorem dX3_valueOf_0 : decode cX3_valueOf 0 = .ok (.iload_n 1, 1) := by decide +kernel
theorem dX3_valueOf_1 : decode cX3_valueOf 1 = .ok (.aload_n 0, 1) := by decide +kernel
theorem dX3_valueOf_2 : decode cX3_valueOf 2 = .ok (.getfield 7, 3) := by decide +kernel
theorem dX3_valueOf_5 : decode cX3_valueOf 5 = .ok (.if_icmp .gt 10, 3) := by decide +kernel
theorem dX3_valueOf_8 : decode cX3_valueOf 8 = .ok (.aload_n 0, 1) := by decide +kernel
theorem dX3_valueOf_9 : decode cX3_valueOf 9 = .ok (.getfield 16, 3) := by decide +kernel
theorem dX3_valueOf_12 : decode cX3_valueOf 12 = .ok (.goto 36, 3) := by decide +kernel
theorem dX3_valueOf_15 : decode cX3_valueOf 15 = .ok (.iload_n 1, 1) := by decide +kernel
theorem dX3_valueOf_16 : decode cX3_valueOf 16 = .ok (.aload_n 0, 1) := by decide +kernel
theorem dX3_valueOf_17 : decode cX3_valueOf 17 = .ok (.getfield 13, 3) := by decide +kernel
theorem dX3_valueOf_20 : decode cX3_valueOf 20 = .ok (.if_icmp .le 7, 3) := by decide +kernel
theorem dX3_valueOf_23 : decode cX3_valueOf 23 = .ok (.iconst 0, 1) := by decide +kernel
theorem dX3_valueOf_24 : decode cX3_valueOf 24 = .ok (.goto 24, 3) := by decide +kernel
theorem dX3_valueOf_27 : decode cX3_valueOf 27 = .ok (.aload_n 0, 1) := by decide +kernel
theorem dX3_valueOf_28 : decode cX3_valueOf 28 = .ok (.getfield 16, 3) := by decide +kernel
theorem dX3_valueOf_31 : decode cX3_valueOf 31 = .ok (.aload_n 0, 1) := by decide +kernel
theorem dX3_valueOf_32 : decode cX3_valueOf 32 = .ok (.getfield 13, 3) := by decide +kernel
theorem dX3_valueOf_35 : decode cX3_valueOf 35 = .ok (.iload_n 1, 1) := by decide +kernel
theorem dX3_valueOf_36 : decode cX3_valueOf 36 = .ok (.isub, 1) := by decide +kernel
theorem dX3_valueOf_37 : decode cX3_valueOf 37 = .ok (.imul, 1) := by decide +kernel
theorem dX3_valueOf_38 : decode cX3_valueOf 38 = .ok (.aload_n 0, 1) := by decide +kernel
theorem dX3_valueOf_39 : decode cX3_valueOf 39 = .ok (.getfield 13, 3) := by decide +kernel
theorem dX3_valueOf_42 : decode cX3_valueOf 42 = .ok (.aload_n 0, 1) := by decide +kernel
theorem dX3_valueOf_43 : decode cX3_valueOf 43 = .ok (.getfield 7, 3) := by decide +kernel
theorem dX3_valueOf_46 : decode cX3_valueOf 46 = .ok (.isub, 1) := by decide +kernel
theorem dX3_valueOf_47 : decode cX3_valueOf 47 = .ok (.idiv, 1) := by decide +kernel
theorem dX3_valueOf_48 : decode cX3_valueOf 48 = .ok (.ireturn, 1) := by decide +kernel
set_option maxRecDepth 20000 in
theorem ggX3_worthOf_X3_valueOf : GoodIn wsX3_worthOf wsX3_valueOf := goodIn_r _ [6, 7, 8, 1, 9, 10, 11, 12, 13, 14, 15, 16, 17, 18, 19, 20, 21, 22, 23, 24, 25] (by decide +kernel) (by decide +kernel)
set_option maxRecDepth 20000 in
theorem gX3_worthOf_X3_valueOf : GoodIn wsX3_worthOf (wsV RX3 65 RX3 yX3_valueOf wsX3_valueOf) := goodIn_app (goodIn_of _ (by decide +kernel)) ggX3_worthOf_X3_valueOf
theorem dX3_worthOf_0 : decode cX3_worthOf 0 = .ok (.iconst 0, 1) := by decide +kernel
theorem dX3_worthOf_1 : decode cX3_worthOf 1 = .ok (.istore_n 2, 1) := by decide +kernel
theorem dX3_worthOf_2 : decode cX3_worthOf 2 = .ok (.iconst 1, 1) := by decide +kernel
theorem dX3_worthOf_3 : decode cX3_worthOf 3 = .ok (.istore_n 3, 1) := by decide +kernel
theorem dX3_worthOf_4 : decode cX3_worthOf 4 = .ok (.iload_n 3, 1) := by decide +kernel
theorem dX3_worthOf_5 : decode cX3_worthOf 5 = .ok (.iload_n 1, 1) := by decide +kernel
theorem dX3_worthOf_6 : decode cX3_worthOf 6 = .ok (.if_icmp .gt 25, 3) := by decide +kernel
theorem dX3_worthOf_9 : decode cX3_worthOf 9 = .ok (.iload_n 3, 1) := by decide +kernel
theorem dX3_worthOf_10 : decode cX3_worthOf 10 = .ok (.aload_n 0, 1) := by decide +kernel
theorem dX3_worthOf_11 : decode cX3_worthOf 11 = .ok (.getfield 13, 3) := by decide +kernel
theorem dX3_worthOf_14 : decode cX3_worthOf 14 = .ok (.if_icmp .gt 17, 3) := by decide +kernel
theorem dX3_worthOf_17 : decode cX3_worthOf 17 = .ok (.iload_n 2, 1) := by decide +kernel
theorem dX3_worthOf_18 : decode cX3_worthOf 18 = .ok (.aload_n 0, 1) := by decide +kernel
theorem dX3_worthOf_19 : decode cX3_worthOf 19 = .ok (.iload_n 3, 1) := by decide +kernel
theorem dX3_worthOf_20 : decode cX3_worthOf 20 = .ok (.invokevirtual 65, 3) := by decide +kernel
theorem dX3_worthOf_23 : decode cX3_worthOf 23 = .ok (.iadd, 1) := by decide +kernel
theorem dX3_worthOf_24 : decode cX3_worthOf 24 = .ok (.istore_n 2, 1) := by decide +kernel
theorem dX3_worthOf_25 : decode cX3_worthOf 25 = .ok (.iinc 3 1, 3) := by decide +kernel
theorem dX3_worthOf_28 : decode cX3_worthOf 28 = .ok (.goto (-24), 3) := by decide +kernel
theorem dX3_worthOf_31 : decode cX3_worthOf 31 = .ok (.iload_n 2, 1) := by decide +kernel
theorem dX3_worthOf_32 : decode cX3_worthOf 32 = .ok (.ireturn, 1) := by decide +kernel
set_option maxRecDepth 20000 in
theorem ggX3_value_X3_isWithin : GoodIn wsX3_value wsX3_isWithin := goodIn_r _ [4] (by decide +kernel) (by decide +kernel)
set_option maxRecDepth 20000 in
theorem gX3_value_X3_isWithin : GoodIn wsX3_value (va_wsS RX3 57 yX3_isWithin wsX3_isWithin) := goodIn_app (goodIn_of _ (by decide +kernel)) ggX3_value_X3_isWithin
set_option maxRecDepth 20000 in
theorem ggX3_value_X3_goes : GoodIn wsX3_value wsX3_goes := goodIn_r _ [8, 9, 17, 18, 19, 20, 21, 22, 23, 24, 25, 26, 27, 28, 29, 30, 31, 32, 33] (by decide +kernel) (by decide +kernel)
set_option maxRecDepth 20000 in
theorem gX3_value_X3_goes : GoodIn wsX3_value (wsV RX3 61 RX3 yX3_goes wsX3_goes) := goodIn_app (goodIn_of _ (by decide +kernel)) ggX3_value_X3_goes
set_option maxRecDepth 20000 in
theorem ggX3_value_X3_valueOf : GoodIn wsX3_value wsX3_valueOf := goodIn_r _ [13, 14, 15, 16, 17, 18, 19, 20, 21, 22, 23, 24, 25, 26, 27, 28, 29, 30, 31, 32, 33] (by decide +kernel) (by decide +kernel)
set_option maxRecDepth 20000 in
theorem gX3_value_X3_valueOf : GoodIn wsX3_value (wsV RX3 65 RX3 yX3_valueOf wsX3_valueOf) := goodIn_app (goodIn_of _ (by decide +kernel)) ggX3_value_X3_valueOf
theorem dX3_value_0 : decode cX3_value 0 = .ok (.aload_n 0, 1) := by decide +kernel
theorem dX3_value_1 : decode cX3_value 1 = .ok (.iload_n 1, 1) := by decide +kernel
theorem dX3_value_2 : decode cX3_value 2 = .ok (.iconst 1, 1) := by decide +kernel
theorem dX3_value_3 : decode cX3_value 3 = .ok (.sipush 10000, 3) := by decide +kernel
theorem dX3_value_6 : decode cX3_value 6 = .ok (.invokestatic 57, 3) := by decide +kernel
theorem dX3_value_9 : decode cX3_value 9 = .ok (.iconst 1, 1) := by decide +kernel
theorem dX3_value_10 : decode cX3_value 10 = .ok (.iconst 1, 1) := by decide +kernel
theorem dX3_value_11 : decode cX3_value 11 = .ok (.invokevirtual 61, 3) := by decide +kernel
theorem dX3_value_14 : decode cX3_value 14 = .ok (.ifCond .eq 11, 3) := by decide +kernel
theorem dX3_value_17 : decode cX3_value 17 = .ok (.aload_n 0, 1) := by decide +kernel
theorem dX3_value_18 : decode cX3_value 18 = .ok (.iload_n 1, 1) := by decide +kernel
theorem dX3_value_19 : decode cX3_value 19 = .ok (.invokevirtual 65, 3) := by decide +kernel
theorem dX3_value_22 : decode cX3_value 22 = .ok (.goto 4, 3) := by decide +kernel
theorem dX3_value_25 : decode cX3_value 25 = .ok (.iconst 0, 1) := by decide +kernel
theorem dX3_value_26 : decode cX3_value 26 = .ok (.ireturn, 1) := by decide +kernel
set_option maxRecDepth 20000 in
theorem ggX3_worth_X3_isWithin : GoodIn wsX3_worth wsX3_isWithin := goodIn_r _ [4] (by decide +kernel) (by decide +kernel)
set_option maxRecDepth 20000 in
theorem gX3_worth_X3_isWithin : GoodIn wsX3_worth (va_wsS RX3 57 yX3_isWithin wsX3_isWithin) := goodIn_app (goodIn_of _ (by decide +kernel)) ggX3_worth_X3_isWithin
set_option maxRecDepth 20000 in
theorem ggX3_worth_X3_goes : GoodIn wsX3_worth wsX3_goes := goodIn_r _ [8, 9, 21, 22, 23, 24, 25, 26, 27, 28, 29, 30, 31, 32, 33, 34, 35, 36, 37] (by decide +kernel) (by decide +kernel)
set_option maxRecDepth 20000 in
theorem gX3_worth_X3_goes : GoodIn wsX3_worth (wsV RX3 61 RX3 yX3_goes wsX3_goes) := goodIn_app (goodIn_of _ (by decide +kernel)) ggX3_worth_X3_goes
set_option maxRecDepth 20000 in
theorem ggX3_worth_X3_worthOf : GoodIn wsX3_worth wsX3_worthOf := goodIn_r _ [13, 14, 15, 16, 17, 3, 18, 19, 20, 21, 22, 23, 24, 25, 26, 27, 28, 29, 30, 31, 32, 33, 34, 35, 36, 37] (by decide +kernel) (by decide +kernel)
set_option maxRecDepth 20000 in
theorem gX3_worth_X3_worthOf : GoodIn wsX3_worth (wsV RX3 69 RX3 yX3_worthOf wsX3_worthOf) := goodIn_app (goodIn_of _ (by decide +kernel)) ggX3_worth_X3_worthOf
theorem dX3_worth_0 : decode cX3_worth 0 = .ok (.aload_n 0, 1) := by decide +kernel
theorem dX3_worth_1 : decode cX3_worth 1 = .ok (.iload_n 1, 1) := by decide +kernel
theorem dX3_worth_2 : decode cX3_worth 2 = .ok (.iconst 0, 1) := by decide +kernel
theorem dX3_worth_3 : decode cX3_worth 3 = .ok (.sipush 10000, 3) := by decide +kernel
theorem dX3_worth_6 : decode cX3_worth 6 = .ok (.invokestatic 57, 3) := by decide +kernel
theorem dX3_worth_9 : decode cX3_worth 9 = .ok (.iconst 1, 1) := by decide +kernel
theorem dX3_worth_10 : decode cX3_worth 10 = .ok (.iconst 1, 1) := by decide +kernel
theorem dX3_worth_11 : decode cX3_worth 11 = .ok (.invokevirtual 61, 3) := by decide +kernel
theorem dX3_worth_14 : decode cX3_worth 14 = .ok (.ifCond .eq 11, 3) := by decide +kernel
theorem dX3_worth_17 : decode cX3_worth 17 = .ok (.aload_n 0, 1) := by decide +kernel
theorem dX3_worth_18 : decode cX3_worth 18 = .ok (.iload_n 1, 1) := by decide +kernel
theorem dX3_worth_19 : decode cX3_worth 19 = .ok (.invokevirtual 69, 3) := by decide +kernel
theorem dX3_worth_22 : decode cX3_worth 22 = .ok (.goto 4, 3) := by decide +kernel
theorem dX3_worth_25 : decode cX3_worth 25 = .ok (.iconst 0, 1) := by decide +kernel
theorem dX3_worth_26 : decode cX3_worth 26 = .ok (.ireturn, 1) := by decide +kernel
set_option maxRecDepth 20000 in
theorem ggX3_offer_X3_isWithin : GoodIn wsX3_offer wsX3_isWithin := goodIn_r _ [9] (by decide +kernel) (by decide +kernel)
set_option maxRecDepth 20000 in
theorem gX3_offer_X3_isWithin : GoodIn wsX3_offer (va_wsS RX3 57 yX3_isWithin wsX3_isWithin) := goodIn_app (goodIn_of _ (by decide +kernel)) ggX3_offer_X3_isWithin
set_option maxRecDepth 20000 in
theorem ggX3_offer_X3_isParty : GoodIn wsX3_offer wsX3_isParty := goodIn_r _ [12] (by decide +kernel) (by decide +kernel)
set_option maxRecDepth 20000 in
theorem gX3_offer_X3_isParty : GoodIn wsX3_offer (va_wsS RX3 72 yX3_isParty wsX3_isParty) := goodIn_app (goodIn_of _ (by decide +kernel)) ggX3_offer_X3_isParty
set_option maxRecDepth 20000 in
theorem ggX3_offer_X3_goes : GoodIn wsX3_offer wsX3_goes := goodIn_r _ [16, 17, 18, 19, 20, 21, 22, 23, 24, 25, 26, 27, 28, 29, 30, 31, 32, 33, 34] (by decide +kernel) (by decide +kernel)
set_option maxRecDepth 20000 in
theorem gX3_offer_X3_goes : GoodIn wsX3_offer (wsV RX3 61 RX3 yX3_goes wsX3_goes) := goodIn_app (goodIn_of _ (by decide +kernel)) ggX3_offer_X3_goes
theorem dX3_offer_0 : decode cX3_offer 0 = .ok (.iload_n 2, 1) := by decide +kernel
theorem dX3_offer_1 : decode cX3_offer 1 = .ok (.iconst 1, 1) := by decide +kernel
theorem dX3_offer_2 : decode cX3_offer 2 = .ok (.sipush 300, 3) := by decide +kernel
theorem dX3_offer_5 : decode cX3_offer 5 = .ok (.invokestatic 57, 3) := by decide +kernel
theorem dX3_offer_8 : decode cX3_offer 8 = .ok (.ifCond .eq 39, 3) := by decide +kernel
theorem dX3_offer_11 : decode cX3_offer 11 = .ok (.iload_n 3, 1) := by decide +kernel
theorem dX3_offer_12 : decode cX3_offer 12 = .ok (.iconst 0, 1) := by decide +kernel
theorem dX3_offer_13 : decode cX3_offer 13 = .ok (.bipush 100, 2) := by decide +kernel
theorem dX3_offer_15 : decode cX3_offer 15 = .ok (.invokestatic 57, 3) := by decide +kernel
theorem dX3_offer_18 : decode cX3_offer 18 = .ok (.ifCond .eq 29, 3) := by decide +kernel
theorem dX3_offer_21 : decode cX3_offer 21 = .ok (.iload 4, 2) := by decide +kernel
theorem dX3_offer_23 : decode cX3_offer 23 = .ok (.iconst 0, 1) := by decide +kernel
theorem dX3_offer_24 : decode cX3_offer 24 = .ok (.sipush 1000, 3) := by decide +kernel
theorem dX3_offer_27 : decode cX3_offer 27 = .ok (.invokestatic 57, 3) := by decide +kernel
theorem dX3_offer_30 : decode cX3_offer 30 = .ok (.ifCond .eq 17, 3) := by decide +kernel
theorem dX3_offer_33 : decode cX3_offer 33 = .ok (.iload 5, 2) := by decide +kernel
theorem dX3_offer_35 : decode cX3_offer 35 = .ok (.iconst 1, 1) := by decide +kernel
theorem dX3_offer_36 : decode cX3_offer 36 = .ok (.iconst 4, 1) := by decide +kernel
theorem dX3_offer_37 : decode cX3_offer 37 = .ok (.invokestatic 57, 3) := by decide +kernel
theorem dX3_offer_40 : decode cX3_offer 40 = .ok (.ifCond .eq 7, 3) := by decide +kernel
theorem dX3_offer_43 : decode cX3_offer 43 = .ok (.iconst 1, 1) := by decide +kernel
theorem dX3_offer_44 : decode cX3_offer 44 = .ok (.goto 4, 3) := by decide +kernel
theorem dX3_offer_47 : decode cX3_offer 47 = .ok (.iconst 0, 1) := by decide +kernel
theorem dX3_offer_48 : decode cX3_offer 48 = .ok (.istore 6, 2) := by decide +kernel
theorem dX3_offer_50 : decode cX3_offer 50 = .ok (.aload_n 0, 1) := by decide +kernel
theorem dX3_offer_51 : decode cX3_offer 51 = .ok (.iload_n 1, 1) := by decide +kernel
theorem dX3_offer_52 : decode cX3_offer 52 = .ok (.invokestatic 72, 3) := by decide +kernel
theorem dX3_offer_55 : decode cX3_offer 55 = .ok (.iload 6, 2) := by decide +kernel
theorem dX3_offer_57 : decode cX3_offer 57 = .ok (.aload_n 0, 1) := by decide +kernel
theorem dX3_offer_58 : decode cX3_offer 58 = .ok (.getfield 76, 3) := by decide +kernel
theorem dX3_offer_61 : decode cX3_offer 61 = .ok (.bipush 12, 2) := by decide +kernel
theorem dX3_offer_63 : decode cX3_offer 63 = .ok (.if_icmp .ge 7, 3) := by decide +kernel
theorem dX3_offer_66 : decode cX3_offer 66 = .ok (.iconst 1, 1) := by decide +kernel
theorem dX3_offer_67 : decode cX3_offer 67 = .ok (.goto 4, 3) := by decide +kernel
theorem dX3_offer_70 : decode cX3_offer 70 = .ok (.iconst 0, 1) := by decide +kernel
theorem dX3_offer_71 : decode cX3_offer 71 = .ok (.invokevirtual 61, 3) := by decide +kernel
theorem dX3_offer_74 : decode cX3_offer 74 = .ok (.ifCond .ne 5, 3) := by decide +kernel
theorem dX3_offer_77 : decode cX3_offer 77 = .ok (.iconst 0, 1) := by decide +kernel
theorem dX3_offer_78 : decode cX3_offer 78 = .ok (.ireturn, 1) := by decide +kernel
theorem dX3_offer_79 : decode cX3_offer 79 = .ok (.aload_n 0, 1) := by decide +kernel
theorem dX3_offer_80 : decode cX3_offer 80 = .ok (.getfield 19, 3) := by decide +kernel
theorem dX3_offer_83 : decode cX3_offer 83 = .ok (.aload_n 0, 1) := by decide +kernel
theorem dX3_offer_84 : decode cX3_offer 84 = .ok (.getfield 76, 3) := by decide +kernel
theorem dX3_offer_87 : decode cX3_offer 87 = .ok (.iload_n 1, 1) := by decide +kernel
theorem dX3_offer_88 : decode cX3_offer 88 = .ok (.iastore, 1) := by decide +kernel
theorem dX3_offer_89 : decode cX3_offer 89 = .ok (.aload_n 0, 1) := by decide +kernel
theorem dX3_offer_90 : decode cX3_offer 90 = .ok (.getfield 23, 3) := by decide +kernel
theorem dX3_offer_93 : decode cX3_offer 93 = .ok (.aload_n 0, 1) := by decide +kernel
theorem dX3_offer_94 : decode cX3_offer 94 = .ok (.getfield 76, 3) := by decide +kernel
theorem dX3_offer_97 : decode cX3_offer 97 = .ok (.iload_n 2, 1) := by decide +kernel
theorem dX3_offer_98 : decode cX3_offer 98 = .ok (.iload_n 3, 1) := by decide +kernel
theorem dX3_offer_99 : decode cX3_offer 99 = .ok (.imul, 1) := by decide +kernel
theorem dX3_offer_100 : decode cX3_offer 100 = .ok (.bipush 100, 2) := by decide +kernel
theorem dX3_offer_102 : decode cX3_offer 102 = .ok (.idiv, 1) := by decide +kernel
theorem dX3_offer_103 : decode cX3_offer 103 = .ok (.iastore, 1) := by decide +kernel
theorem dX3_offer_104 : decode cX3_offer 104 = .ok (.aload_n 0, 1) := by decide +kernel
theorem dX3_offer_105 : decode cX3_offer 105 = .ok (.getfield 26, 3) := by decide +kernel
theorem dX3_offer_108 : decode cX3_offer 108 = .ok (.aload_n 0, 1) := by decide +kernel
theorem dX3_offer_109 : decode cX3_offer 109 = .ok (.getfield 76, 3) := by decide +kernel
theorem dX3_offer_112 : decode cX3_offer 112 = .ok (.iload 4, 2) := by decide +kernel
theorem dX3_offer_114 : decode cX3_offer 114 = .ok (.iastore, 1) := by decide +kernel
theorem dX3_offer_115 : decode cX3_offer 115 = .ok (.aload_n 0, 1) := by decide +kernel
theorem dX3_offer_116 : decode cX3_offer 116 = .ok (.getfield 29, 3) := by decide +kernel
theorem dX3_offer_119 : decode cX3_offer 119 = .ok (.aload_n 0, 1) := by decide +kernel
theorem dX3_offer_120 : decode cX3_offer 120 = .ok (.getfield 76, 3) := by decide +kernel
theorem dX3_offer_123 : decode cX3_offer 123 = .ok (.iload 5, 2) := by decide +kernel
theorem dX3_offer_125 : decode cX3_offer 125 = .ok (.iastore, 1) := by decide +kernel
theorem dX3_offer_126 : decode cX3_offer 126 = .ok (.aload_n 0, 1) := by decide +kernel
theorem dX3_offer_127 : decode cX3_offer 127 = .ok (.dup, 1) := by decide +kernel
theorem dX3_offer_128 : decode cX3_offer 128 = .ok (.getfield 76, 3) := by decide +kernel
theorem dX3_offer_131 : decode cX3_offer 131 = .ok (.iconst 1, 1) := by decide +kernel
theorem dX3_offer_132 : decode cX3_offer 132 = .ok (.iadd, 1) := by decide +kernel
theorem dX3_offer_133 : decode cX3_offer 133 = .ok (.putfield 76, 3) := by decide +kernel
theorem dX3_offer_136 : decode cX3_offer 136 = .ok (.aload_n 0, 1) := by decide +kernel
theorem dX3_offer_137 : decode cX3_offer 137 = .ok (.getfield 76, 3) := by decide +kernel
theorem dX3_offer_140 : decode cX3_offer 140 = .ok (.iconst 1, 1) := by decide +kernel
theorem dX3_offer_141 : decode cX3_offer 141 = .ok (.isub, 1) := by decide +kernel
theorem dX3_offer_142 : decode cX3_offer 142 = .ok (.ireturn, 1) := by decide +kernel
theorem dX3_offers_0 : decode cX3_offers 0 = .ok (.aload_n 0, 1) := by decide +kernel
theorem dX3_offers_1 : decode cX3_offers 1 = .ok (.iconst 0, 1) := by decide +kernel
theorem dX3_offers_2 : decode cX3_offers 2 = .ok (.putfield 54, 3) := by decide +kernel
theorem dX3_offers_5 : decode cX3_offers 5 = .ok (.aload_n 0, 1) := by decide +kernel
theorem dX3_offers_6 : decode cX3_offers 6 = .ok (.getfield 76, 3) := by decide +kernel
theorem dX3_offers_9 : decode cX3_offers 9 = .ok (.ireturn, 1) := by decide +kernel
set_option maxRecDepth 20000 in
theorem ggX3_supply_X3_isWithin : GoodIn wsX3_supply wsX3_isWithin := goodIn_r _ [7] (by decide +kernel) (by decide +kernel)
set_option maxRecDepth 20000 in
theorem gX3_supply_X3_isWithin : GoodIn wsX3_supply (va_wsS RX3 57 yX3_isWithin wsX3_isWithin) := goodIn_app (goodIn_of _ (by decide +kernel)) ggX3_supply_X3_isWithin
set_option maxRecDepth 20000 in
theorem ggX3_supply_X3_goes : GoodIn wsX3_supply wsX3_goes := goodIn_r _ [11, 12, 13, 14, 15, 16, 17, 18, 19, 20, 21, 22, 23, 24, 25, 26, 27, 28, 29] (by decide +kernel) (by decide +kernel)
set_option maxRecDepth 20000 in
theorem gX3_supply_X3_goes : GoodIn wsX3_supply (wsV RX3 61 RX3 yX3_goes wsX3_goes) := goodIn_app (goodIn_of _ (by decide +kernel)) ggX3_supply_X3_goes
theorem dX3_supply_0 : decode cX3_supply 0 = .ok (.aload_n 0, 1) := by decide +kernel
theorem dX3_supply_1 : decode cX3_supply 1 = .ok (.iload_n 1, 1) := by decide +kernel
theorem dX3_supply_2 : decode cX3_supply 2 = .ok (.iconst 0, 1) := by decide +kernel
theorem dX3_supply_3 : decode cX3_supply 3 = .ok (.sipush 1000, 3) := by decide +kernel
theorem dX3_supply_6 : decode cX3_supply 6 = .ok (.invokestatic 57, 3) := by decide +kernel
theorem dX3_supply_9 : decode cX3_supply 9 = .ok (.iconst 1, 1) := by decide +kernel
theorem dX3_supply_10 : decode cX3_supply 10 = .ok (.iconst 1, 1) := by decide +kernel
theorem dX3_supply_11 : decode cX3_supply 11 = .ok (.invokevirtual 61, 3) := by decide +kernel
theorem dX3_supply_14 : decode cX3_supply 14 = .ok (.ifCond .ne 5, 3) := by decide +kernel
theorem dX3_supply_17 : decode cX3_supply 17 = .ok (.iconst 0, 1) := by decide +kernel
theorem dX3_supply_18 : decode cX3_supply 18 = .ok (.ireturn, 1) := by decide +kernel
theorem dX3_supply_19 : decode cX3_supply 19 = .ok (.iconst 0, 1) := by decide +kernel
theorem dX3_supply_20 : decode cX3_supply 20 = .ok (.istore_n 2, 1) := by decide +kernel
theorem dX3_supply_21 : decode cX3_supply 21 = .ok (.iconst 0, 1) := by decide +kernel
theorem dX3_supply_22 : decode cX3_supply 22 = .ok (.istore_n 3, 1) := by decide +kernel
theorem dX3_supply_23 : decode cX3_supply 23 = .ok (.iload_n 3, 1) := by decide +kernel
theorem dX3_supply_24 : decode cX3_supply 24 = .ok (.aload_n 0, 1) := by decide +kernel
theorem dX3_supply_25 : decode cX3_supply 25 = .ok (.getfield 76, 3) := by decide +kernel
theorem dX3_supply_28 : decode cX3_supply 28 = .ok (.if_icmp .ge 32, 3) := by decide +kernel
theorem dX3_supply_31 : decode cX3_supply 31 = .ok (.iload_n 2, 1) := by decide +kernel
theorem dX3_supply_32 : decode cX3_supply 32 = .ok (.aload_n 0, 1) := by decide +kernel
theorem dX3_supply_33 : decode cX3_supply 33 = .ok (.getfield 26, 3) := by decide +kernel
theorem dX3_supply_36 : decode cX3_supply 36 = .ok (.iload_n 3, 1) := by decide +kernel
theorem dX3_supply_37 : decode cX3_supply 37 = .ok (.iaload, 1) := by decide +kernel
theorem dX3_supply_38 : decode cX3_supply 38 = .ok (.iload_n 1, 1) := by decide +kernel
theorem dX3_supply_39 : decode cX3_supply 39 = .ok (.if_icmp .gt 12, 3) := by decide +kernel
theorem dX3_supply_42 : decode cX3_supply 42 = .ok (.aload_n 0, 1) := by decide +kernel
theorem dX3_supply_43 : decode cX3_supply 43 = .ok (.getfield 23, 3) := by decide +kernel
theorem dX3_supply_46 : decode cX3_supply 46 = .ok (.iload_n 3, 1) := by decide +kernel
theorem dX3_supply_47 : decode cX3_supply 47 = .ok (.iaload, 1) := by decide +kernel
theorem dX3_supply_48 : decode cX3_supply 48 = .ok (.goto 4, 3) := by decide +kernel
theorem dX3_supply_51 : decode cX3_supply 51 = .ok (.iconst 0, 1) := by decide +kernel
theorem dX3_supply_52 : decode cX3_supply 52 = .ok (.iadd, 1) := by decide +kernel
theorem dX3_supply_53 : decode cX3_supply 53 = .ok (.istore_n 2, 1) := by decide +kernel
theorem dX3_supply_54 : decode cX3_supply 54 = .ok (.iinc 3 1, 3) := by decide +kernel
theorem dX3_supply_57 : decode cX3_supply 57 = .ok (.goto (-34), 3) := by decide +kernel
theorem dX3_supply_60 : decode cX3_supply 60 = .ok (.iload_n 2, 1) := by decide +kernel
theorem dX3_supply_61 : decode cX3_supply 61 = .ok (.ireturn, 1) := by decide +kernel
theorem dX3_rank_0 : decode cX3_rank 0 = .ok (.iconst 0, 1) := by decide +kernel
theorem dX3_rank_1 : decode cX3_rank 1 = .ok (.istore_n 2, 1) := by decide +kernel
theorem dX3_rank_2 : decode cX3_rank 2 = .ok (.iconst 0, 1) := by decide +kernel
theorem dX3_rank_3 : decode cX3_rank 3 = .ok (.istore_n 3, 1) := by decide +kernel
theorem dX3_rank_4 : decode cX3_rank 4 = .ok (.iload_n 3, 1) := by decide +kernel
theorem dX3_rank_5 : decode cX3_rank 5 = .ok (.aload_n 0, 1) := by decide +kernel
theorem dX3_rank_6 : decode cX3_rank 6 = .ok (.getfield 76, 3) := by decide +kernel
theorem dX3_rank_9 : decode cX3_rank 9 = .ok (.if_icmp .ge 52, 3) := by decide +kernel
theorem dX3_rank_12 : decode cX3_rank 12 = .ok (.iload_n 2, 1) := by decide +kernel
theorem dX3_rank_13 : decode cX3_rank 13 = .ok (.aload_n 0, 1) := by decide +kernel
theorem dX3_rank_14 : decode cX3_rank 14 = .ok (.getfield 26, 3) := by decide +kernel
theorem dX3_rank_17 : decode cX3_rank 17 = .ok (.iload_n 3, 1) := by decide +kernel
theorem dX3_rank_18 : decode cX3_rank 18 = .ok (.iaload, 1) := by decide +kernel
theorem dX3_rank_19 : decode cX3_rank 19 = .ok (.aload_n 0, 1) := by decide +kernel
theorem dX3_rank_20 : decode cX3_rank 20 = .ok (.getfield 26, 3) := by decide +kernel
theorem dX3_rank_23 : decode cX3_rank 23 = .ok (.iload_n 1, 1) := by decide +kernel
theorem dX3_rank_24 : decode cX3_rank 24 = .ok (.iaload, 1) := by decide +kernel
theorem dX3_rank_25 : decode cX3_rank 25 = .ok (.if_icmp .lt 23, 3) := by decide +kernel
theorem dX3_rank_28 : decode cX3_rank 28 = .ok (.aload_n 0, 1) := by decide +kernel
theorem dX3_rank_29 : decode cX3_rank 29 = .ok (.getfield 26, 3) := by decide +kernel
theorem dX3_rank_32 : decode cX3_rank 32 = .ok (.iload_n 3, 1) := by decide +kernel
theorem dX3_rank_33 : decode cX3_rank 33 = .ok (.iaload, 1) := by decide +kernel
theorem dX3_rank_34 : decode cX3_rank 34 = .ok (.aload_n 0, 1) := by decide +kernel
theorem dX3_rank_35 : decode cX3_rank 35 = .ok (.getfield 26, 3) := by decide +kernel
theorem dX3_rank_38 : decode cX3_rank 38 = .ok (.iload_n 1, 1) := by decide +kernel
theorem dX3_rank_39 : decode cX3_rank 39 = .ok (.iaload, 1) := by decide +kernel
theorem dX3_rank_40 : decode cX3_rank 40 = .ok (.if_icmp .ne 12, 3) := by decide +kernel
theorem dX3_rank_43 : decode cX3_rank 43 = .ok (.iload_n 3, 1) := by decide +kernel
theorem dX3_rank_44 : decode cX3_rank 44 = .ok (.iload_n 1, 1) := by decide +kernel
theorem dX3_rank_45 : decode cX3_rank 45 = .ok (.if_icmp .ge 7, 3) := by decide +kernel
theorem dX3_rank_48 : decode cX3_rank 48 = .ok (.iconst 1, 1) := by decide +kernel
theorem dX3_rank_49 : decode cX3_rank 49 = .ok (.goto 4, 3) := by decide +kernel
theorem dX3_rank_52 : decode cX3_rank 52 = .ok (.iconst 0, 1) := by decide +kernel
theorem dX3_rank_53 : decode cX3_rank 53 = .ok (.iadd, 1) := by decide +kernel
theorem dX3_rank_54 : decode cX3_rank 54 = .ok (.istore_n 2, 1) := by decide +kernel
theorem dX3_rank_55 : decode cX3_rank 55 = .ok (.iinc 3 1, 3) := by decide +kernel
theorem dX3_rank_58 : decode cX3_rank 58 = .ok (.goto (-54), 3) := by decide +kernel
theorem dX3_rank_61 : decode cX3_rank 61 = .ok (.iload_n 2, 1) := by decide +kernel
theorem dX3_rank_62 : decode cX3_rank 62 = .ok (.ireturn, 1) := by decide +kernel
set_option maxRecDepth 20000 in
theorem ggX3_taken_X3_worthOf : GoodIn wsX3_taken wsX3_worthOf := goodIn_r _ [9, 10, 11, 12, 13, 8, 14, 15, 16, 21, 22, 23, 24, 25, 26, 27, 28, 29, 30, 31, 32, 33, 34, 35, 36, 37] (by decide +kernel) (by decide +kernel)
set_option maxRecDepth 20000 in
theorem gX3_taken_X3_worthOf : GoodIn wsX3_taken (wsV RX3 69 RX3 yX3_worthOf wsX3_worthOf) := goodIn_app (goodIn_of _ (by decide +kernel)) ggX3_taken_X3_worthOf
set_option maxRecDepth 20000 in
theorem ggX3_taken_X3_rank : GoodIn wsX3_taken wsX3_rank := goodIn_r _ [20, 2, 4, 21, 22, 23, 24, 25, 26, 27, 28, 29, 30, 31, 32, 33, 34, 35, 36, 37] (by decide +kernel) (by decide +kernel)
set_option maxRecDepth 20000 in
theorem gX3_taken_X3_rank : GoodIn wsX3_taken (wsV RX3 79 RX3 yX3_rank wsX3_rank) := goodIn_app (goodIn_of _ (by decide +kernel)) ggX3_taken_X3_rank
theorem dX3_taken_0 : decode cX3_taken 0 = .ok (.iconst 0, 1) := by decide +kernel
theorem dX3_taken_1 : decode cX3_taken 1 = .ok (.istore_n 2, 1) := by decide +kernel
theorem dX3_taken_2 : decode cX3_taken 2 = .ok (.aload_n 0, 1) := by decide +kernel
theorem dX3_taken_3 : decode cX3_taken 3 = .ok (.aload_n 0, 1) := by decide +kernel
theorem dX3_taken_4 : decode cX3_taken 4 = .ok (.getfield 32, 3) := by decide +kernel
theorem dX3_taken_7 : decode cX3_taken 7 = .ok (.iload_n 1, 1) := by decide +kernel
theorem dX3_taken_8 : decode cX3_taken 8 = .ok (.iaload, 1) := by decide +kernel
theorem dX3_taken_9 : decode cX3_taken 9 = .ok (.invokevirtual 69, 3) := by decide +kernel
theorem dX3_taken_12 : decode cX3_taken 12 = .ok (.istore_n 3, 1) := by decide +kernel
theorem dX3_taken_13 : decode cX3_taken 13 = .ok (.iconst 1, 1) := by decide +kernel
theorem dX3_taken_14 : decode cX3_taken 14 = .ok (.istore 4, 2) := by decide +kernel
theorem dX3_taken_16 : decode cX3_taken 16 = .ok (.iload 4, 2) := by decide +kernel
theorem dX3_taken_18 : decode cX3_taken 18 = .ok (.aload_n 0, 1) := by decide +kernel
theorem dX3_taken_19 : decode cX3_taken 19 = .ok (.getfield 76, 3) := by decide +kernel
theorem dX3_taken_22 : decode cX3_taken 22 = .ok (.if_icmp .gt 143, 3) := by decide +kernel
theorem dX3_taken_25 : decode cX3_taken 25 = .ok (.aload_n 0, 1) := by decide +kernel
theorem dX3_taken_26 : decode cX3_taken 26 = .ok (.getfield 32, 3) := by decide +kernel
theorem dX3_taken_29 : decode cX3_taken 29 = .ok (.iload_n 1, 1) := by decide +kernel
theorem dX3_taken_30 : decode cX3_taken 30 = .ok (.iaload, 1) := by decide +kernel
theorem dX3_taken_31 : decode cX3_taken 31 = .ok (.istore 5, 2) := by decide +kernel
theorem dX3_taken_33 : decode cX3_taken 33 = .ok (.iconst 0, 1) := by decide +kernel
theorem dX3_taken_34 : decode cX3_taken 34 = .ok (.istore 6, 2) := by decide +kernel
theorem dX3_taken_36 : decode cX3_taken 36 = .ok (.iconst 0, 1) := by decide +kernel
theorem dX3_taken_37 : decode cX3_taken 37 = .ok (.istore 7, 2) := by decide +kernel
theorem dX3_taken_39 : decode cX3_taken 39 = .ok (.iload 7, 2) := by decide +kernel
theorem dX3_taken_41 : decode cX3_taken 41 = .ok (.aload_n 0, 1) := by decide +kernel
theorem dX3_taken_42 : decode cX3_taken 42 = .ok (.getfield 76, 3) := by decide +kernel
theorem dX3_taken_45 : decode cX3_taken 45 = .ok (.if_icmp .ge 77, 3) := by decide +kernel
theorem dX3_taken_48 : decode cX3_taken 48 = .ok (.aload_n 0, 1) := by decide +kernel
theorem dX3_taken_49 : decode cX3_taken 49 = .ok (.iload 7, 2) := by decide +kernel
theorem dX3_taken_51 : decode cX3_taken 51 = .ok (.invokevirtual 79, 3) := by decide +kernel
theorem dX3_taken_54 : decode cX3_taken 54 = .ok (.iload 4, 2) := by decide +kernel
theorem dX3_taken_56 : decode cX3_taken 56 = .ok (.if_icmp .ge 7, 3) := by decide +kernel
theorem dX3_taken_59 : decode cX3_taken 59 = .ok (.iconst 1, 1) := by decide +kernel
theorem dX3_taken_60 : decode cX3_taken 60 = .ok (.goto 4, 3) := by decide +kernel
theorem dX3_taken_63 : decode cX3_taken 63 = .ok (.iconst 0, 1) := by decide +kernel
theorem dX3_taken_64 : decode cX3_taken 64 = .ok (.istore 8, 2) := by decide +kernel
theorem dX3_taken_66 : decode cX3_taken 66 = .ok (.iload 5, 2) := by decide +kernel
theorem dX3_taken_68 : decode cX3_taken 68 = .ok (.iload 8, 2) := by decide +kernel
theorem dX3_taken_70 : decode cX3_taken 70 = .ok (.ifCond .eq 13, 3) := by decide +kernel
theorem dX3_taken_73 : decode cX3_taken 73 = .ok (.aload_n 0, 1) := by decide +kernel
theorem dX3_taken_74 : decode cX3_taken 74 = .ok (.getfield 23, 3) := by decide +kernel
theorem dX3_taken_77 : decode cX3_taken 77 = .ok (.iload 7, 2) := by decide +kernel
theorem dX3_taken_79 : decode cX3_taken 79 = .ok (.iaload, 1) := by decide +kernel
theorem dX3_taken_80 : decode cX3_taken 80 = .ok (.goto 4, 3) := by decide +kernel
theorem dX3_taken_83 : decode cX3_taken 83 = .ok (.iconst 0, 1) := by decide +kernel
theorem dX3_taken_84 : decode cX3_taken 84 = .ok (.iadd, 1) := by decide +kernel
theorem dX3_taken_85 : decode cX3_taken 85 = .ok (.istore 5, 2) := by decide +kernel
theorem dX3_taken_87 : decode cX3_taken 87 = .ok (.iload 6, 2) := by decide +kernel
theorem dX3_taken_89 : decode cX3_taken 89 = .ok (.iload 8, 2) := by decide +kernel
theorem dX3_taken_91 : decode cX3_taken 91 = .ok (.ifCond .eq 21, 3) := by decide +kernel
theorem dX3_taken_94 : decode cX3_taken 94 = .ok (.aload_n 0, 1) := by decide +kernel
theorem dX3_taken_95 : decode cX3_taken 95 = .ok (.getfield 23, 3) := by decide +kernel
theorem dX3_taken_98 : decode cX3_taken 98 = .ok (.iload 7, 2) := by decide +kernel
theorem dX3_taken_100 : decode cX3_taken 100 = .ok (.iaload, 1) := by decide +kernel
theorem dX3_taken_101 : decode cX3_taken 101 = .ok (.aload_n 0, 1) := by decide +kernel
theorem dX3_taken_102 : decode cX3_taken 102 = .ok (.getfield 26, 3) := by decide +kernel
theorem dX3_taken_105 : decode cX3_taken 105 = .ok (.iload 7, 2) := by decide +kernel
theorem dX3_taken_107 : decode cX3_taken 107 = .ok (.iaload, 1) := by decide +kernel
theorem dX3_taken_108 : decode cX3_taken 108 = .ok (.imul, 1) := by decide +kernel
theorem dX3_taken_109 : decode cX3_taken 109 = .ok (.goto 4, 3) := by decide +kernel
theorem dX3_taken_112 : decode cX3_taken 112 = .ok (.iconst 0, 1) := by decide +kernel
theorem dX3_taken_113 : decode cX3_taken 113 = .ok (.iadd, 1) := by decide +kernel
theorem dX3_taken_114 : decode cX3_taken 114 = .ok (.istore 6, 2) := by decide +kernel
theorem dX3_taken_116 : decode cX3_taken 116 = .ok (.iinc 7 1, 3) := by decide +kernel
theorem dX3_taken_119 : decode cX3_taken 119 = .ok (.goto (-80), 3) := by decide +kernel
theorem dX3_taken_122 : decode cX3_taken 122 = .ok (.aload_n 0, 1) := by decide +kernel
theorem dX3_taken_123 : decode cX3_taken 123 = .ok (.iload 5, 2) := by decide +kernel
theorem dX3_taken_125 : decode cX3_taken 125 = .ok (.invokevirtual 69, 3) := by decide +kernel
theorem dX3_taken_128 : decode cX3_taken 128 = .ok (.iload 6, 2) := by decide +kernel
theorem dX3_taken_130 : decode cX3_taken 130 = .ok (.isub, 1) := by decide +kernel
theorem dX3_taken_131 : decode cX3_taken 131 = .ok (.istore 7, 2) := by decide +kernel
theorem dX3_taken_133 : decode cX3_taken 133 = .ok (.iload 7, 2) := by decide +kernel
theorem dX3_taken_135 : decode cX3_taken 135 = .ok (.iload_n 3, 1) := by decide +kernel
theorem dX3_taken_136 : decode cX3_taken 136 = .ok (.if_icmp .le 8, 3) := by decide +kernel
theorem dX3_taken_139 : decode cX3_taken 139 = .ok (.iload 4, 2) := by decide +kernel
theorem dX3_taken_141 : decode cX3_taken 141 = .ok (.goto 4, 3) := by decide +kernel
theorem dX3_taken_144 : decode cX3_taken 144 = .ok (.iload_n 2, 1) := by decide +kernel
theorem dX3_taken_145 : decode cX3_taken 145 = .ok (.istore_n 2, 1) := by decide +kernel
theorem dX3_taken_146 : decode cX3_taken 146 = .ok (.iload 7, 2) := by decide +kernel
theorem dX3_taken_148 : decode cX3_taken 148 = .ok (.iload_n 3, 1) := by decide +kernel
theorem dX3_taken_149 : decode cX3_taken 149 = .ok (.if_icmp .le 8, 3) := by decide +kernel
theorem dX3_taken_152 : decode cX3_taken 152 = .ok (.iload 7, 2) := by decide +kernel
theorem dX3_taken_154 : decode cX3_taken 154 = .ok (.goto 4, 3) := by decide +kernel
theorem dX3_taken_157 : decode cX3_taken 157 = .ok (.iload_n 3, 1) := by decide +kernel
theorem dX3_taken_158 : decode cX3_taken 158 = .ok (.istore_n 3, 1) := by decide +kernel
theorem dX3_taken_159 : decode cX3_taken 159 = .ok (.iinc 4 1, 3) := by decide +kernel
theorem dX3_taken_162 : decode cX3_taken 162 = .ok (.goto (-146), 3) := by decide +kernel
theorem dX3_taken_165 : decode cX3_taken 165 = .ok (.iload_n 2, 1) := by decide +kernel
theorem dX3_taken_166 : decode cX3_taken 166 = .ok (.ireturn, 1) := by decide +kernel
end
section
set_option maxRecDepth 20000 in
theorem ggX3_price_X3_rank : GoodIn wsX3_price wsX3_rank := goodIn_r _ [7, 1, 2, 8, 9, 10, 11, 12, 13, 14, 15, 16, 17, 18, 19, 20, 21, 22, 23, 24] (by decide +kernel) (by decide +kernel)
set_option maxRecDepth 20000 in
theorem gX3_price_X3_rank : GoodIn wsX3_price (wsV RX3 79 RX3 yX3_rank wsX3_rank) := goodIn_app (goodIn_of _ (by decide +kernel)) ggX3_price_X3_rank
theorem dX3_price_0 : decode cX3_price 0 = .ok (.iconst 0, 1) := by decide +kernel
theorem dX3_price_1 : decode cX3_price 1 = .ok (.istore_n 2, 1) := by decide +kernel
theorem dX3_price_2 : decode cX3_price 2 = .ok (.iconst 0, 1) := by decide +kernel
theorem dX3_price_3 : decode cX3_price 3 = .ok (.istore_n 3, 1) := by decide +kernel
theorem dX3_price_4 : decode cX3_price 4 = .ok (.iload_n 3, 1) := by decide +kernel
theorem dX3_price_5 : decode cX3_price 5 = .ok (.aload_n 0, 1) := by decide +kernel
theorem dX3_price_6 : decode cX3_price 6 = .ok (.getfield 76, 3) := by decide +kernel
theorem dX3_price_9 : decode cX3_price 9 = .ok (.if_icmp .ge 39, 3) := by decide +kernel
theorem dX3_price_12 : decode cX3_price 12 = .ok (.aload_n 0, 1) := by decide +kernel
theorem dX3_price_13 : decode cX3_price 13 = .ok (.iload_n 3, 1) := by decide +kernel
theorem dX3_price_14 : decode cX3_price 14 = .ok (.invokevirtual 79, 3) := by decide +kernel
theorem dX3_price_17 : decode cX3_price 17 = .ok (.iload_n 1, 1) := by decide +kernel
theorem dX3_price_18 : decode cX3_price 18 = .ok (.if_icmp .ge 22, 3) := by decide +kernel
theorem dX3_price_21 : decode cX3_price 21 = .ok (.aload_n 0, 1) := by decide +kernel
theorem dX3_price_22 : decode cX3_price 22 = .ok (.getfield 26, 3) := by decide +kernel
theorem dX3_price_25 : decode cX3_price 25 = .ok (.iload_n 3, 1) := by decide +kernel
theorem dX3_price_26 : decode cX3_price 26 = .ok (.iaload, 1) := by decide +kernel
theorem dX3_price_27 : decode cX3_price 27 = .ok (.iload_n 2, 1) := by decide +kernel
theorem dX3_price_28 : decode cX3_price 28 = .ok (.if_icmp .le 12, 3) := by decide +kernel
theorem dX3_price_31 : decode cX3_price 31 = .ok (.aload_n 0, 1) := by decide +kernel
theorem dX3_price_32 : decode cX3_price 32 = .ok (.getfield 26, 3) := by decide +kernel
theorem dX3_price_35 : decode cX3_price 35 = .ok (.iload_n 3, 1) := by decide +kernel
theorem dX3_price_36 : decode cX3_price 36 = .ok (.iaload, 1) := by decide +kernel
theorem dX3_price_37 : decode cX3_price 37 = .ok (.goto 4, 3) := by decide +kernel
theorem dX3_price_40 : decode cX3_price 40 = .ok (.iload_n 2, 1) := by decide +kernel
theorem dX3_price_41 : decode cX3_price 41 = .ok (.istore_n 2, 1) := by decide +kernel
theorem dX3_price_42 : decode cX3_price 42 = .ok (.iinc 3 1, 3) := by decide +kernel
theorem dX3_price_45 : decode cX3_price 45 = .ok (.goto (-41), 3) := by decide +kernel
theorem dX3_price_48 : decode cX3_price 48 = .ok (.iload_n 2, 1) := by decide +kernel
theorem dX3_price_49 : decode cX3_price 49 = .ok (.ireturn, 1) := by decide +kernel
set_option maxRecDepth 20000 in
theorem ggX3_clearing_X3_isYear : GoodIn wsX3_clearing wsX3_isYear := goodIn_r _ [4] (by decide +kernel) (by decide +kernel)
set_option maxRecDepth 20000 in
theorem gX3_clearing_X3_isYear : GoodIn wsX3_clearing (va_wsS RX3 82 yX3_isYear wsX3_isYear) := goodIn_app (goodIn_of _ (by decide +kernel)) ggX3_clearing_X3_isYear
set_option maxRecDepth 20000 in
theorem ggX3_clearing_X3_goes : GoodIn wsX3_clearing wsX3_goes := goodIn_r _ [8, 9, 37, 38, 39, 40, 41, 42, 43, 44, 45, 46, 47, 48, 49, 50, 51, 52, 53] (by decide +kernel) (by decide +kernel)
set_option maxRecDepth 20000 in
theorem gX3_clearing_X3_goes : GoodIn wsX3_clearing (wsV RX3 61 RX3 yX3_goes wsX3_goes) := goodIn_app (goodIn_of _ (by decide +kernel)) ggX3_clearing_X3_goes
set_option maxRecDepth 20000 in
theorem ggX3_clearing_X3_taken : GoodIn wsX3_clearing wsX3_taken := goodIn_r _ [13, 14, 15, 16, 17, 18, 19, 20, 3, 21, 22, 23, 24, 25, 26, 27, 28, 29, 30, 31, 32, 37, 38, 39, 40, 41, 42, 43, 44, 45, 46, 47, 48, 49, 50, 51, 52, 53] (by decide +kernel) (by decide +kernel)
set_option maxRecDepth 20000 in
theorem gX3_clearing_X3_taken : GoodIn wsX3_clearing (wsV RX3 85 RX3 yX3_taken wsX3_taken) := goodIn_app (goodIn_of _ (by decide +kernel)) ggX3_clearing_X3_taken
set_option maxRecDepth 20000 in
theorem ggX3_clearing_X3_price : GoodIn wsX3_clearing wsX3_price := goodIn_r _ [36, 15, 17, 29, 30, 31, 3, 32, 37, 38, 39, 40, 41, 42, 43, 44, 45, 46, 47, 48, 49, 50, 51, 52, 53] (by decide +kernel) (by decide +kernel)
set_option maxRecDepth 20000 in
theorem gX3_clearing_X3_price : GoodIn wsX3_clearing (wsV RX3 88 RX3 yX3_price wsX3_price) := goodIn_app (goodIn_of _ (by decide +kernel)) ggX3_clearing_X3_price
theorem dX3_clearing_0 : decode cX3_clearing 0 = .ok (.aload_n 0, 1) := by decide +kernel
theorem dX3_clearing_1 : decode cX3_clearing 1 = .ok (.iload_n 1, 1) := by decide +kernel
theorem dX3_clearing_2 : decode cX3_clearing 2 = .ok (.invokestatic 82, 3) := by decide +kernel
theorem dX3_clearing_5 : decode cX3_clearing 5 = .ok (.iconst 1, 1) := by decide +kernel
theorem dX3_clearing_6 : decode cX3_clearing 6 = .ok (.iconst 1, 1) := by decide +kernel
theorem dX3_clearing_7 : decode cX3_clearing 7 = .ok (.invokevirtual 61, 3) := by decide +kernel
theorem dX3_clearing_10 : decode cX3_clearing 10 = .ok (.ifCond .eq 15, 3) := by decide +kernel
theorem dX3_clearing_13 : decode cX3_clearing 13 = .ok (.aload_n 0, 1) := by decide +kernel
theorem dX3_clearing_14 : decode cX3_clearing 14 = .ok (.aload_n 0, 1) := by decide +kernel
theorem dX3_clearing_15 : decode cX3_clearing 15 = .ok (.iload_n 1, 1) := by decide +kernel
theorem dX3_clearing_16 : decode cX3_clearing 16 = .ok (.invokevirtual 85, 3) := by decide +kernel
theorem dX3_clearing_19 : decode cX3_clearing 19 = .ok (.invokevirtual 88, 3) := by decide +kernel
theorem dX3_clearing_22 : decode cX3_clearing 22 = .ok (.goto 4, 3) := by decide +kernel
theorem dX3_clearing_25 : decode cX3_clearing 25 = .ok (.iconst 0, 1) := by decide +kernel
theorem dX3_clearing_26 : decode cX3_clearing 26 = .ok (.ireturn, 1) := by decide +kernel
set_option maxRecDepth 20000 in
theorem ggX3_clearingByClock_X3_clearing : GoodIn wsX3_clearingByClock wsX3_clearing := goodIn_r _ [5, 6, 7, 4, 8, 9, 10, 11, 12, 13, 14, 15, 16, 17, 18, 19, 20, 21, 22, 23, 24, 25, 26, 27, 28, 29, 30, 31, 32, 33, 34, 35, 36, 37, 38, 39, 40, 41, 42, 43, 44, 45, 46, 47, 48, 49, 50, 51, 52, 53, 54, 55, 56, 57] (by decide +kernel) (by decide +kernel)
set_option maxRecDepth 20000 in
theorem gX3_clearingByClock_X3_clearing : GoodIn wsX3_clearingByClock (wsV RX3 91 RX3 yX3_clearing wsX3_clearing) := goodIn_app (goodIn_of _ (by decide +kernel)) ggX3_clearingByClock_X3_clearing
theorem dX3_clearingByClock_0 : decode cX3_clearingByClock 0 = .ok (.aload_n 0, 1) := by decide +kernel
theorem dX3_clearingByClock_1 : decode cX3_clearingByClock 1 = .ok (.iload_n 1, 1) := by decide +kernel
theorem dX3_clearingByClock_2 : decode cX3_clearingByClock 2 = .ok (.invokevirtual 91, 3) := by decide +kernel
theorem dX3_clearingByClock_5 : decode cX3_clearingByClock 5 = .ok (.ireturn, 1) := by decide +kernel
set_option maxRecDepth 20000 in
theorem ggX3_wouldTake_X3_isYear : GoodIn wsX3_wouldTake wsX3_isYear := goodIn_r _ [5] (by decide +kernel) (by decide +kernel)
set_option maxRecDepth 20000 in
theorem gX3_wouldTake_X3_isYear : GoodIn wsX3_wouldTake (va_wsS RX3 82 yX3_isYear wsX3_isYear) := goodIn_app (goodIn_of _ (by decide +kernel)) ggX3_wouldTake_X3_isYear
set_option maxRecDepth 20000 in
theorem ggX3_wouldTake_X3_goes : GoodIn wsX3_wouldTake wsX3_goes := goodIn_r _ [9, 10, 33, 34, 35, 36, 37, 38, 39, 40, 41, 42, 43, 44, 45, 46, 47, 48, 49] (by decide +kernel) (by decide +kernel)
set_option maxRecDepth 20000 in
theorem gX3_wouldTake_X3_goes : GoodIn wsX3_wouldTake (wsV RX3 61 RX3 yX3_goes wsX3_goes) := goodIn_app (goodIn_of _ (by decide +kernel)) ggX3_wouldTake_X3_goes
set_option maxRecDepth 20000 in
theorem ggX3_wouldTake_X3_rank : GoodIn wsX3_wouldTake wsX3_rank := goodIn_r _ [14, 1, 15, 33, 34, 35, 36, 37, 38, 39, 40, 41, 42, 43, 44, 45, 46, 47, 48, 49] (by decide +kernel) (by decide +kernel)
set_option maxRecDepth 20000 in
theorem gX3_wouldTake_X3_rank : GoodIn wsX3_wouldTake (wsV RX3 79 RX3 yX3_rank wsX3_rank) := goodIn_app (goodIn_of _ (by decide +kernel)) ggX3_wouldTake_X3_rank
set_option maxRecDepth 20000 in
theorem ggX3_wouldTake_X3_taken : GoodIn wsX3_wouldTake wsX3_taken := goodIn_r _ [19, 20, 1, 21, 15, 22, 23, 24, 4, 25, 26, 27, 28, 29, 30, 31, 32, 11, 12, 13, 14, 33, 34, 35, 36, 37, 38, 39, 40, 41, 42, 43, 44, 45, 46, 47, 48, 49] (by decide +kernel) (by decide +kernel)
set_option maxRecDepth 20000 in
theorem gX3_wouldTake_X3_taken : GoodIn wsX3_wouldTake (wsV RX3 85 RX3 yX3_taken wsX3_taken) := goodIn_app (goodIn_of _ (by decide +kernel)) ggX3_wouldTake_X3_taken
theorem dX3_wouldTake_0 : decode cX3_wouldTake 0 = .ok (.aload_n 0, 1) := by decide +kernel
theorem dX3_wouldTake_1 : decode cX3_wouldTake 1 = .ok (.iload_n 1, 1) := by decide +kernel
theorem dX3_wouldTake_2 : decode cX3_wouldTake 2 = .ok (.ifCond .lt 22, 3) := by decide +kernel
theorem dX3_wouldTake_5 : decode cX3_wouldTake 5 = .ok (.iload_n 1, 1) := by decide +kernel
theorem dX3_wouldTake_6 : decode cX3_wouldTake 6 = .ok (.aload_n 0, 1) := by decide +kernel
theorem dX3_wouldTake_7 : decode cX3_wouldTake 7 = .ok (.getfield 76, 3) := by decide +kernel
theorem dX3_wouldTake_10 : decode cX3_wouldTake 10 = .ok (.if_icmp .ge 14, 3) := by decide +kernel
theorem dX3_wouldTake_13 : decode cX3_wouldTake 13 = .ok (.iload_n 2, 1) := by decide +kernel
theorem dX3_wouldTake_14 : decode cX3_wouldTake 14 = .ok (.invokestatic 82, 3) := by decide +kernel
theorem dX3_wouldTake_17 : decode cX3_wouldTake 17 = .ok (.ifCond .eq 7, 3) := by decide +kernel
theorem dX3_wouldTake_20 : decode cX3_wouldTake 20 = .ok (.iconst 1, 1) := by decide +kernel
theorem dX3_wouldTake_21 : decode cX3_wouldTake 21 = .ok (.goto 4, 3) := by decide +kernel
theorem dX3_wouldTake_24 : decode cX3_wouldTake 24 = .ok (.iconst 0, 1) := by decide +kernel
theorem dX3_wouldTake_25 : decode cX3_wouldTake 25 = .ok (.iconst 1, 1) := by decide +kernel
theorem dX3_wouldTake_26 : decode cX3_wouldTake 26 = .ok (.iconst 1, 1) := by decide +kernel
theorem dX3_wouldTake_27 : decode cX3_wouldTake 27 = .ok (.invokevirtual 61, 3) := by decide +kernel
theorem dX3_wouldTake_30 : decode cX3_wouldTake 30 = .ok (.ifCond .eq 20, 3) := by decide +kernel
theorem dX3_wouldTake_33 : decode cX3_wouldTake 33 = .ok (.aload_n 0, 1) := by decide +kernel
theorem dX3_wouldTake_34 : decode cX3_wouldTake 34 = .ok (.iload_n 1, 1) := by decide +kernel
theorem dX3_wouldTake_35 : decode cX3_wouldTake 35 = .ok (.invokevirtual 79, 3) := by decide +kernel
theorem dX3_wouldTake_38 : decode cX3_wouldTake 38 = .ok (.aload_n 0, 1) := by decide +kernel
theorem dX3_wouldTake_39 : decode cX3_wouldTake 39 = .ok (.iload_n 2, 1) := by decide +kernel
theorem dX3_wouldTake_40 : decode cX3_wouldTake 40 = .ok (.invokevirtual 85, 3) := by decide +kernel
theorem dX3_wouldTake_43 : decode cX3_wouldTake 43 = .ok (.if_icmp .ge 7, 3) := by decide +kernel
theorem dX3_wouldTake_46 : decode cX3_wouldTake 46 = .ok (.iconst 1, 1) := by decide +kernel
theorem dX3_wouldTake_47 : decode cX3_wouldTake 47 = .ok (.goto 4, 3) := by decide +kernel
theorem dX3_wouldTake_50 : decode cX3_wouldTake 50 = .ok (.iconst 0, 1) := by decide +kernel
theorem dX3_wouldTake_51 : decode cX3_wouldTake 51 = .ok (.ireturn, 1) := by decide +kernel
set_option maxRecDepth 20000 in
theorem ggX3_run_X3_isYear : GoodIn wsX3_run wsX3_isYear := goodIn_r _ [11] (by decide +kernel) (by decide +kernel)
set_option maxRecDepth 20000 in
theorem gX3_run_X3_isYear : GoodIn wsX3_run (va_wsS RX3 82 yX3_isYear wsX3_isYear) := goodIn_app (goodIn_of _ (by decide +kernel)) ggX3_run_X3_isYear
set_option maxRecDepth 20000 in
theorem ggX3_run_X3_goes : GoodIn wsX3_run wsX3_goes := goodIn_r _ [15, 16, 44, 45, 46, 47, 48, 49, 50, 51, 52, 53, 54, 55, 56, 57, 58, 59, 60] (by decide +kernel) (by decide +kernel)
set_option maxRecDepth 20000 in
theorem gX3_run_X3_goes : GoodIn wsX3_run (wsV RX3 61 RX3 yX3_goes wsX3_goes) := goodIn_app (goodIn_of _ (by decide +kernel)) ggX3_run_X3_goes
set_option maxRecDepth 20000 in
theorem ggX3_run_X3_taken : GoodIn wsX3_run wsX3_taken := goodIn_r _ [20, 3, 1, 4, 21, 22, 23, 24, 10, 25, 26, 27, 28, 29, 30, 31, 32, 33, 34, 35, 36, 44, 45, 46, 47, 48, 49, 50, 51, 52, 53, 54, 55, 56, 57, 58, 59, 60] (by decide +kernel) (by decide +kernel)
set_option maxRecDepth 20000 in
theorem gX3_run_X3_taken : GoodIn wsX3_run (wsV RX3 85 RX3 yX3_taken wsX3_taken) := goodIn_app (goodIn_of _ (by decide +kernel)) ggX3_run_X3_taken
set_option maxRecDepth 20000 in
theorem ggX3_run_X3_price : GoodIn wsX3_run wsX3_price := goodIn_r _ [40, 1, 21, 33, 34, 35, 10, 36, 44, 45, 46, 47, 48, 49, 50, 51, 52, 53, 54, 55, 56, 57, 58, 59, 60] (by decide +kernel) (by decide +kernel)
set_option maxRecDepth 20000 in
theorem gX3_run_X3_price : GoodIn wsX3_run (wsV RX3 88 RX3 yX3_price wsX3_price) := goodIn_app (goodIn_of _ (by decide +kernel)) ggX3_run_X3_price
set_option maxRecDepth 20000 in
theorem ggX3_run_X3_rank : GoodIn wsX3_run wsX3_rank := goodIn_r _ [36, 1, 21, 44, 45, 46, 47, 48, 49, 50, 51, 52, 53, 54, 55, 56, 57, 58, 59, 60] (by decide +kernel) (by decide +kernel)
set_option maxRecDepth 20000 in
theorem gX3_run_X3_rank : GoodIn wsX3_run (wsV RX3 79 RX3 yX3_rank wsX3_rank) := goodIn_app (goodIn_of _ (by decide +kernel)) ggX3_run_X3_rank
set_option maxRecDepth 20000 in
theorem ggX3_run_X3_place : GoodIn wsX3_run wsX3_place := goodIn_r _ [43] (by decide +kernel) (by decide +kernel)
set_option maxRecDepth 20000 in
theorem gX3_run_X3_place : GoodIn wsX3_run (va_wsS RX3 94 yX3_place wsX3_place) := goodIn_app (goodIn_of _ (by decide +kernel)) ggX3_run_X3_place
theorem dX3_run_0 : decode cX3_run 0 = .ok (.aload_n 0, 1) := by decide +kernel
theorem dX3_run_1 : decode cX3_run 1 = .ok (.iload_n 1, 1) := by decide +kernel
theorem dX3_run_2 : decode cX3_run 2 = .ok (.invokestatic 82, 3) := by decide +kernel
theorem dX3_run_5 : decode cX3_run 5 = .ok (.aload_n 0, 1) := by decide +kernel
theorem dX3_run_6 : decode cX3_run 6 = .ok (.getfield 76, 3) := by decide +kernel
theorem dX3_run_9 : decode cX3_run 9 = .ok (.ifCond .le 7, 3) := by decide +kernel
theorem dX3_run_12 : decode cX3_run 12 = .ok (.iconst 1, 1) := by decide +kernel
theorem dX3_run_13 : decode cX3_run 13 = .ok (.goto 4, 3) := by decide +kernel
theorem dX3_run_16 : decode cX3_run 16 = .ok (.iconst 0, 1) := by decide +kernel
theorem dX3_run_17 : decode cX3_run 17 = .ok (.iconst 1, 1) := by decide +kernel
theorem dX3_run_18 : decode cX3_run 18 = .ok (.invokevirtual 61, 3) := by decide +kernel
theorem dX3_run_21 : decode cX3_run 21 = .ok (.ifCond .ne 5, 3) := by decide +kernel
theorem dX3_run_24 : decode cX3_run 24 = .ok (.iconst 0, 1) := by decide +kernel
theorem dX3_run_25 : decode cX3_run 25 = .ok (.ireturn, 1) := by decide +kernel
theorem dX3_run_26 : decode cX3_run 26 = .ok (.aload_n 0, 1) := by decide +kernel
theorem dX3_run_27 : decode cX3_run 27 = .ok (.iload_n 1, 1) := by decide +kernel
theorem dX3_run_28 : decode cX3_run 28 = .ok (.invokevirtual 85, 3) := by decide +kernel
theorem dX3_run_31 : decode cX3_run 31 = .ok (.istore_n 2, 1) := by decide +kernel
theorem dX3_run_32 : decode cX3_run 32 = .ok (.aload_n 0, 1) := by decide +kernel
theorem dX3_run_33 : decode cX3_run 33 = .ok (.iload_n 2, 1) := by decide +kernel
theorem dX3_run_34 : decode cX3_run 34 = .ok (.invokevirtual 88, 3) := by decide +kernel
theorem dX3_run_37 : decode cX3_run 37 = .ok (.istore_n 3, 1) := by decide +kernel
theorem dX3_run_38 : decode cX3_run 38 = .ok (.iconst 0, 1) := by decide +kernel
theorem dX3_run_39 : decode cX3_run 39 = .ok (.istore 4, 2) := by decide +kernel
theorem dX3_run_41 : decode cX3_run 41 = .ok (.iload 4, 2) := by decide +kernel
theorem dX3_run_43 : decode cX3_run 43 = .ok (.aload_n 0, 1) := by decide +kernel
theorem dX3_run_44 : decode cX3_run 44 = .ok (.getfield 76, 3) := by decide +kernel
theorem dX3_run_47 : decode cX3_run 47 = .ok (.if_icmp .ge 141, 3) := by decide +kernel
theorem dX3_run_50 : decode cX3_run 50 = .ok (.iload_n 1, 1) := by decide +kernel
theorem dX3_run_51 : decode cX3_run 51 = .ok (.istore 5, 2) := by decide +kernel
theorem dX3_run_53 : decode cX3_run 53 = .ok (.iload 5, 2) := by decide +kernel
theorem dX3_run_55 : decode cX3_run 55 = .ok (.bipush 8, 2) := by decide +kernel
theorem dX3_run_57 : decode cX3_run 57 = .ok (.if_icmp .ge 125, 3) := by decide +kernel
theorem dX3_run_60 : decode cX3_run 60 = .ok (.iload 5, 2) := by decide +kernel
theorem dX3_run_62 : decode cX3_run 62 = .ok (.iload_n 1, 1) := by decide +kernel
theorem dX3_run_63 : decode cX3_run 63 = .ok (.aload_n 0, 1) := by decide +kernel
theorem dX3_run_64 : decode cX3_run 64 = .ok (.getfield 29, 3) := by decide +kernel
theorem dX3_run_67 : decode cX3_run 67 = .ok (.iload 4, 2) := by decide +kernel
theorem dX3_run_69 : decode cX3_run 69 = .ok (.iaload, 1) := by decide +kernel
theorem dX3_run_70 : decode cX3_run 70 = .ok (.iadd, 1) := by decide +kernel
theorem dX3_run_71 : decode cX3_run 71 = .ok (.if_icmp .ge 111, 3) := by decide +kernel
theorem dX3_run_74 : decode cX3_run 74 = .ok (.aload_n 0, 1) := by decide +kernel
theorem dX3_run_75 : decode cX3_run 75 = .ok (.iload 4, 2) := by decide +kernel
theorem dX3_run_77 : decode cX3_run 77 = .ok (.invokevirtual 79, 3) := by decide +kernel
theorem dX3_run_80 : decode cX3_run 80 = .ok (.iload_n 2, 1) := by decide +kernel
theorem dX3_run_81 : decode cX3_run 81 = .ok (.if_icmp .ge 101, 3) := by decide +kernel
theorem dX3_run_84 : decode cX3_run 84 = .ok (.aload_n 0, 1) := by decide +kernel
theorem dX3_run_85 : decode cX3_run 85 = .ok (.getfield 32, 3) := by decide +kernel
theorem dX3_run_88 : decode cX3_run 88 = .ok (.iload 5, 2) := by decide +kernel
theorem dX3_run_90 : decode cX3_run 90 = .ok (.dup2, 1) := by decide +kernel
theorem dX3_run_91 : decode cX3_run 91 = .ok (.iaload, 1) := by decide +kernel
theorem dX3_run_92 : decode cX3_run 92 = .ok (.aload_n 0, 1) := by decide +kernel
theorem dX3_run_93 : decode cX3_run 93 = .ok (.getfield 23, 3) := by decide +kernel
theorem dX3_run_96 : decode cX3_run 96 = .ok (.iload 4, 2) := by decide +kernel
theorem dX3_run_98 : decode cX3_run 98 = .ok (.iaload, 1) := by decide +kernel
theorem dX3_run_99 : decode cX3_run 99 = .ok (.iadd, 1) := by decide +kernel
theorem dX3_run_100 : decode cX3_run 100 = .ok (.iastore, 1) := by decide +kernel
theorem dX3_run_101 : decode cX3_run 101 = .ok (.aload_n 0, 1) := by decide +kernel
theorem dX3_run_102 : decode cX3_run 102 = .ok (.getfield 35, 3) := by decide +kernel
theorem dX3_run_105 : decode cX3_run 105 = .ok (.aload_n 0, 1) := by decide +kernel
theorem dX3_run_106 : decode cX3_run 106 = .ok (.getfield 19, 3) := by decide +kernel
theorem dX3_run_109 : decode cX3_run 109 = .ok (.iload 4, 2) := by decide +kernel
theorem dX3_run_111 : decode cX3_run 111 = .ok (.iaload, 1) := by decide +kernel
theorem dX3_run_112 : decode cX3_run 112 = .ok (.bipush 8, 2) := by decide +kernel
theorem dX3_run_114 : decode cX3_run 114 = .ok (.imul, 1) := by decide +kernel
theorem dX3_run_115 : decode cX3_run 115 = .ok (.iload 5, 2) := by decide +kernel
theorem dX3_run_117 : decode cX3_run 117 = .ok (.iadd, 1) := by decide +kernel
theorem dX3_run_118 : decode cX3_run 118 = .ok (.dup2, 1) := by decide +kernel
theorem dX3_run_119 : decode cX3_run 119 = .ok (.iaload, 1) := by decide +kernel
theorem dX3_run_120 : decode cX3_run 120 = .ok (.aload_n 0, 1) := by decide +kernel
theorem dX3_run_121 : decode cX3_run 121 = .ok (.getfield 23, 3) := by decide +kernel
theorem dX3_run_124 : decode cX3_run 124 = .ok (.iload 4, 2) := by decide +kernel
theorem dX3_run_126 : decode cX3_run 126 = .ok (.iaload, 1) := by decide +kernel
theorem dX3_run_127 : decode cX3_run 127 = .ok (.iload_n 3, 1) := by decide +kernel
theorem dX3_run_128 : decode cX3_run 128 = .ok (.imul, 1) := by decide +kernel
theorem dX3_run_129 : decode cX3_run 129 = .ok (.iadd, 1) := by decide +kernel
theorem dX3_run_130 : decode cX3_run 130 = .ok (.iastore, 1) := by decide +kernel
theorem dX3_run_131 : decode cX3_run 131 = .ok (.iconst 0, 1) := by decide +kernel
theorem dX3_run_132 : decode cX3_run 132 = .ok (.istore 6, 2) := by decide +kernel
theorem dX3_run_134 : decode cX3_run 134 = .ok (.iload 6, 2) := by decide +kernel
theorem dX3_run_136 : decode cX3_run 136 = .ok (.bipush 12, 2) := by decide +kernel
theorem dX3_run_138 : decode cX3_run 138 = .ok (.if_icmp .ge 38, 3) := by decide +kernel
theorem dX3_run_141 : decode cX3_run 141 = .ok (.aload_n 0, 1) := by decide +kernel
theorem dX3_run_142 : decode cX3_run 142 = .ok (.getfield 38, 3) := by decide +kernel
theorem dX3_run_145 : decode cX3_run 145 = .ok (.aload_n 0, 1) := by decide +kernel
theorem dX3_run_146 : decode cX3_run 146 = .ok (.getfield 19, 3) := by decide +kernel
theorem dX3_run_149 : decode cX3_run 149 = .ok (.iload 4, 2) := by decide +kernel
theorem dX3_run_151 : decode cX3_run 151 = .ok (.iaload, 1) := by decide +kernel
theorem dX3_run_152 : decode cX3_run 152 = .ok (.iload 5, 2) := by decide +kernel
theorem dX3_run_154 : decode cX3_run 154 = .ok (.iload 6, 2) := by decide +kernel
theorem dX3_run_156 : decode cX3_run 156 = .ok (.invokestatic 94, 3) := by decide +kernel
theorem dX3_run_159 : decode cX3_run 159 = .ok (.dup2, 1) := by decide +kernel
theorem dX3_run_160 : decode cX3_run 160 = .ok (.iaload, 1) := by decide +kernel
theorem dX3_run_161 : decode cX3_run 161 = .ok (.aload_n 0, 1) := by decide +kernel
theorem dX3_run_162 : decode cX3_run 162 = .ok (.getfield 23, 3) := by decide +kernel
theorem dX3_run_165 : decode cX3_run 165 = .ok (.iload 4, 2) := by decide +kernel
theorem dX3_run_167 : decode cX3_run 167 = .ok (.iaload, 1) := by decide +kernel
theorem dX3_run_168 : decode cX3_run 168 = .ok (.iadd, 1) := by decide +kernel
theorem dX3_run_169 : decode cX3_run 169 = .ok (.iastore, 1) := by decide +kernel
theorem dX3_run_170 : decode cX3_run 170 = .ok (.iinc 6 1, 3) := by decide +kernel
theorem dX3_run_173 : decode cX3_run 173 = .ok (.goto (-39), 3) := by decide +kernel
theorem dX3_run_176 : decode cX3_run 176 = .ok (.iinc 5 1, 3) := by decide +kernel
theorem dX3_run_179 : decode cX3_run 179 = .ok (.goto (-126), 3) := by decide +kernel
theorem dX3_run_182 : decode cX3_run 182 = .ok (.iinc 4 1, 3) := by decide +kernel
theorem dX3_run_185 : decode cX3_run 185 = .ok (.goto (-144), 3) := by decide +kernel
theorem dX3_run_188 : decode cX3_run 188 = .ok (.aload_n 0, 1) := by decide +kernel
theorem dX3_run_189 : decode cX3_run 189 = .ok (.iconst 0, 1) := by decide +kernel
theorem dX3_run_190 : decode cX3_run 190 = .ok (.putfield 76, 3) := by decide +kernel
theorem dX3_run_193 : decode cX3_run 193 = .ok (.iload_n 2, 1) := by decide +kernel
theorem dX3_run_194 : decode cX3_run 194 = .ok (.ireturn, 1) := by decide +kernel
set_option maxRecDepth 20000 in
theorem ggX3_bought_X3_isYear : GoodIn wsX3_bought wsX3_isYear := goodIn_r _ [5] (by decide +kernel) (by decide +kernel)
set_option maxRecDepth 20000 in
theorem gX3_bought_X3_isYear : GoodIn wsX3_bought (va_wsS RX3 82 yX3_isYear wsX3_isYear) := goodIn_app (goodIn_of _ (by decide +kernel)) ggX3_bought_X3_isYear
set_option maxRecDepth 20000 in
theorem ggX3_bought_X3_goes : GoodIn wsX3_bought wsX3_goes := goodIn_r _ [9, 10, 11, 12, 13, 14, 15, 16, 17, 18, 19, 20, 21, 22, 23, 24, 25, 26, 27] (by decide +kernel) (by decide +kernel)
set_option maxRecDepth 20000 in
theorem gX3_bought_X3_goes : GoodIn wsX3_bought (wsV RX3 61 RX3 yX3_goes wsX3_goes) := goodIn_app (goodIn_of _ (by decide +kernel)) ggX3_bought_X3_goes
theorem dX3_bought_0 : decode cX3_bought 0 = .ok (.aload_n 0, 1) := by decide +kernel
theorem dX3_bought_1 : decode cX3_bought 1 = .ok (.iload_n 1, 1) := by decide +kernel
theorem dX3_bought_2 : decode cX3_bought 2 = .ok (.invokestatic 82, 3) := by decide +kernel
theorem dX3_bought_5 : decode cX3_bought 5 = .ok (.iconst 1, 1) := by decide +kernel
theorem dX3_bought_6 : decode cX3_bought 6 = .ok (.iconst 1, 1) := by decide +kernel
theorem dX3_bought_7 : decode cX3_bought 7 = .ok (.invokevirtual 61, 3) := by decide +kernel
theorem dX3_bought_10 : decode cX3_bought 10 = .ok (.ifCond .eq 12, 3) := by decide +kernel
theorem dX3_bought_13 : decode cX3_bought 13 = .ok (.aload_n 0, 1) := by decide +kernel
theorem dX3_bought_14 : decode cX3_bought 14 = .ok (.getfield 32, 3) := by decide +kernel
theorem dX3_bought_17 : decode cX3_bought 17 = .ok (.iload_n 1, 1) := by decide +kernel
theorem dX3_bought_18 : decode cX3_bought 18 = .ok (.iaload, 1) := by decide +kernel
theorem dX3_bought_19 : decode cX3_bought 19 = .ok (.goto 4, 3) := by decide +kernel
theorem dX3_bought_22 : decode cX3_bought 22 = .ok (.iconst 0, 1) := by decide +kernel
theorem dX3_bought_23 : decode cX3_bought 23 = .ok (.ireturn, 1) := by decide +kernel
set_option maxRecDepth 20000 in
theorem ggX3_income_X3_isParty : GoodIn wsX3_income wsX3_isParty := goodIn_r _ [5] (by decide +kernel) (by decide +kernel)
set_option maxRecDepth 20000 in
theorem gX3_income_X3_isParty : GoodIn wsX3_income (va_wsS RX3 72 yX3_isParty wsX3_isParty) := goodIn_app (goodIn_of _ (by decide +kernel)) ggX3_income_X3_isParty
set_option maxRecDepth 20000 in
theorem ggX3_income_X3_isYear : GoodIn wsX3_income wsX3_isYear := goodIn_r _ [8] (by decide +kernel) (by decide +kernel)
set_option maxRecDepth 20000 in
theorem gX3_income_X3_isYear : GoodIn wsX3_income (va_wsS RX3 82 yX3_isYear wsX3_isYear) := goodIn_app (goodIn_of _ (by decide +kernel)) ggX3_income_X3_isYear
set_option maxRecDepth 20000 in
theorem ggX3_income_X3_goes : GoodIn wsX3_income wsX3_goes := goodIn_r _ [12, 13, 14, 15, 16, 17, 18, 19, 20, 21, 22, 23, 24, 25, 26, 27, 28, 29, 30] (by decide +kernel) (by decide +kernel)
set_option maxRecDepth 20000 in
theorem gX3_income_X3_goes : GoodIn wsX3_income (wsV RX3 61 RX3 yX3_goes wsX3_goes) := goodIn_app (goodIn_of _ (by decide +kernel)) ggX3_income_X3_goes
theorem dX3_income_0 : decode cX3_income 0 = .ok (.aload_n 0, 1) := by decide +kernel
theorem dX3_income_1 : decode cX3_income 1 = .ok (.iload_n 1, 1) := by decide +kernel
theorem dX3_income_2 : decode cX3_income 2 = .ok (.invokestatic 72, 3) := by decide +kernel
theorem dX3_income_5 : decode cX3_income 5 = .ok (.ifCond .eq 14, 3) := by decide +kernel
theorem dX3_income_8 : decode cX3_income 8 = .ok (.iload_n 2, 1) := by decide +kernel
theorem dX3_income_9 : decode cX3_income 9 = .ok (.invokestatic 82, 3) := by decide +kernel
theorem dX3_income_12 : decode cX3_income 12 = .ok (.ifCond .eq 7, 3) := by decide +kernel
theorem dX3_income_15 : decode cX3_income 15 = .ok (.iconst 1, 1) := by decide +kernel
theorem dX3_income_16 : decode cX3_income 16 = .ok (.goto 4, 3) := by decide +kernel
theorem dX3_income_19 : decode cX3_income 19 = .ok (.iconst 0, 1) := by decide +kernel
theorem dX3_income_20 : decode cX3_income 20 = .ok (.iconst 1, 1) := by decide +kernel
theorem dX3_income_21 : decode cX3_income 21 = .ok (.iconst 1, 1) := by decide +kernel
theorem dX3_income_22 : decode cX3_income 22 = .ok (.invokevirtual 61, 3) := by decide +kernel
theorem dX3_income_25 : decode cX3_income 25 = .ok (.ifCond .eq 17, 3) := by decide +kernel
theorem dX3_income_28 : decode cX3_income 28 = .ok (.aload_n 0, 1) := by decide +kernel
theorem dX3_income_29 : decode cX3_income 29 = .ok (.getfield 35, 3) := by decide +kernel
theorem dX3_income_32 : decode cX3_income 32 = .ok (.iload_n 1, 1) := by decide +kernel
theorem dX3_income_33 : decode cX3_income 33 = .ok (.bipush 8, 2) := by decide +kernel
theorem dX3_income_35 : decode cX3_income 35 = .ok (.imul, 1) := by decide +kernel
theorem dX3_income_36 : decode cX3_income 36 = .ok (.iload_n 2, 1) := by decide +kernel
theorem dX3_income_37 : decode cX3_income 37 = .ok (.iadd, 1) := by decide +kernel
theorem dX3_income_38 : decode cX3_income 38 = .ok (.iaload, 1) := by decide +kernel
theorem dX3_income_39 : decode cX3_income 39 = .ok (.goto 4, 3) := by decide +kernel
theorem dX3_income_42 : decode cX3_income 42 = .ok (.iconst 0, 1) := by decide +kernel
theorem dX3_income_43 : decode cX3_income 43 = .ok (.ireturn, 1) := by decide +kernel
set_option maxRecDepth 20000 in
theorem ggX3_obligation_X3_isParty : GoodIn wsX3_obligation wsX3_isParty := goodIn_r _ [5] (by decide +kernel) (by decide +kernel)
set_option maxRecDepth 20000 in
theorem gX3_obligation_X3_isParty : GoodIn wsX3_obligation (va_wsS RX3 72 yX3_isParty wsX3_isParty) := goodIn_app (goodIn_of _ (by decide +kernel)) ggX3_obligation_X3_isParty
set_option maxRecDepth 20000 in
theorem ggX3_obligation_X3_isYear : GoodIn wsX3_obligation wsX3_isYear := goodIn_r _ [8] (by decide +kernel) (by decide +kernel)
set_option maxRecDepth 20000 in
theorem gX3_obligation_X3_isYear : GoodIn wsX3_obligation (va_wsS RX3 82 yX3_isYear wsX3_isYear) := goodIn_app (goodIn_of _ (by decide +kernel)) ggX3_obligation_X3_isYear
set_option maxRecDepth 20000 in
theorem ggX3_obligation_X3_isHour : GoodIn wsX3_obligation wsX3_isHour := goodIn_r _ [11] (by decide +kernel) (by decide +kernel)
set_option maxRecDepth 20000 in
theorem gX3_obligation_X3_isHour : GoodIn wsX3_obligation (va_wsS RX3 98 yX3_isHour wsX3_isHour) := goodIn_app (goodIn_of _ (by decide +kernel)) ggX3_obligation_X3_isHour
set_option maxRecDepth 20000 in
theorem ggX3_obligation_X3_goes : GoodIn wsX3_obligation wsX3_goes := goodIn_r _ [15, 16, 20, 21, 22, 23, 24, 25, 26, 27, 28, 29, 30, 31, 32, 33, 34, 35, 36] (by decide +kernel) (by decide +kernel)
set_option maxRecDepth 20000 in
theorem gX3_obligation_X3_goes : GoodIn wsX3_obligation (wsV RX3 61 RX3 yX3_goes wsX3_goes) := goodIn_app (goodIn_of _ (by decide +kernel)) ggX3_obligation_X3_goes
set_option maxRecDepth 20000 in
theorem ggX3_obligation_X3_place : GoodIn wsX3_obligation wsX3_place := goodIn_r _ [19] (by decide +kernel) (by decide +kernel)
set_option maxRecDepth 20000 in
theorem gX3_obligation_X3_place : GoodIn wsX3_obligation (va_wsS RX3 94 yX3_place wsX3_place) := goodIn_app (goodIn_of _ (by decide +kernel)) ggX3_obligation_X3_place
theorem dX3_obligation_0 : decode cX3_obligation 0 = .ok (.aload_n 0, 1) := by decide +kernel
theorem dX3_obligation_1 : decode cX3_obligation 1 = .ok (.iload_n 1, 1) := by decide +kernel
theorem dX3_obligation_2 : decode cX3_obligation 2 = .ok (.invokestatic 72, 3) := by decide +kernel
theorem dX3_obligation_5 : decode cX3_obligation 5 = .ok (.ifCond .eq 21, 3) := by decide +kernel
theorem dX3_obligation_8 : decode cX3_obligation 8 = .ok (.iload_n 2, 1) := by decide +kernel
theorem dX3_obligation_9 : decode cX3_obligation 9 = .ok (.invokestatic 82, 3) := by decide +kernel
theorem dX3_obligation_12 : decode cX3_obligation 12 = .ok (.ifCond .eq 14, 3) := by decide +kernel
theorem dX3_obligation_15 : decode cX3_obligation 15 = .ok (.iload_n 3, 1) := by decide +kernel
theorem dX3_obligation_16 : decode cX3_obligation 16 = .ok (.invokestatic 98, 3) := by decide +kernel
theorem dX3_obligation_19 : decode cX3_obligation 19 = .ok (.ifCond .eq 7, 3) := by decide +kernel
theorem dX3_obligation_22 : decode cX3_obligation 22 = .ok (.iconst 1, 1) := by decide +kernel
theorem dX3_obligation_23 : decode cX3_obligation 23 = .ok (.goto 4, 3) := by decide +kernel
theorem dX3_obligation_26 : decode cX3_obligation 26 = .ok (.iconst 0, 1) := by decide +kernel
theorem dX3_obligation_27 : decode cX3_obligation 27 = .ok (.iconst 1, 1) := by decide +kernel
theorem dX3_obligation_28 : decode cX3_obligation 28 = .ok (.iconst 1, 1) := by decide +kernel
theorem dX3_obligation_29 : decode cX3_obligation 29 = .ok (.invokevirtual 61, 3) := by decide +kernel
theorem dX3_obligation_32 : decode cX3_obligation 32 = .ok (.ifCond .eq 17, 3) := by decide +kernel
theorem dX3_obligation_35 : decode cX3_obligation 35 = .ok (.aload_n 0, 1) := by decide +kernel
theorem dX3_obligation_36 : decode cX3_obligation 36 = .ok (.getfield 38, 3) := by decide +kernel
theorem dX3_obligation_39 : decode cX3_obligation 39 = .ok (.iload_n 1, 1) := by decide +kernel
theorem dX3_obligation_40 : decode cX3_obligation 40 = .ok (.iload_n 2, 1) := by decide +kernel
theorem dX3_obligation_41 : decode cX3_obligation 41 = .ok (.iload_n 3, 1) := by decide +kernel
theorem dX3_obligation_42 : decode cX3_obligation 42 = .ok (.invokestatic 94, 3) := by decide +kernel
theorem dX3_obligation_45 : decode cX3_obligation 45 = .ok (.iaload, 1) := by decide +kernel
theorem dX3_obligation_46 : decode cX3_obligation 46 = .ok (.goto 4, 3) := by decide +kernel
theorem dX3_obligation_49 : decode cX3_obligation 49 = .ok (.iconst 0, 1) := by decide +kernel
theorem dX3_obligation_50 : decode cX3_obligation 50 = .ok (.ireturn, 1) := by decide +kernel
set_option maxRecDepth 20000 in
theorem ggX3_least_X3_place : GoodIn wsX3_least wsX3_place := goodIn_r _ [5] (by decide +kernel) (by decide +kernel)
set_option maxRecDepth 20000 in
theorem gX3_least_X3_place : GoodIn wsX3_least (va_wsS RX3 94 yX3_place wsX3_place) := goodIn_app (goodIn_of _ (by decide +kernel)) ggX3_least_X3_place
theorem dX3_least_0 : decode cX3_least 0 = .ok (.aload_n 0, 1) := by decide +kernel
theorem dX3_least_1 : decode cX3_least 1 = .ok (.getfield 38, 3) := by decide +kernel
theorem dX3_least_4 : decode cX3_least 4 = .ok (.iload_n 1, 1) := by decide +kernel
theorem dX3_least_5 : decode cX3_least 5 = .ok (.iload_n 2, 1) := by decide +kernel
theorem dX3_least_6 : decode cX3_least 6 = .ok (.iload_n 3, 1) := by decide +kernel
theorem dX3_least_7 : decode cX3_least 7 = .ok (.invokestatic 94, 3) := by decide +kernel
theorem dX3_least_10 : decode cX3_least 10 = .ok (.iaload, 1) := by decide +kernel
theorem dX3_least_11 : decode cX3_least 11 = .ok (.istore 5, 2) := by decide +kernel
theorem dX3_least_13 : decode cX3_least 13 = .ok (.iload_n 3, 1) := by decide +kernel
theorem dX3_least_14 : decode cX3_least 14 = .ok (.istore 6, 2) := by decide +kernel
theorem dX3_least_16 : decode cX3_least 16 = .ok (.iload 6, 2) := by decide +kernel
theorem dX3_least_18 : decode cX3_least 18 = .ok (.iload 4, 2) := by decide +kernel
theorem dX3_least_20 : decode cX3_least 20 = .ok (.if_icmp .gt 39, 3) := by decide +kernel
theorem dX3_least_23 : decode cX3_least 23 = .ok (.aload_n 0, 1) := by decide +kernel
theorem dX3_least_24 : decode cX3_least 24 = .ok (.getfield 38, 3) := by decide +kernel
theorem dX3_least_27 : decode cX3_least 27 = .ok (.iload_n 1, 1) := by decide +kernel
theorem dX3_least_28 : decode cX3_least 28 = .ok (.iload_n 2, 1) := by decide +kernel
theorem dX3_least_29 : decode cX3_least 29 = .ok (.iload 6, 2) := by decide +kernel
theorem dX3_least_31 : decode cX3_least 31 = .ok (.invokestatic 94, 3) := by decide +kernel
theorem dX3_least_34 : decode cX3_least 34 = .ok (.iaload, 1) := by decide +kernel
theorem dX3_least_35 : decode cX3_least 35 = .ok (.istore 7, 2) := by decide +kernel
theorem dX3_least_37 : decode cX3_least 37 = .ok (.iload 7, 2) := by decide +kernel
theorem dX3_least_39 : decode cX3_least 39 = .ok (.iload 5, 2) := by decide +kernel
theorem dX3_least_41 : decode cX3_least 41 = .ok (.if_icmp .ge 8, 3) := by decide +kernel
theorem dX3_least_44 : decode cX3_least 44 = .ok (.iload 7, 2) := by decide +kernel
theorem dX3_least_46 : decode cX3_least 46 = .ok (.goto 5, 3) := by decide +kernel
theorem dX3_least_49 : decode cX3_least 49 = .ok (.iload 5, 2) := by decide +kernel
theorem dX3_least_51 : decode cX3_least 51 = .ok (.istore 5, 2) := by decide +kernel
theorem dX3_least_53 : decode cX3_least 53 = .ok (.iinc 6 1, 3) := by decide +kernel
theorem dX3_least_56 : decode cX3_least 56 = .ok (.goto (-40), 3) := by decide +kernel
theorem dX3_least_59 : decode cX3_least 59 = .ok (.iload 5, 2) := by decide +kernel
theorem dX3_least_61 : decode cX3_least 61 = .ok (.ireturn, 1) := by decide +kernel
set_option maxRecDepth 20000 in
theorem ggX3_trade_X3_isParty : GoodIn wsX3_trade wsX3_isParty := goodIn_r _ [6] (by decide +kernel) (by decide +kernel)
set_option maxRecDepth 20000 in
theorem gX3_trade_X3_isParty : GoodIn wsX3_trade (va_wsS RX3 72 yX3_isParty wsX3_isParty) := goodIn_app (goodIn_of _ (by decide +kernel)) ggX3_trade_X3_isParty
set_option maxRecDepth 20000 in
theorem ggX3_trade_X3_isYear : GoodIn wsX3_trade wsX3_isYear := goodIn_r _ [9] (by decide +kernel) (by decide +kernel)
set_option maxRecDepth 20000 in
theorem gX3_trade_X3_isYear : GoodIn wsX3_trade (va_wsS RX3 82 yX3_isYear wsX3_isYear) := goodIn_app (goodIn_of _ (by decide +kernel)) ggX3_trade_X3_isYear
set_option maxRecDepth 20000 in
theorem ggX3_trade_X3_isHour : GoodIn wsX3_trade wsX3_isHour := goodIn_r _ [12] (by decide +kernel) (by decide +kernel)
set_option maxRecDepth 20000 in
theorem gX3_trade_X3_isHour : GoodIn wsX3_trade (va_wsS RX3 98 yX3_isHour wsX3_isHour) := goodIn_app (goodIn_of _ (by decide +kernel)) ggX3_trade_X3_isHour
set_option maxRecDepth 20000 in
theorem ggX3_trade_X3_isWithin : GoodIn wsX3_trade wsX3_isWithin := goodIn_r _ [15] (by decide +kernel) (by decide +kernel)
set_option maxRecDepth 20000 in
theorem gX3_trade_X3_isWithin : GoodIn wsX3_trade (va_wsS RX3 57 yX3_isWithin wsX3_isWithin) := goodIn_app (goodIn_of _ (by decide +kernel)) ggX3_trade_X3_isWithin
set_option maxRecDepth 20000 in
theorem ggX3_trade_X3_least : GoodIn wsX3_trade wsX3_least := goodIn_r _ [19, 1, 20, 21, 5, 22, 28, 29, 30, 31, 32, 33, 34, 35, 36, 37, 38, 39, 40, 41, 42, 43, 44] (by decide +kernel) (by decide +kernel)
set_option maxRecDepth 20000 in
theorem gX3_trade_X3_least : GoodIn wsX3_trade (wsV RX3 101 RX3 yX3_least wsX3_least) := goodIn_app (goodIn_of _ (by decide +kernel)) ggX3_trade_X3_least
set_option maxRecDepth 20000 in
theorem ggX3_trade_X3_goes : GoodIn wsX3_trade wsX3_goes := goodIn_r _ [26, 27, 28, 29, 30, 31, 32, 33, 34, 35, 36, 37, 38, 39, 40, 41, 42, 43, 44] (by decide +kernel) (by decide +kernel)
set_option maxRecDepth 20000 in
theorem gX3_trade_X3_goes : GoodIn wsX3_trade (wsV RX3 61 RX3 yX3_goes wsX3_goes) := goodIn_app (goodIn_of _ (by decide +kernel)) ggX3_trade_X3_goes
set_option maxRecDepth 20000 in
theorem ggX3_trade_X3_place : GoodIn wsX3_trade wsX3_place := goodIn_r _ [22] (by decide +kernel) (by decide +kernel)
set_option maxRecDepth 20000 in
theorem gX3_trade_X3_place : GoodIn wsX3_trade (va_wsS RX3 94 yX3_place wsX3_place) := goodIn_app (goodIn_of _ (by decide +kernel)) ggX3_trade_X3_place
theorem dX3_trade_0 : decode cX3_trade 0 = .ok (.iload_n 1, 1) := by decide +kernel
theorem dX3_trade_1 : decode cX3_trade 1 = .ok (.invokestatic 72, 3) := by decide +kernel
theorem dX3_trade_4 : decode cX3_trade 4 = .ok (.ifCond .eq 37, 3) := by decide +kernel
theorem dX3_trade_7 : decode cX3_trade 7 = .ok (.iload_n 2, 1) := by decide +kernel
theorem dX3_trade_8 : decode cX3_trade 8 = .ok (.invokestatic 72, 3) := by decide +kernel
theorem dX3_trade_11 : decode cX3_trade 11 = .ok (.ifCond .eq 30, 3) := by decide +kernel
theorem dX3_trade_14 : decode cX3_trade 14 = .ok (.iload_n 3, 1) := by decide +kernel
theorem dX3_trade_15 : decode cX3_trade 15 = .ok (.invokestatic 82, 3) := by decide +kernel
theorem dX3_trade_18 : decode cX3_trade 18 = .ok (.ifCond .eq 23, 3) := by decide +kernel
theorem dX3_trade_21 : decode cX3_trade 21 = .ok (.iload 4, 2) := by decide +kernel
theorem dX3_trade_23 : decode cX3_trade 23 = .ok (.invokestatic 98, 3) := by decide +kernel
theorem dX3_trade_26 : decode cX3_trade 26 = .ok (.ifCond .eq 15, 3) := by decide +kernel
theorem dX3_trade_29 : decode cX3_trade 29 = .ok (.iload 5, 2) := by decide +kernel
theorem dX3_trade_31 : decode cX3_trade 31 = .ok (.invokestatic 98, 3) := by decide +kernel
theorem dX3_trade_34 : decode cX3_trade 34 = .ok (.ifCond .eq 7, 3) := by decide +kernel
theorem dX3_trade_37 : decode cX3_trade 37 = .ok (.iconst 1, 1) := by decide +kernel
theorem dX3_trade_38 : decode cX3_trade 38 = .ok (.goto 4, 3) := by decide +kernel
theorem dX3_trade_41 : decode cX3_trade 41 = .ok (.iconst 0, 1) := by decide +kernel
theorem dX3_trade_42 : decode cX3_trade 42 = .ok (.istore 7, 2) := by decide +kernel
theorem dX3_trade_44 : decode cX3_trade 44 = .ok (.iload_n 1, 1) := by decide +kernel
theorem dX3_trade_45 : decode cX3_trade 45 = .ok (.iload_n 2, 1) := by decide +kernel
theorem dX3_trade_46 : decode cX3_trade 46 = .ok (.if_icmp .eq 26, 3) := by decide +kernel
theorem dX3_trade_49 : decode cX3_trade 49 = .ok (.iload 4, 2) := by decide +kernel
theorem dX3_trade_51 : decode cX3_trade 51 = .ok (.iload 5, 2) := by decide +kernel
theorem dX3_trade_53 : decode cX3_trade 53 = .ok (.if_icmp .gt 19, 3) := by decide +kernel
theorem dX3_trade_56 : decode cX3_trade 56 = .ok (.iload 6, 2) := by decide +kernel
theorem dX3_trade_58 : decode cX3_trade 58 = .ok (.iconst 1, 1) := by decide +kernel
theorem dX3_trade_59 : decode cX3_trade 59 = .ok (.sipush 1000, 3) := by decide +kernel
theorem dX3_trade_62 : decode cX3_trade 62 = .ok (.invokestatic 57, 3) := by decide +kernel
theorem dX3_trade_65 : decode cX3_trade 65 = .ok (.ifCond .eq 7, 3) := by decide +kernel
theorem dX3_trade_68 : decode cX3_trade 68 = .ok (.iconst 1, 1) := by decide +kernel
theorem dX3_trade_69 : decode cX3_trade 69 = .ok (.goto 4, 3) := by decide +kernel
theorem dX3_trade_72 : decode cX3_trade 72 = .ok (.iconst 0, 1) := by decide +kernel
theorem dX3_trade_73 : decode cX3_trade 73 = .ok (.istore 8, 2) := by decide +kernel
theorem dX3_trade_75 : decode cX3_trade 75 = .ok (.aload_n 0, 1) := by decide +kernel
theorem dX3_trade_76 : decode cX3_trade 76 = .ok (.iload 7, 2) := by decide +kernel
theorem dX3_trade_78 : decode cX3_trade 78 = .ok (.iload 8, 2) := by decide +kernel
theorem dX3_trade_80 : decode cX3_trade 80 = .ok (.iload 7, 2) := by decide +kernel
theorem dX3_trade_82 : decode cX3_trade 82 = .ok (.ifCond .eq 27, 3) := by decide +kernel
theorem dX3_trade_85 : decode cX3_trade 85 = .ok (.iload 8, 2) := by decide +kernel
theorem dX3_trade_87 : decode cX3_trade 87 = .ok (.ifCond .eq 22, 3) := by decide +kernel
theorem dX3_trade_90 : decode cX3_trade 90 = .ok (.aload_n 0, 1) := by decide +kernel
theorem dX3_trade_91 : decode cX3_trade 91 = .ok (.iload_n 1, 1) := by decide +kernel
theorem dX3_trade_92 : decode cX3_trade 92 = .ok (.iload_n 3, 1) := by decide +kernel
theorem dX3_trade_93 : decode cX3_trade 93 = .ok (.iload 4, 2) := by decide +kernel
theorem dX3_trade_95 : decode cX3_trade 95 = .ok (.iload 5, 2) := by decide +kernel
theorem dX3_trade_97 : decode cX3_trade 97 = .ok (.invokevirtual 101, 3) := by decide +kernel
theorem dX3_trade_100 : decode cX3_trade 100 = .ok (.iload 6, 2) := by decide +kernel
theorem dX3_trade_102 : decode cX3_trade 102 = .ok (.if_icmp .lt 7, 3) := by decide +kernel
theorem dX3_trade_105 : decode cX3_trade 105 = .ok (.iconst 1, 1) := by decide +kernel
theorem dX3_trade_106 : decode cX3_trade 106 = .ok (.goto 4, 3) := by decide +kernel
theorem dX3_trade_109 : decode cX3_trade 109 = .ok (.iconst 0, 1) := by decide +kernel
theorem dX3_trade_110 : decode cX3_trade 110 = .ok (.invokevirtual 61, 3) := by decide +kernel
theorem dX3_trade_113 : decode cX3_trade 113 = .ok (.ifCond .ne 5, 3) := by decide +kernel
theorem dX3_trade_116 : decode cX3_trade 116 = .ok (.iconst 0, 1) := by decide +kernel
theorem dX3_trade_117 : decode cX3_trade 117 = .ok (.ireturn, 1) := by decide +kernel
theorem dX3_trade_118 : decode cX3_trade 118 = .ok (.iload 4, 2) := by decide +kernel
theorem dX3_trade_120 : decode cX3_trade 120 = .ok (.istore 9, 2) := by decide +kernel
theorem dX3_trade_122 : decode cX3_trade 122 = .ok (.iload 9, 2) := by decide +kernel
theorem dX3_trade_124 : decode cX3_trade 124 = .ok (.iload 5, 2) := by decide +kernel
theorem dX3_trade_126 : decode cX3_trade 126 = .ok (.if_icmp .gt 43, 3) := by decide +kernel
theorem dX3_trade_129 : decode cX3_trade 129 = .ok (.aload_n 0, 1) := by decide +kernel
theorem dX3_trade_130 : decode cX3_trade 130 = .ok (.getfield 38, 3) := by decide +kernel
theorem dX3_trade_133 : decode cX3_trade 133 = .ok (.iload_n 1, 1) := by decide +kernel
theorem dX3_trade_134 : decode cX3_trade 134 = .ok (.iload_n 3, 1) := by decide +kernel
theorem dX3_trade_135 : decode cX3_trade 135 = .ok (.iload 9, 2) := by decide +kernel
theorem dX3_trade_137 : decode cX3_trade 137 = .ok (.invokestatic 94, 3) := by decide +kernel
theorem dX3_trade_140 : decode cX3_trade 140 = .ok (.dup2, 1) := by decide +kernel
theorem dX3_trade_141 : decode cX3_trade 141 = .ok (.iaload, 1) := by decide +kernel
theorem dX3_trade_142 : decode cX3_trade 142 = .ok (.iload 6, 2) := by decide +kernel
theorem dX3_trade_144 : decode cX3_trade 144 = .ok (.isub, 1) := by decide +kernel
theorem dX3_trade_145 : decode cX3_trade 145 = .ok (.iastore, 1) := by decide +kernel
theorem dX3_trade_146 : decode cX3_trade 146 = .ok (.aload_n 0, 1) := by decide +kernel
theorem dX3_trade_147 : decode cX3_trade 147 = .ok (.getfield 38, 3) := by decide +kernel
theorem dX3_trade_150 : decode cX3_trade 150 = .ok (.iload_n 2, 1) := by decide +kernel
theorem dX3_trade_151 : decode cX3_trade 151 = .ok (.iload_n 3, 1) := by decide +kernel
theorem dX3_trade_152 : decode cX3_trade 152 = .ok (.iload 9, 2) := by decide +kernel
theorem dX3_trade_154 : decode cX3_trade 154 = .ok (.invokestatic 94, 3) := by decide +kernel
theorem dX3_trade_157 : decode cX3_trade 157 = .ok (.dup2, 1) := by decide +kernel
theorem dX3_trade_158 : decode cX3_trade 158 = .ok (.iaload, 1) := by decide +kernel
theorem dX3_trade_159 : decode cX3_trade 159 = .ok (.iload 6, 2) := by decide +kernel
theorem dX3_trade_161 : decode cX3_trade 161 = .ok (.iadd, 1) := by decide +kernel
theorem dX3_trade_162 : decode cX3_trade 162 = .ok (.iastore, 1) := by decide +kernel
theorem dX3_trade_163 : decode cX3_trade 163 = .ok (.iinc 9 1, 3) := by decide +kernel
theorem dX3_trade_166 : decode cX3_trade 166 = .ok (.goto (-44), 3) := by decide +kernel
theorem dX3_trade_169 : decode cX3_trade 169 = .ok (.aload_n 0, 1) := by decide +kernel
theorem dX3_trade_170 : decode cX3_trade 170 = .ok (.dup, 1) := by decide +kernel
theorem dX3_trade_171 : decode cX3_trade 171 = .ok (.getfield 105, 3) := by decide +kernel
theorem dX3_trade_174 : decode cX3_trade 174 = .ok (.iconst 1, 1) := by decide +kernel
theorem dX3_trade_175 : decode cX3_trade 175 = .ok (.iadd, 1) := by decide +kernel
theorem dX3_trade_176 : decode cX3_trade 176 = .ok (.putfield 105, 3) := by decide +kernel
theorem dX3_trade_179 : decode cX3_trade 179 = .ok (.aload_n 0, 1) := by decide +kernel
theorem dX3_trade_180 : decode cX3_trade 180 = .ok (.iload_n 1, 1) := by decide +kernel
theorem dX3_trade_181 : decode cX3_trade 181 = .ok (.iload_n 3, 1) := by decide +kernel
theorem dX3_trade_182 : decode cX3_trade 182 = .ok (.iload 4, 2) := by decide +kernel
theorem dX3_trade_184 : decode cX3_trade 184 = .ok (.iload 5, 2) := by decide +kernel
theorem dX3_trade_186 : decode cX3_trade 186 = .ok (.invokevirtual 101, 3) := by decide +kernel
theorem dX3_trade_189 : decode cX3_trade 189 = .ok (.ireturn, 1) := by decide +kernel
theorem dX3_trades_0 : decode cX3_trades 0 = .ok (.aload_n 0, 1) := by decide +kernel
theorem dX3_trades_1 : decode cX3_trades 1 = .ok (.iconst 0, 1) := by decide +kernel
theorem dX3_trades_2 : decode cX3_trades 2 = .ok (.putfield 54, 3) := by decide +kernel
theorem dX3_trades_5 : decode cX3_trades 5 = .ok (.aload_n 0, 1) := by decide +kernel
theorem dX3_trades_6 : decode cX3_trades 6 = .ok (.getfield 105, 3) := by decide +kernel
theorem dX3_trades_9 : decode cX3_trades 9 = .ok (.ireturn, 1) := by decide +kernel
end
section
set_option maxRecDepth 20000 in
theorem ggX3_stress_X3_isYear : GoodIn wsX3_stress wsX3_isYear := goodIn_r _ [5] (by decide +kernel) (by decide +kernel)
set_option maxRecDepth 20000 in
theorem gX3_stress_X3_isYear : GoodIn wsX3_stress (va_wsS RX3 82 yX3_isYear wsX3_isYear) := goodIn_app (goodIn_of _ (by decide +kernel)) ggX3_stress_X3_isYear
set_option maxRecDepth 20000 in
theorem ggX3_stress_X3_isHour : GoodIn wsX3_stress wsX3_isHour := goodIn_r _ [8] (by decide +kernel) (by decide +kernel)
set_option maxRecDepth 20000 in
theorem gX3_stress_X3_isHour : GoodIn wsX3_stress (va_wsS RX3 98 yX3_isHour wsX3_isHour) := goodIn_app (goodIn_of _ (by decide +kernel)) ggX3_stress_X3_isHour
set_option maxRecDepth 20000 in
theorem ggX3_stress_X3_goes : GoodIn wsX3_stress wsX3_goes := goodIn_r _ [12, 13, 14, 15, 16, 17, 18, 19, 20, 21, 22, 23, 24, 25, 26, 27, 28, 29, 30] (by decide +kernel) (by decide +kernel)
set_option maxRecDepth 20000 in
theorem gX3_stress_X3_goes : GoodIn wsX3_stress (wsV RX3 61 RX3 yX3_goes wsX3_goes) := goodIn_app (goodIn_of _ (by decide +kernel)) ggX3_stress_X3_goes
theorem dX3_stress_0 : decode cX3_stress 0 = .ok (.aload_n 0, 1) := by decide +kernel
theorem dX3_stress_1 : decode cX3_stress 1 = .ok (.iload_n 1, 1) := by decide +kernel
theorem dX3_stress_2 : decode cX3_stress 2 = .ok (.invokestatic 82, 3) := by decide +kernel
theorem dX3_stress_5 : decode cX3_stress 5 = .ok (.ifCond .eq 14, 3) := by decide +kernel
theorem dX3_stress_8 : decode cX3_stress 8 = .ok (.iload_n 2, 1) := by decide +kernel
theorem dX3_stress_9 : decode cX3_stress 9 = .ok (.invokestatic 98, 3) := by decide +kernel
theorem dX3_stress_12 : decode cX3_stress 12 = .ok (.ifCond .eq 7, 3) := by decide +kernel
theorem dX3_stress_15 : decode cX3_stress 15 = .ok (.iconst 1, 1) := by decide +kernel
theorem dX3_stress_16 : decode cX3_stress 16 = .ok (.goto 4, 3) := by decide +kernel
theorem dX3_stress_19 : decode cX3_stress 19 = .ok (.iconst 0, 1) := by decide +kernel
theorem dX3_stress_20 : decode cX3_stress 20 = .ok (.iconst 1, 1) := by decide +kernel
theorem dX3_stress_21 : decode cX3_stress 21 = .ok (.iconst 1, 1) := by decide +kernel
theorem dX3_stress_22 : decode cX3_stress 22 = .ok (.invokevirtual 61, 3) := by decide +kernel
theorem dX3_stress_25 : decode cX3_stress 25 = .ok (.ifCond .ne 5, 3) := by decide +kernel
theorem dX3_stress_28 : decode cX3_stress 28 = .ok (.iconst 0, 1) := by decide +kernel
theorem dX3_stress_29 : decode cX3_stress 29 = .ok (.ireturn, 1) := by decide +kernel
theorem dX3_stress_30 : decode cX3_stress 30 = .ok (.aload_n 0, 1) := by decide +kernel
theorem dX3_stress_31 : decode cX3_stress 31 = .ok (.getfield 44, 3) := by decide +kernel
theorem dX3_stress_34 : decode cX3_stress 34 = .ok (.iload_n 1, 1) := by decide +kernel
theorem dX3_stress_35 : decode cX3_stress 35 = .ok (.bipush 12, 2) := by decide +kernel
theorem dX3_stress_37 : decode cX3_stress 37 = .ok (.imul, 1) := by decide +kernel
theorem dX3_stress_38 : decode cX3_stress 38 = .ok (.iload_n 2, 1) := by decide +kernel
theorem dX3_stress_39 : decode cX3_stress 39 = .ok (.iadd, 1) := by decide +kernel
theorem dX3_stress_40 : decode cX3_stress 40 = .ok (.aload_n 0, 1) := by decide +kernel
theorem dX3_stress_41 : decode cX3_stress 41 = .ok (.getfield 44, 3) := by decide +kernel
theorem dX3_stress_44 : decode cX3_stress 44 = .ok (.iload_n 1, 1) := by decide +kernel
theorem dX3_stress_45 : decode cX3_stress 45 = .ok (.bipush 12, 2) := by decide +kernel
theorem dX3_stress_47 : decode cX3_stress 47 = .ok (.imul, 1) := by decide +kernel
theorem dX3_stress_48 : decode cX3_stress 48 = .ok (.iload_n 2, 1) := by decide +kernel
theorem dX3_stress_49 : decode cX3_stress 49 = .ok (.iadd, 1) := by decide +kernel
theorem dX3_stress_50 : decode cX3_stress 50 = .ok (.baload, 1) := by decide +kernel
theorem dX3_stress_51 : decode cX3_stress 51 = .ok (.ifCond .ne 7, 3) := by decide +kernel
theorem dX3_stress_54 : decode cX3_stress 54 = .ok (.iconst 1, 1) := by decide +kernel
theorem dX3_stress_55 : decode cX3_stress 55 = .ok (.goto 4, 3) := by decide +kernel
theorem dX3_stress_58 : decode cX3_stress 58 = .ok (.iconst 0, 1) := by decide +kernel
theorem dX3_stress_59 : decode cX3_stress 59 = .ok (.bastore, 1) := by decide +kernel
theorem dX3_stress_60 : decode cX3_stress 60 = .ok (.aload_n 0, 1) := by decide +kernel
theorem dX3_stress_61 : decode cX3_stress 61 = .ok (.getfield 44, 3) := by decide +kernel
theorem dX3_stress_64 : decode cX3_stress 64 = .ok (.iload_n 1, 1) := by decide +kernel
theorem dX3_stress_65 : decode cX3_stress 65 = .ok (.bipush 12, 2) := by decide +kernel
theorem dX3_stress_67 : decode cX3_stress 67 = .ok (.imul, 1) := by decide +kernel
theorem dX3_stress_68 : decode cX3_stress 68 = .ok (.iload_n 2, 1) := by decide +kernel
theorem dX3_stress_69 : decode cX3_stress 69 = .ok (.iadd, 1) := by decide +kernel
theorem dX3_stress_70 : decode cX3_stress 70 = .ok (.baload, 1) := by decide +kernel
theorem dX3_stress_71 : decode cX3_stress 71 = .ok (.ireturn, 1) := by decide +kernel
set_option maxRecDepth 20000 in
theorem ggX3_tell_X3_isParty : GoodIn wsX3_tell wsX3_isParty := goodIn_r _ [5] (by decide +kernel) (by decide +kernel)
set_option maxRecDepth 20000 in
theorem gX3_tell_X3_isParty : GoodIn wsX3_tell (va_wsS RX3 72 yX3_isParty wsX3_isParty) := goodIn_app (goodIn_of _ (by decide +kernel)) ggX3_tell_X3_isParty
set_option maxRecDepth 20000 in
theorem ggX3_tell_X3_isYear : GoodIn wsX3_tell wsX3_isYear := goodIn_r _ [8] (by decide +kernel) (by decide +kernel)
set_option maxRecDepth 20000 in
theorem gX3_tell_X3_isYear : GoodIn wsX3_tell (va_wsS RX3 82 yX3_isYear wsX3_isYear) := goodIn_app (goodIn_of _ (by decide +kernel)) ggX3_tell_X3_isYear
set_option maxRecDepth 20000 in
theorem ggX3_tell_X3_isHour : GoodIn wsX3_tell wsX3_isHour := goodIn_r _ [11] (by decide +kernel) (by decide +kernel)
set_option maxRecDepth 20000 in
theorem gX3_tell_X3_isHour : GoodIn wsX3_tell (va_wsS RX3 98 yX3_isHour wsX3_isHour) := goodIn_app (goodIn_of _ (by decide +kernel)) ggX3_tell_X3_isHour
set_option maxRecDepth 20000 in
theorem ggX3_tell_X3_isWithin : GoodIn wsX3_tell wsX3_isWithin := goodIn_r _ [14] (by decide +kernel) (by decide +kernel)
set_option maxRecDepth 20000 in
theorem gX3_tell_X3_isWithin : GoodIn wsX3_tell (va_wsS RX3 57 yX3_isWithin wsX3_isWithin) := goodIn_app (goodIn_of _ (by decide +kernel)) ggX3_tell_X3_isWithin
set_option maxRecDepth 20000 in
theorem ggX3_tell_X3_goes : GoodIn wsX3_tell wsX3_goes := goodIn_r _ [18, 19, 23, 24, 25, 26, 27, 28, 29, 30, 31, 32, 33, 34, 35, 36, 37, 38, 39] (by decide +kernel) (by decide +kernel)
set_option maxRecDepth 20000 in
theorem gX3_tell_X3_goes : GoodIn wsX3_tell (wsV RX3 61 RX3 yX3_goes wsX3_goes) := goodIn_app (goodIn_of _ (by decide +kernel)) ggX3_tell_X3_goes
set_option maxRecDepth 20000 in
theorem ggX3_tell_X3_place : GoodIn wsX3_tell wsX3_place := goodIn_r _ [22] (by decide +kernel) (by decide +kernel)
set_option maxRecDepth 20000 in
theorem gX3_tell_X3_place : GoodIn wsX3_tell (va_wsS RX3 94 yX3_place wsX3_place) := goodIn_app (goodIn_of _ (by decide +kernel)) ggX3_tell_X3_place
theorem dX3_tell_0 : decode cX3_tell 0 = .ok (.aload_n 0, 1) := by decide +kernel
theorem dX3_tell_1 : decode cX3_tell 1 = .ok (.iload_n 1, 1) := by decide +kernel
theorem dX3_tell_2 : decode cX3_tell 2 = .ok (.invokestatic 72, 3) := by decide +kernel
theorem dX3_tell_5 : decode cX3_tell 5 = .ok (.ifCond .eq 21, 3) := by decide +kernel
theorem dX3_tell_8 : decode cX3_tell 8 = .ok (.iload_n 2, 1) := by decide +kernel
theorem dX3_tell_9 : decode cX3_tell 9 = .ok (.invokestatic 82, 3) := by decide +kernel
theorem dX3_tell_12 : decode cX3_tell 12 = .ok (.ifCond .eq 14, 3) := by decide +kernel
theorem dX3_tell_15 : decode cX3_tell 15 = .ok (.iload_n 3, 1) := by decide +kernel
theorem dX3_tell_16 : decode cX3_tell 16 = .ok (.invokestatic 98, 3) := by decide +kernel
theorem dX3_tell_19 : decode cX3_tell 19 = .ok (.ifCond .eq 7, 3) := by decide +kernel
theorem dX3_tell_22 : decode cX3_tell 22 = .ok (.iconst 1, 1) := by decide +kernel
theorem dX3_tell_23 : decode cX3_tell 23 = .ok (.goto 4, 3) := by decide +kernel
theorem dX3_tell_26 : decode cX3_tell 26 = .ok (.iconst 0, 1) := by decide +kernel
theorem dX3_tell_27 : decode cX3_tell 27 = .ok (.iload 4, 2) := by decide +kernel
theorem dX3_tell_29 : decode cX3_tell 29 = .ok (.iconst 0, 1) := by decide +kernel
theorem dX3_tell_30 : decode cX3_tell 30 = .ok (.sipush 5000, 3) := by decide +kernel
theorem dX3_tell_33 : decode cX3_tell 33 = .ok (.invokestatic 57, 3) := by decide +kernel
theorem dX3_tell_36 : decode cX3_tell 36 = .ok (.iconst 1, 1) := by decide +kernel
theorem dX3_tell_37 : decode cX3_tell 37 = .ok (.invokevirtual 61, 3) := by decide +kernel
theorem dX3_tell_40 : decode cX3_tell 40 = .ok (.ifCond .ne 5, 3) := by decide +kernel
theorem dX3_tell_43 : decode cX3_tell 43 = .ok (.iconst 0, 1) := by decide +kernel
theorem dX3_tell_44 : decode cX3_tell 44 = .ok (.ireturn, 1) := by decide +kernel
theorem dX3_tell_45 : decode cX3_tell 45 = .ok (.aload_n 0, 1) := by decide +kernel
theorem dX3_tell_46 : decode cX3_tell 46 = .ok (.getfield 41, 3) := by decide +kernel
theorem dX3_tell_49 : decode cX3_tell 49 = .ok (.iload_n 1, 1) := by decide +kernel
theorem dX3_tell_50 : decode cX3_tell 50 = .ok (.iload_n 2, 1) := by decide +kernel
theorem dX3_tell_51 : decode cX3_tell 51 = .ok (.iload_n 3, 1) := by decide +kernel
theorem dX3_tell_52 : decode cX3_tell 52 = .ok (.invokestatic 94, 3) := by decide +kernel
theorem dX3_tell_55 : decode cX3_tell 55 = .ok (.iaload, 1) := by decide +kernel
theorem dX3_tell_56 : decode cX3_tell 56 = .ok (.istore 5, 2) := by decide +kernel
theorem dX3_tell_58 : decode cX3_tell 58 = .ok (.aload_n 0, 1) := by decide +kernel
theorem dX3_tell_59 : decode cX3_tell 59 = .ok (.getfield 41, 3) := by decide +kernel
theorem dX3_tell_62 : decode cX3_tell 62 = .ok (.iload_n 1, 1) := by decide +kernel
theorem dX3_tell_63 : decode cX3_tell 63 = .ok (.iload_n 2, 1) := by decide +kernel
theorem dX3_tell_64 : decode cX3_tell 64 = .ok (.iload_n 3, 1) := by decide +kernel
theorem dX3_tell_65 : decode cX3_tell 65 = .ok (.invokestatic 94, 3) := by decide +kernel
theorem dX3_tell_68 : decode cX3_tell 68 = .ok (.iload 4, 2) := by decide +kernel
theorem dX3_tell_70 : decode cX3_tell 70 = .ok (.iastore, 1) := by decide +kernel
theorem dX3_tell_71 : decode cX3_tell 71 = .ok (.iload 5, 2) := by decide +kernel
theorem dX3_tell_73 : decode cX3_tell 73 = .ok (.ireturn, 1) := by decide +kernel
set_option maxRecDepth 20000 in
theorem ggX3_setPenalty_X3_isWithin : GoodIn wsX3_setPenalty wsX3_isWithin := goodIn_r _ [6] (by decide +kernel) (by decide +kernel)
set_option maxRecDepth 20000 in
theorem gX3_setPenalty_X3_isWithin : GoodIn wsX3_setPenalty (va_wsS RX3 57 yX3_isWithin wsX3_isWithin) := goodIn_app (goodIn_of _ (by decide +kernel)) ggX3_setPenalty_X3_isWithin
set_option maxRecDepth 20000 in
theorem ggX3_setPenalty_X3_goes : GoodIn wsX3_setPenalty wsX3_goes := goodIn_r _ [10, 11, 12, 13, 14, 15, 16, 17, 18, 19, 20, 21, 22, 23, 24, 25, 26, 27, 28] (by decide +kernel) (by decide +kernel)
set_option maxRecDepth 20000 in
theorem gX3_setPenalty_X3_goes : GoodIn wsX3_setPenalty (wsV RX3 61 RX3 yX3_goes wsX3_goes) := goodIn_app (goodIn_of _ (by decide +kernel)) ggX3_setPenalty_X3_goes
theorem dX3_setPenalty_0 : decode cX3_setPenalty 0 = .ok (.aload_n 0, 1) := by decide +kernel
theorem dX3_setPenalty_1 : decode cX3_setPenalty 1 = .ok (.iload_n 1, 1) := by decide +kernel
theorem dX3_setPenalty_2 : decode cX3_setPenalty 2 = .ok (.iconst 0, 1) := by decide +kernel
theorem dX3_setPenalty_3 : decode cX3_setPenalty 3 = .ok (.sipush 1000, 3) := by decide +kernel
theorem dX3_setPenalty_6 : decode cX3_setPenalty 6 = .ok (.invokestatic 57, 3) := by decide +kernel
theorem dX3_setPenalty_9 : decode cX3_setPenalty 9 = .ok (.ifCond .eq 18, 3) := by decide +kernel
theorem dX3_setPenalty_12 : decode cX3_setPenalty 12 = .ok (.iload_n 2, 1) := by decide +kernel
theorem dX3_setPenalty_13 : decode cX3_setPenalty 13 = .ok (.iconst 0, 1) := by decide +kernel
theorem dX3_setPenalty_14 : decode cX3_setPenalty 14 = .ok (.sipush 200, 3) := by decide +kernel
theorem dX3_setPenalty_17 : decode cX3_setPenalty 17 = .ok (.invokestatic 57, 3) := by decide +kernel
theorem dX3_setPenalty_20 : decode cX3_setPenalty 20 = .ok (.ifCond .eq 7, 3) := by decide +kernel
theorem dX3_setPenalty_23 : decode cX3_setPenalty 23 = .ok (.iconst 1, 1) := by decide +kernel
theorem dX3_setPenalty_24 : decode cX3_setPenalty 24 = .ok (.goto 4, 3) := by decide +kernel
theorem dX3_setPenalty_27 : decode cX3_setPenalty 27 = .ok (.iconst 0, 1) := by decide +kernel
theorem dX3_setPenalty_28 : decode cX3_setPenalty 28 = .ok (.iconst 1, 1) := by decide +kernel
theorem dX3_setPenalty_29 : decode cX3_setPenalty 29 = .ok (.iconst 1, 1) := by decide +kernel
theorem dX3_setPenalty_30 : decode cX3_setPenalty 30 = .ok (.invokevirtual 61, 3) := by decide +kernel
theorem dX3_setPenalty_33 : decode cX3_setPenalty 33 = .ok (.ifCond .eq 13, 3) := by decide +kernel
theorem dX3_setPenalty_36 : decode cX3_setPenalty 36 = .ok (.aload_n 0, 1) := by decide +kernel
theorem dX3_setPenalty_37 : decode cX3_setPenalty 37 = .ok (.iload_n 1, 1) := by decide +kernel
theorem dX3_setPenalty_38 : decode cX3_setPenalty 38 = .ok (.putfield 48, 3) := by decide +kernel
theorem dX3_setPenalty_41 : decode cX3_setPenalty 41 = .ok (.aload_n 0, 1) := by decide +kernel
theorem dX3_setPenalty_42 : decode cX3_setPenalty 42 = .ok (.iload_n 2, 1) := by decide +kernel
theorem dX3_setPenalty_43 : decode cX3_setPenalty 43 = .ok (.putfield 51, 3) := by decide +kernel
theorem dX3_setPenalty_46 : decode cX3_setPenalty 46 = .ok (.return_, 1) := by decide +kernel
set_option maxRecDepth 20000 in
theorem ggX3_lackOf_X3_place : GoodIn wsX3_lackOf wsX3_place := goodIn_r _ [7] (by decide +kernel) (by decide +kernel)
set_option maxRecDepth 20000 in
theorem gX3_lackOf_X3_place : GoodIn wsX3_lackOf (va_wsS RX3 94 yX3_place wsX3_place) := goodIn_app (goodIn_of _ (by decide +kernel)) ggX3_lackOf_X3_place
theorem dX3_lackOf_0 : decode cX3_lackOf 0 = .ok (.iconst 0, 1) := by decide +kernel
theorem dX3_lackOf_1 : decode cX3_lackOf 1 = .ok (.istore_n 3, 1) := by decide +kernel
theorem dX3_lackOf_2 : decode cX3_lackOf 2 = .ok (.iconst 0, 1) := by decide +kernel
theorem dX3_lackOf_3 : decode cX3_lackOf 3 = .ok (.istore 4, 2) := by decide +kernel
theorem dX3_lackOf_5 : decode cX3_lackOf 5 = .ok (.iload 4, 2) := by decide +kernel
theorem dX3_lackOf_7 : decode cX3_lackOf 7 = .ok (.bipush 12, 2) := by decide +kernel
theorem dX3_lackOf_9 : decode cX3_lackOf 9 = .ok (.if_icmp .ge 55, 3) := by decide +kernel
theorem dX3_lackOf_12 : decode cX3_lackOf 12 = .ok (.iload_n 1, 1) := by decide +kernel
theorem dX3_lackOf_13 : decode cX3_lackOf 13 = .ok (.iload_n 2, 1) := by decide +kernel
theorem dX3_lackOf_14 : decode cX3_lackOf 14 = .ok (.iload 4, 2) := by decide +kernel
theorem dX3_lackOf_16 : decode cX3_lackOf 16 = .ok (.invokestatic 94, 3) := by decide +kernel
theorem dX3_lackOf_19 : decode cX3_lackOf 19 = .ok (.istore 5, 2) := by decide +kernel
theorem dX3_lackOf_21 : decode cX3_lackOf 21 = .ok (.iload_n 3, 1) := by decide +kernel
theorem dX3_lackOf_22 : decode cX3_lackOf 22 = .ok (.aload_n 0, 1) := by decide +kernel
theorem dX3_lackOf_23 : decode cX3_lackOf 23 = .ok (.getfield 44, 3) := by decide +kernel
theorem dX3_lackOf_26 : decode cX3_lackOf 26 = .ok (.iload_n 2, 1) := by decide +kernel
theorem dX3_lackOf_27 : decode cX3_lackOf 27 = .ok (.bipush 12, 2) := by decide +kernel
theorem dX3_lackOf_29 : decode cX3_lackOf 29 = .ok (.imul, 1) := by decide +kernel
theorem dX3_lackOf_30 : decode cX3_lackOf 30 = .ok (.iload 4, 2) := by decide +kernel
theorem dX3_lackOf_32 : decode cX3_lackOf 32 = .ok (.iadd, 1) := by decide +kernel
theorem dX3_lackOf_33 : decode cX3_lackOf 33 = .ok (.baload, 1) := by decide +kernel
theorem dX3_lackOf_34 : decode cX3_lackOf 34 = .ok (.ifCond .eq 21, 3) := by decide +kernel
theorem dX3_lackOf_37 : decode cX3_lackOf 37 = .ok (.aload_n 0, 1) := by decide +kernel
theorem dX3_lackOf_38 : decode cX3_lackOf 38 = .ok (.getfield 38, 3) := by decide +kernel
theorem dX3_lackOf_41 : decode cX3_lackOf 41 = .ok (.iload 5, 2) := by decide +kernel
theorem dX3_lackOf_43 : decode cX3_lackOf 43 = .ok (.iaload, 1) := by decide +kernel
theorem dX3_lackOf_44 : decode cX3_lackOf 44 = .ok (.aload_n 0, 1) := by decide +kernel
theorem dX3_lackOf_45 : decode cX3_lackOf 45 = .ok (.getfield 41, 3) := by decide +kernel
theorem dX3_lackOf_48 : decode cX3_lackOf 48 = .ok (.iload 5, 2) := by decide +kernel
theorem dX3_lackOf_50 : decode cX3_lackOf 50 = .ok (.iaload, 1) := by decide +kernel
theorem dX3_lackOf_51 : decode cX3_lackOf 51 = .ok (.isub, 1) := by decide +kernel
theorem dX3_lackOf_52 : decode cX3_lackOf 52 = .ok (.goto 4, 3) := by decide +kernel
theorem dX3_lackOf_55 : decode cX3_lackOf 55 = .ok (.iconst 0, 1) := by decide +kernel
theorem dX3_lackOf_56 : decode cX3_lackOf 56 = .ok (.iadd, 1) := by decide +kernel
theorem dX3_lackOf_57 : decode cX3_lackOf 57 = .ok (.istore_n 3, 1) := by decide +kernel
theorem dX3_lackOf_58 : decode cX3_lackOf 58 = .ok (.iinc 4 1, 3) := by decide +kernel
theorem dX3_lackOf_61 : decode cX3_lackOf 61 = .ok (.goto (-56), 3) := by decide +kernel
theorem dX3_lackOf_64 : decode cX3_lackOf 64 = .ok (.iload_n 3, 1) := by decide +kernel
theorem dX3_lackOf_65 : decode cX3_lackOf 65 = .ok (.ireturn, 1) := by decide +kernel
set_option maxRecDepth 20000 in
theorem ggX3_penaltyOf_X3_lackOf : GoodIn wsX3_penaltyOf wsX3_lackOf := goodIn_r _ [9, 10, 11, 12, 13, 14, 8, 15, 16, 17, 18, 19, 20, 21, 22, 23, 24, 25, 26, 27, 28, 29, 30, 31, 32] (by decide +kernel) (by decide +kernel)
set_option maxRecDepth 20000 in
theorem gX3_penaltyOf_X3_lackOf : GoodIn wsX3_penaltyOf (wsV RX3 108 RX3 yX3_lackOf wsX3_lackOf) := goodIn_app (goodIn_of _ (by decide +kernel)) ggX3_penaltyOf_X3_lackOf
theorem dX3_penaltyOf_0 : decode cX3_penaltyOf 0 = .ok (.aload_n 0, 1) := by decide +kernel
theorem dX3_penaltyOf_1 : decode cX3_penaltyOf 1 = .ok (.iload_n 1, 1) := by decide +kernel
theorem dX3_penaltyOf_2 : decode cX3_penaltyOf 2 = .ok (.iload_n 2, 1) := by decide +kernel
theorem dX3_penaltyOf_3 : decode cX3_penaltyOf 3 = .ok (.invokevirtual 108, 3) := by decide +kernel
theorem dX3_penaltyOf_6 : decode cX3_penaltyOf 6 = .ok (.i2l, 1) := by decide +kernel
theorem dX3_penaltyOf_7 : decode cX3_penaltyOf 7 = .ok (.aload_n 0, 1) := by decide +kernel
theorem dX3_penaltyOf_8 : decode cX3_penaltyOf 8 = .ok (.getfield 48, 3) := by decide +kernel
theorem dX3_penaltyOf_11 : decode cX3_penaltyOf 11 = .ok (.i2l, 1) := by decide +kernel
theorem dX3_penaltyOf_12 : decode cX3_penaltyOf 12 = .ok (.lmul, 1) := by decide +kernel
theorem dX3_penaltyOf_13 : decode cX3_penaltyOf 13 = .ok (.lstore_n 3, 1) := by decide +kernel
theorem dX3_penaltyOf_14 : decode cX3_penaltyOf 14 = .ok (.aload_n 0, 1) := by decide +kernel
theorem dX3_penaltyOf_15 : decode cX3_penaltyOf 15 = .ok (.getfield 35, 3) := by decide +kernel
theorem dX3_penaltyOf_18 : decode cX3_penaltyOf 18 = .ok (.iload_n 1, 1) := by decide +kernel
theorem dX3_penaltyOf_19 : decode cX3_penaltyOf 19 = .ok (.bipush 8, 2) := by decide +kernel
theorem dX3_penaltyOf_21 : decode cX3_penaltyOf 21 = .ok (.imul, 1) := by decide +kernel
theorem dX3_penaltyOf_22 : decode cX3_penaltyOf 22 = .ok (.iload_n 2, 1) := by decide +kernel
theorem dX3_penaltyOf_23 : decode cX3_penaltyOf 23 = .ok (.iadd, 1) := by decide +kernel
theorem dX3_penaltyOf_24 : decode cX3_penaltyOf 24 = .ok (.iaload, 1) := by decide +kernel
theorem dX3_penaltyOf_25 : decode cX3_penaltyOf 25 = .ok (.i2l, 1) := by decide +kernel
theorem dX3_penaltyOf_26 : decode cX3_penaltyOf 26 = .ok (.aload_n 0, 1) := by decide +kernel
theorem dX3_penaltyOf_27 : decode cX3_penaltyOf 27 = .ok (.getfield 51, 3) := by decide +kernel
theorem dX3_penaltyOf_30 : decode cX3_penaltyOf 30 = .ok (.i2l, 1) := by decide +kernel
theorem dX3_penaltyOf_31 : decode cX3_penaltyOf 31 = .ok (.lmul, 1) := by decide +kernel
theorem dX3_penaltyOf_32 : decode cX3_penaltyOf 32 = .ok (.ldc2_w 112, 3) := by decide +kernel
theorem dX3_penaltyOf_35 : decode cX3_penaltyOf 35 = .ok (.ldiv, 1) := by decide +kernel
theorem dX3_penaltyOf_36 : decode cX3_penaltyOf 36 = .ok (.lstore 5, 2) := by decide +kernel
theorem dX3_penaltyOf_38 : decode cX3_penaltyOf 38 = .ok (.lload_n 3, 1) := by decide +kernel
theorem dX3_penaltyOf_39 : decode cX3_penaltyOf 39 = .ok (.lconst 0, 1) := by decide +kernel
theorem dX3_penaltyOf_40 : decode cX3_penaltyOf 40 = .ok (.lcmp, 1) := by decide +kernel
theorem dX3_penaltyOf_41 : decode cX3_penaltyOf 41 = .ok (.ifCond .ge 7, 3) := by decide +kernel
theorem dX3_penaltyOf_44 : decode cX3_penaltyOf 44 = .ok (.lconst 0, 1) := by decide +kernel
theorem dX3_penaltyOf_45 : decode cX3_penaltyOf 45 = .ok (.goto 16, 3) := by decide +kernel
theorem dX3_penaltyOf_48 : decode cX3_penaltyOf 48 = .ok (.lload_n 3, 1) := by decide +kernel
theorem dX3_penaltyOf_49 : decode cX3_penaltyOf 49 = .ok (.lload 5, 2) := by decide +kernel
theorem dX3_penaltyOf_51 : decode cX3_penaltyOf 51 = .ok (.lcmp, 1) := by decide +kernel
theorem dX3_penaltyOf_52 : decode cX3_penaltyOf 52 = .ok (.ifCond .ge 7, 3) := by decide +kernel
theorem dX3_penaltyOf_55 : decode cX3_penaltyOf 55 = .ok (.lload_n 3, 1) := by decide +kernel
theorem dX3_penaltyOf_56 : decode cX3_penaltyOf 56 = .ok (.goto 5, 3) := by decide +kernel
theorem dX3_penaltyOf_59 : decode cX3_penaltyOf 59 = .ok (.lload 5, 2) := by decide +kernel
theorem dX3_penaltyOf_61 : decode cX3_penaltyOf 61 = .ok (.lreturn, 1) := by decide +kernel
set_option maxRecDepth 20000 in
theorem ggX3_lack_X3_isParty : GoodIn wsX3_lack wsX3_isParty := goodIn_r _ [4] (by decide +kernel) (by decide +kernel)
set_option maxRecDepth 20000 in
theorem gX3_lack_X3_isParty : GoodIn wsX3_lack (va_wsS RX3 72 yX3_isParty wsX3_isParty) := goodIn_app (goodIn_of _ (by decide +kernel)) ggX3_lack_X3_isParty
set_option maxRecDepth 20000 in
theorem ggX3_lack_X3_isYear : GoodIn wsX3_lack wsX3_isYear := goodIn_r _ [7] (by decide +kernel) (by decide +kernel)
set_option maxRecDepth 20000 in
theorem gX3_lack_X3_isYear : GoodIn wsX3_lack (va_wsS RX3 82 yX3_isYear wsX3_isYear) := goodIn_app (goodIn_of _ (by decide +kernel)) ggX3_lack_X3_isYear
set_option maxRecDepth 20000 in
theorem ggX3_lack_X3_goes : GoodIn wsX3_lack wsX3_goes := goodIn_r _ [11, 12, 23, 24, 25, 26, 27, 28, 29, 30, 31, 32, 33, 34, 35, 36, 37, 38, 39] (by decide +kernel) (by decide +kernel)
set_option maxRecDepth 20000 in
theorem gX3_lack_X3_goes : GoodIn wsX3_lack (wsV RX3 61 RX3 yX3_goes wsX3_goes) := goodIn_app (goodIn_of _ (by decide +kernel)) ggX3_lack_X3_goes
set_option maxRecDepth 20000 in
theorem ggX3_lack_X3_lackOf : GoodIn wsX3_lack wsX3_lackOf := goodIn_r _ [16, 17, 18, 19, 20, 21, 3, 22, 23, 24, 25, 26, 27, 28, 29, 30, 31, 32, 33, 34, 35, 36, 37, 38, 39] (by decide +kernel) (by decide +kernel)
set_option maxRecDepth 20000 in
theorem gX3_lack_X3_lackOf : GoodIn wsX3_lack (wsV RX3 108 RX3 yX3_lackOf wsX3_lackOf) := goodIn_app (goodIn_of _ (by decide +kernel)) ggX3_lack_X3_lackOf
theorem dX3_lack_0 : decode cX3_lack 0 = .ok (.aload_n 0, 1) := by decide +kernel
theorem dX3_lack_1 : decode cX3_lack 1 = .ok (.iload_n 1, 1) := by decide +kernel
theorem dX3_lack_2 : decode cX3_lack 2 = .ok (.invokestatic 72, 3) := by decide +kernel
theorem dX3_lack_5 : decode cX3_lack 5 = .ok (.ifCond .eq 14, 3) := by decide +kernel
theorem dX3_lack_8 : decode cX3_lack 8 = .ok (.iload_n 2, 1) := by decide +kernel
theorem dX3_lack_9 : decode cX3_lack 9 = .ok (.invokestatic 82, 3) := by decide +kernel
theorem dX3_lack_12 : decode cX3_lack 12 = .ok (.ifCond .eq 7, 3) := by decide +kernel
theorem dX3_lack_15 : decode cX3_lack 15 = .ok (.iconst 1, 1) := by decide +kernel
theorem dX3_lack_16 : decode cX3_lack 16 = .ok (.goto 4, 3) := by decide +kernel
theorem dX3_lack_19 : decode cX3_lack 19 = .ok (.iconst 0, 1) := by decide +kernel
theorem dX3_lack_20 : decode cX3_lack 20 = .ok (.iconst 1, 1) := by decide +kernel
theorem dX3_lack_21 : decode cX3_lack 21 = .ok (.iconst 1, 1) := by decide +kernel
theorem dX3_lack_22 : decode cX3_lack 22 = .ok (.invokevirtual 61, 3) := by decide +kernel
theorem dX3_lack_25 : decode cX3_lack 25 = .ok (.ifCond .eq 12, 3) := by decide +kernel
theorem dX3_lack_28 : decode cX3_lack 28 = .ok (.aload_n 0, 1) := by decide +kernel
theorem dX3_lack_29 : decode cX3_lack 29 = .ok (.iload_n 1, 1) := by decide +kernel
theorem dX3_lack_30 : decode cX3_lack 30 = .ok (.iload_n 2, 1) := by decide +kernel
theorem dX3_lack_31 : decode cX3_lack 31 = .ok (.invokevirtual 108, 3) := by decide +kernel
theorem dX3_lack_34 : decode cX3_lack 34 = .ok (.goto 4, 3) := by decide +kernel
theorem dX3_lack_37 : decode cX3_lack 37 = .ok (.iconst 0, 1) := by decide +kernel
theorem dX3_lack_38 : decode cX3_lack 38 = .ok (.ireturn, 1) := by decide +kernel
set_option maxRecDepth 20000 in
theorem ggX3_penalty_X3_isParty : GoodIn wsX3_penalty wsX3_isParty := goodIn_r _ [4] (by decide +kernel) (by decide +kernel)
set_option maxRecDepth 20000 in
theorem gX3_penalty_X3_isParty : GoodIn wsX3_penalty (va_wsS RX3 72 yX3_isParty wsX3_isParty) := goodIn_app (goodIn_of _ (by decide +kernel)) ggX3_penalty_X3_isParty
set_option maxRecDepth 20000 in
theorem ggX3_penalty_X3_isYear : GoodIn wsX3_penalty wsX3_isYear := goodIn_r _ [7] (by decide +kernel) (by decide +kernel)
set_option maxRecDepth 20000 in
theorem gX3_penalty_X3_isYear : GoodIn wsX3_penalty (va_wsS RX3 82 yX3_isYear wsX3_isYear) := goodIn_app (goodIn_of _ (by decide +kernel)) ggX3_penalty_X3_isYear
set_option maxRecDepth 20000 in
theorem ggX3_penalty_X3_goes : GoodIn wsX3_penalty wsX3_goes := goodIn_r _ [11, 12, 31, 32, 33, 34, 35, 36, 37, 38, 39, 40, 41, 42, 43, 44, 45, 46, 47] (by decide +kernel) (by decide +kernel)
set_option maxRecDepth 20000 in
theorem gX3_penalty_X3_goes : GoodIn wsX3_penalty (wsV RX3 61 RX3 yX3_goes wsX3_goes) := goodIn_app (goodIn_of _ (by decide +kernel)) ggX3_penalty_X3_goes
set_option maxRecDepth 20000 in
theorem ggX3_penalty_X3_penaltyOf : GoodIn wsX3_penalty wsX3_penaltyOf := goodIn_r _ [16, 17, 18, 19, 20, 21, 22, 23, 3, 24, 25, 26, 27, 28, 29, 30, 31, 32, 33, 34, 35, 36, 37, 38, 39, 40, 41, 42, 43, 44, 45, 46, 47] (by decide +kernel) (by decide +kernel)
set_option maxRecDepth 20000 in
theorem gX3_penalty_X3_penaltyOf : GoodIn wsX3_penalty (wsV RX3 114 RX3 yX3_penaltyOf wsX3_penaltyOf) := goodIn_app (goodIn_of _ (by decide +kernel)) ggX3_penalty_X3_penaltyOf
theorem dX3_penalty_0 : decode cX3_penalty 0 = .ok (.aload_n 0, 1) := by decide +kernel
theorem dX3_penalty_1 : decode cX3_penalty 1 = .ok (.iload_n 1, 1) := by decide +kernel
theorem dX3_penalty_2 : decode cX3_penalty 2 = .ok (.invokestatic 72, 3) := by decide +kernel
theorem dX3_penalty_5 : decode cX3_penalty 5 = .ok (.ifCond .eq 14, 3) := by decide +kernel
theorem dX3_penalty_8 : decode cX3_penalty 8 = .ok (.iload_n 2, 1) := by decide +kernel
theorem dX3_penalty_9 : decode cX3_penalty 9 = .ok (.invokestatic 82, 3) := by decide +kernel
theorem dX3_penalty_12 : decode cX3_penalty 12 = .ok (.ifCond .eq 7, 3) := by decide +kernel
theorem dX3_penalty_15 : decode cX3_penalty 15 = .ok (.iconst 1, 1) := by decide +kernel
theorem dX3_penalty_16 : decode cX3_penalty 16 = .ok (.goto 4, 3) := by decide +kernel
theorem dX3_penalty_19 : decode cX3_penalty 19 = .ok (.iconst 0, 1) := by decide +kernel
theorem dX3_penalty_20 : decode cX3_penalty 20 = .ok (.iconst 1, 1) := by decide +kernel
theorem dX3_penalty_21 : decode cX3_penalty 21 = .ok (.iconst 1, 1) := by decide +kernel
theorem dX3_penalty_22 : decode cX3_penalty 22 = .ok (.invokevirtual 61, 3) := by decide +kernel
theorem dX3_penalty_25 : decode cX3_penalty 25 = .ok (.ifCond .eq 13, 3) := by decide +kernel
theorem dX3_penalty_28 : decode cX3_penalty 28 = .ok (.aload_n 0, 1) := by decide +kernel
theorem dX3_penalty_29 : decode cX3_penalty 29 = .ok (.iload_n 1, 1) := by decide +kernel
theorem dX3_penalty_30 : decode cX3_penalty 30 = .ok (.iload_n 2, 1) := by decide +kernel
theorem dX3_penalty_31 : decode cX3_penalty 31 = .ok (.invokevirtual 114, 3) := by decide +kernel
theorem dX3_penalty_34 : decode cX3_penalty 34 = .ok (.l2i, 1) := by decide +kernel
theorem dX3_penalty_35 : decode cX3_penalty 35 = .ok (.goto 4, 3) := by decide +kernel
theorem dX3_penalty_38 : decode cX3_penalty 38 = .ok (.iconst 0, 1) := by decide +kernel
theorem dX3_penalty_39 : decode cX3_penalty 39 = .ok (.ireturn, 1) := by decide +kernel
set_option maxRecDepth 20000 in
theorem ggX3_penalties_X3_penaltyOf : GoodIn wsX3_penalties wsX3_penaltyOf := goodIn_r _ [6, 7, 8, 9, 10, 11, 12, 13, 5, 14, 15, 16, 17, 18, 19, 20, 21, 22, 23, 24, 25, 26, 27, 28, 29, 30, 31, 32, 33, 34, 35, 36, 37] (by decide +kernel) (by decide +kernel)
set_option maxRecDepth 20000 in
theorem gX3_penalties_X3_penaltyOf : GoodIn wsX3_penalties (wsV RX3 114 RX3 yX3_penaltyOf wsX3_penaltyOf) := goodIn_app (goodIn_of _ (by decide +kernel)) ggX3_penalties_X3_penaltyOf
theorem dX3_penalties_0 : decode cX3_penalties 0 = .ok (.aload_n 0, 1) := by decide +kernel
theorem dX3_penalties_1 : decode cX3_penalties 1 = .ok (.iconst 0, 1) := by decide +kernel
theorem dX3_penalties_2 : decode cX3_penalties 2 = .ok (.putfield 54, 3) := by decide +kernel
theorem dX3_penalties_5 : decode cX3_penalties 5 = .ok (.lconst 0, 1) := by decide +kernel
theorem dX3_penalties_6 : decode cX3_penalties 6 = .ok (.lstore_n 1, 1) := by decide +kernel
theorem dX3_penalties_7 : decode cX3_penalties 7 = .ok (.iconst 0, 1) := by decide +kernel
theorem dX3_penalties_8 : decode cX3_penalties 8 = .ok (.istore_n 3, 1) := by decide +kernel
theorem dX3_penalties_9 : decode cX3_penalties 9 = .ok (.iload_n 3, 1) := by decide +kernel
theorem dX3_penalties_10 : decode cX3_penalties 10 = .ok (.iconst 5, 1) := by decide +kernel
theorem dX3_penalties_11 : decode cX3_penalties 11 = .ok (.if_icmp .ge 35, 3) := by decide +kernel
theorem dX3_penalties_14 : decode cX3_penalties 14 = .ok (.iconst 0, 1) := by decide +kernel
theorem dX3_penalties_15 : decode cX3_penalties 15 = .ok (.istore 4, 2) := by decide +kernel
theorem dX3_penalties_17 : decode cX3_penalties 17 = .ok (.iload 4, 2) := by decide +kernel
theorem dX3_penalties_19 : decode cX3_penalties 19 = .ok (.bipush 8, 2) := by decide +kernel
theorem dX3_penalties_21 : decode cX3_penalties 21 = .ok (.if_icmp .ge 19, 3) := by decide +kernel
theorem dX3_penalties_24 : decode cX3_penalties 24 = .ok (.lload_n 1, 1) := by decide +kernel
theorem dX3_penalties_25 : decode cX3_penalties 25 = .ok (.aload_n 0, 1) := by decide +kernel
theorem dX3_penalties_26 : decode cX3_penalties 26 = .ok (.iload_n 3, 1) := by decide +kernel
theorem dX3_penalties_27 : decode cX3_penalties 27 = .ok (.iload 4, 2) := by decide +kernel
theorem dX3_penalties_29 : decode cX3_penalties 29 = .ok (.invokevirtual 114, 3) := by decide +kernel
theorem dX3_penalties_32 : decode cX3_penalties 32 = .ok (.ladd, 1) := by decide +kernel
theorem dX3_penalties_33 : decode cX3_penalties 33 = .ok (.lstore_n 1, 1) := by decide +kernel
theorem dX3_penalties_34 : decode cX3_penalties 34 = .ok (.iinc 4 1, 3) := by decide +kernel
theorem dX3_penalties_37 : decode cX3_penalties 37 = .ok (.goto (-20), 3) := by decide +kernel
theorem dX3_penalties_40 : decode cX3_penalties 40 = .ok (.iinc 3 1, 3) := by decide +kernel
theorem dX3_penalties_43 : decode cX3_penalties 43 = .ok (.goto (-34), 3) := by decide +kernel
theorem dX3_penalties_46 : decode cX3_penalties 46 = .ok (.lload_n 1, 1) := by decide +kernel
theorem dX3_penalties_47 : decode cX3_penalties 47 = .ok (.lreturn, 1) := by decide +kernel
theorem dJ9_max_7cf53_0 : decode cJ9_max_7cf53 0 = .ok (.iload_n 0, 1) := by decide +kernel
theorem dJ9_max_7cf53_1 : decode cJ9_max_7cf53 1 = .ok (.iload_n 1, 1) := by decide +kernel
theorem dJ9_max_7cf53_2 : decode cJ9_max_7cf53 2 = .ok (.if_icmp .lt 7, 3) := by decide +kernel
theorem dJ9_max_7cf53_5 : decode cJ9_max_7cf53 5 = .ok (.iload_n 0, 1) := by decide +kernel
theorem dJ9_max_7cf53_6 : decode cJ9_max_7cf53 6 = .ok (.goto 4, 3) := by decide +kernel
theorem dJ9_max_7cf53_9 : decode cJ9_max_7cf53 9 = .ok (.iload_n 1, 1) := by decide +kernel
theorem dJ9_max_7cf53_10 : decode cJ9_max_7cf53 10 = .ok (.ireturn, 1) := by decide +kernel
theorem dJ9_max_f86c9_0 : decode cJ9_max_f86c9 0 = .ok (.lload_n 0, 1) := by decide +kernel
theorem dJ9_max_f86c9_1 : decode cJ9_max_f86c9 1 = .ok (.lload_n 2, 1) := by decide +kernel
theorem dJ9_max_f86c9_2 : decode cJ9_max_f86c9 2 = .ok (.lcmp, 1) := by decide +kernel
theorem dJ9_max_f86c9_3 : decode cJ9_max_f86c9 3 = .ok (.ifCond .lt 7, 3) := by decide +kernel
theorem dJ9_max_f86c9_6 : decode cJ9_max_f86c9 6 = .ok (.lload_n 0, 1) := by decide +kernel
theorem dJ9_max_f86c9_7 : decode cJ9_max_f86c9 7 = .ok (.goto 4, 3) := by decide +kernel
theorem dJ9_max_f86c9_10 : decode cJ9_max_f86c9 10 = .ok (.lload_n 2, 1) := by decide +kernel
theorem dJ9_max_f86c9_11 : decode cJ9_max_f86c9 11 = .ok (.lreturn, 1) := by decide +kernel
theorem dJ9_min_7cf53_0 : decode cJ9_min_7cf53 0 = .ok (.iload_n 0, 1) := by decide +kernel
theorem dJ9_min_7cf53_1 : decode cJ9_min_7cf53 1 = .ok (.iload_n 1, 1) := by decide +kernel
theorem dJ9_min_7cf53_2 : decode cJ9_min_7cf53 2 = .ok (.if_icmp .gt 7, 3) := by decide +kernel
theorem dJ9_min_7cf53_5 : decode cJ9_min_7cf53 5 = .ok (.iload_n 0, 1) := by decide +kernel
theorem dJ9_min_7cf53_6 : decode cJ9_min_7cf53 6 = .ok (.goto 4, 3) := by decide +kernel
theorem dJ9_min_7cf53_9 : decode cJ9_min_7cf53 9 = .ok (.iload_n 1, 1) := by decide +kernel
theorem dJ9_min_7cf53_10 : decode cJ9_min_7cf53 10 = .ok (.ireturn, 1) := by decide +kernel
theorem dJ9_min_f86c9_0 : decode cJ9_min_f86c9 0 = .ok (.lload_n 0, 1) := by decide +kernel
theorem dJ9_min_f86c9_1 : decode cJ9_min_f86c9 1 = .ok (.lload_n 2, 1) := by decide +kernel
theorem dJ9_min_f86c9_2 : decode cJ9_min_f86c9 2 = .ok (.lcmp, 1) := by decide +kernel
theorem dJ9_min_f86c9_3 : decode cJ9_min_f86c9 3 = .ok (.ifCond .gt 7, 3) := by decide +kernel
theorem dJ9_min_f86c9_6 : decode cJ9_min_f86c9 6 = .ok (.lload_n 0, 1) := by decide +kernel
theorem dJ9_min_f86c9_7 : decode cJ9_min_f86c9 7 = .ok (.goto 4, 3) := by decide +kernel
theorem dJ9_min_f86c9_10 : decode cJ9_min_f86c9 10 = .ok (.lload_n 2, 1) := by decide +kernel
theorem dJ9_min_f86c9_11 : decode cJ9_min_f86c9 11 = .ok (.lreturn, 1) := by decide +kernel
end
section
set_option maxRecDepth 20000 in
theorem ggL_setDemand_X2_setDemand : GoodIn wsL_setDemand wsX2_setDemand := goodIn_ca (goodIn_r _ [6, 7, 8, 9, 10, 11, 5, 12, 13, 14, 15, 16, 17, 18, 19, 20, 21, 22, 23, 24, 25, 26, 27, 28, 29, 30, 31, 32, 33, 34, 35, 36, 37, 38, 39] (by decide +kernel) (by decide +kernel)) (goodIn_sub (fun _ h => List.mem_cons_of_mem _ (List.mem_append_right _ h)) (by decide +kernel))
set_option maxRecDepth 20000 in
theorem gL_setDemand_X2_setDemand : GoodIn wsL_setDemand (wsV RL 7 RX2 yX2_setDemand wsX2_setDemand) := goodIn_app (goodIn_of _ (by decide +kernel)) ggL_setDemand_X2_setDemand
theorem dL_setDemand_0 : decode cL_setDemand 0 = .ok (.aload_n 0, 1) := by decide +kernel
theorem dL_setDemand_1 : decode cL_setDemand 1 = .ok (.iload_n 1, 1) := by decide +kernel
theorem dL_setDemand_2 : decode cL_setDemand 2 = .ok (.iload_n 2, 1) := by decide +kernel
theorem dL_setDemand_3 : decode cL_setDemand 3 = .ok (.iload_n 3, 1) := by decide +kernel
theorem dL_setDemand_4 : decode cL_setDemand 4 = .ok (.invokevirtual 7, 3) := by decide +kernel
theorem dL_setDemand_7 : decode cL_setDemand 7 = .ok (.goto 7, 3) := by decide +kernel
theorem dL_setDemand_10 : decode cL_setDemand 10 = .ok (.astore 4, 2) := by decide +kernel
theorem dL_setDemand_12 : decode cL_setDemand 12 = .ok (.iconst 1, 1) := by decide +kernel
theorem dL_setDemand_13 : decode cL_setDemand 13 = .ok (.ireturn, 1) := by decide +kernel
theorem dL_setDemand_14 : decode cL_setDemand 14 = .ok (.iconst 0, 1) := by decide +kernel
theorem dL_setDemand_15 : decode cL_setDemand 15 = .ok (.ireturn, 1) := by decide +kernel
set_option maxRecDepth 20000 in
theorem ggL_value_X2_value : GoodIn wsL_value wsX2_value := goodIn_ca (goodIn_r _ [6, 7, 8, 9, 10, 11, 5, 12, 13, 14, 15, 16, 17, 18, 19, 20, 21, 22, 23, 24, 25, 26, 27, 28, 29, 30, 31, 32, 33, 34] (by decide +kernel) (by decide +kernel)) (goodIn_sub (fun _ h => List.mem_cons_of_mem _ (List.mem_append_right _ h)) (by decide +kernel))
set_option maxRecDepth 20000 in
theorem gL_value_X2_value : GoodIn wsL_value (wsV RL 15 RX2 yX2_value wsX2_value) := goodIn_app (goodIn_of _ (by decide +kernel)) ggL_value_X2_value
theorem dL_value_0 : decode cL_value 0 = .ok (.aload_n 2, 1) := by decide +kernel
theorem dL_value_1 : decode cL_value 1 = .ok (.iconst 0, 1) := by decide +kernel
theorem dL_value_2 : decode cL_value 2 = .ok (.aload_n 0, 1) := by decide +kernel
theorem dL_value_3 : decode cL_value 3 = .ok (.iload_n 1, 1) := by decide +kernel
theorem dL_value_4 : decode cL_value 4 = .ok (.invokevirtual 15, 3) := by decide +kernel
theorem dL_value_7 : decode cL_value 7 = .ok (.i2l, 1) := by decide +kernel
theorem dL_value_8 : decode cL_value 8 = .ok (.lastore, 1) := by decide +kernel
theorem dL_value_9 : decode cL_value 9 = .ok (.goto 6, 3) := by decide +kernel
theorem dL_value_12 : decode cL_value 12 = .ok (.astore_n 3, 1) := by decide +kernel
theorem dL_value_13 : decode cL_value 13 = .ok (.iconst 1, 1) := by decide +kernel
theorem dL_value_14 : decode cL_value 14 = .ok (.ireturn, 1) := by decide +kernel
theorem dL_value_15 : decode cL_value 15 = .ok (.iconst 0, 1) := by decide +kernel
theorem dL_value_16 : decode cL_value 16 = .ok (.ireturn, 1) := by decide +kernel
set_option maxRecDepth 20000 in
theorem ggL_worth_X2_worth : GoodIn wsL_worth wsX2_worth := goodIn_ca (goodIn_r _ [6, 7, 8, 9, 10, 11, 5, 12, 13, 14, 15, 16, 17, 18, 19, 20, 21, 22, 23, 24, 25, 26, 27, 28, 29, 30, 31, 32, 33, 34, 35, 36, 37, 38, 39] (by decide +kernel) (by decide +kernel)) (goodIn_sub (fun _ h => List.mem_cons_of_mem _ (List.mem_append_right _ h)) (by decide +kernel))
set_option maxRecDepth 20000 in
theorem gL_worth_X2_worth : GoodIn wsL_worth (wsV RL 19 RX2 yX2_worth wsX2_worth) := goodIn_app (goodIn_of _ (by decide +kernel)) ggL_worth_X2_worth
theorem dL_worth_0 : decode cL_worth 0 = .ok (.aload_n 2, 1) := by decide +kernel
theorem dL_worth_1 : decode cL_worth 1 = .ok (.iconst 0, 1) := by decide +kernel
theorem dL_worth_2 : decode cL_worth 2 = .ok (.aload_n 0, 1) := by decide +kernel
theorem dL_worth_3 : decode cL_worth 3 = .ok (.iload_n 1, 1) := by decide +kernel
theorem dL_worth_4 : decode cL_worth 4 = .ok (.invokevirtual 19, 3) := by decide +kernel
theorem dL_worth_7 : decode cL_worth 7 = .ok (.i2l, 1) := by decide +kernel
theorem dL_worth_8 : decode cL_worth 8 = .ok (.lastore, 1) := by decide +kernel
theorem dL_worth_9 : decode cL_worth 9 = .ok (.goto 6, 3) := by decide +kernel
theorem dL_worth_12 : decode cL_worth 12 = .ok (.astore_n 3, 1) := by decide +kernel
theorem dL_worth_13 : decode cL_worth 13 = .ok (.iconst 1, 1) := by decide +kernel
theorem dL_worth_14 : decode cL_worth 14 = .ok (.ireturn, 1) := by decide +kernel
theorem dL_worth_15 : decode cL_worth 15 = .ok (.iconst 0, 1) := by decide +kernel
theorem dL_worth_16 : decode cL_worth 16 = .ok (.ireturn, 1) := by decide +kernel
set_option maxRecDepth 20000 in
theorem ggL_offer_X2_offer : GoodIn wsL_offer wsX2_offer := goodIn_ca (goodIn_ca (goodIn_ca (goodIn_r _ [8, 9, 10, 11, 12, 13, 14, 15, 16, 17, 7, 18, 19, 20, 21, 22, 23, 24, 25, 26, 27, 28, 29, 30, 31, 32, 33, 34, 35, 36, 37, 38, 39, 40, 41, 42, 43, 44, 45, 46, 47, 48, 49, 50, 51, 52, 53] (by decide +kernel) (by decide +kernel)) (goodIn_sub (fun _ h => List.mem_cons_of_mem _ (List.mem_append_left _ (List.mem_append_left _ (List.mem_append_right _ h)))) (by decide +kernel))) (goodIn_sub (fun _ h => List.mem_cons_of_mem _ (List.mem_append_left _ (List.mem_append_right _ h))) (by decide +kernel))) (goodIn_sub (fun _ h => List.mem_cons_of_mem _ (List.mem_append_right _ h)) (by decide +kernel))
set_option maxRecDepth 20000 in
theorem gL_offer_X2_offer : GoodIn wsL_offer (wsV RL 22 RX2 yX2_offer wsX2_offer) := goodIn_app (goodIn_of _ (by decide +kernel)) ggL_offer_X2_offer
theorem dL_offer_0 : decode cL_offer 0 = .ok (.aload 6, 2) := by decide +kernel
theorem dL_offer_2 : decode cL_offer 2 = .ok (.iconst 0, 1) := by decide +kernel
theorem dL_offer_3 : decode cL_offer 3 = .ok (.aload_n 0, 1) := by decide +kernel
theorem dL_offer_4 : decode cL_offer 4 = .ok (.iload_n 1, 1) := by decide +kernel
theorem dL_offer_5 : decode cL_offer 5 = .ok (.iload_n 2, 1) := by decide +kernel
theorem dL_offer_6 : decode cL_offer 6 = .ok (.iload_n 3, 1) := by decide +kernel
theorem dL_offer_7 : decode cL_offer 7 = .ok (.iload 4, 2) := by decide +kernel
theorem dL_offer_9 : decode cL_offer 9 = .ok (.iload 5, 2) := by decide +kernel
theorem dL_offer_11 : decode cL_offer 11 = .ok (.invokevirtual 22, 3) := by decide +kernel
theorem dL_offer_14 : decode cL_offer 14 = .ok (.i2l, 1) := by decide +kernel
theorem dL_offer_15 : decode cL_offer 15 = .ok (.lastore, 1) := by decide +kernel
theorem dL_offer_16 : decode cL_offer 16 = .ok (.goto 15, 3) := by decide +kernel
theorem dL_offer_19 : decode cL_offer 19 = .ok (.astore 7, 2) := by decide +kernel
theorem dL_offer_21 : decode cL_offer 21 = .ok (.iconst 1, 1) := by decide +kernel
theorem dL_offer_22 : decode cL_offer 22 = .ok (.ireturn, 1) := by decide +kernel
theorem dL_offer_23 : decode cL_offer 23 = .ok (.astore 7, 2) := by decide +kernel
theorem dL_offer_25 : decode cL_offer 25 = .ok (.iconst 2, 1) := by decide +kernel
theorem dL_offer_26 : decode cL_offer 26 = .ok (.ireturn, 1) := by decide +kernel
theorem dL_offer_27 : decode cL_offer 27 = .ok (.astore 7, 2) := by decide +kernel
theorem dL_offer_29 : decode cL_offer 29 = .ok (.iconst 3, 1) := by decide +kernel
theorem dL_offer_30 : decode cL_offer 30 = .ok (.ireturn, 1) := by decide +kernel
theorem dL_offer_31 : decode cL_offer 31 = .ok (.iconst 0, 1) := by decide +kernel
theorem dL_offer_32 : decode cL_offer 32 = .ok (.ireturn, 1) := by decide +kernel
set_option maxRecDepth 20000 in
theorem ggL_supply_X2_supply : GoodIn wsL_supply wsX2_supply := goodIn_ca (goodIn_r _ [6, 7, 8, 9, 10, 11, 5, 12, 13, 14, 15, 16, 17, 18, 19, 20, 21, 22, 23, 24, 25, 26, 27, 28, 29, 30, 31, 32, 33, 34, 35, 36, 37] (by decide +kernel) (by decide +kernel)) (goodIn_sub (fun _ h => List.mem_cons_of_mem _ (List.mem_append_right _ h)) (by decide +kernel))
set_option maxRecDepth 20000 in
theorem gL_supply_X2_supply : GoodIn wsL_supply (wsV RL 30 RX2 yX2_supply wsX2_supply) := goodIn_app (goodIn_of _ (by decide +kernel)) ggL_supply_X2_supply
theorem dL_supply_0 : decode cL_supply 0 = .ok (.aload_n 2, 1) := by decide +kernel
theorem dL_supply_1 : decode cL_supply 1 = .ok (.iconst 0, 1) := by decide +kernel
theorem dL_supply_2 : decode cL_supply 2 = .ok (.aload_n 0, 1) := by decide +kernel
theorem dL_supply_3 : decode cL_supply 3 = .ok (.iload_n 1, 1) := by decide +kernel
theorem dL_supply_4 : decode cL_supply 4 = .ok (.invokevirtual 30, 3) := by decide +kernel
theorem dL_supply_7 : decode cL_supply 7 = .ok (.i2l, 1) := by decide +kernel
theorem dL_supply_8 : decode cL_supply 8 = .ok (.lastore, 1) := by decide +kernel
theorem dL_supply_9 : decode cL_supply 9 = .ok (.goto 6, 3) := by decide +kernel
theorem dL_supply_12 : decode cL_supply 12 = .ok (.astore_n 3, 1) := by decide +kernel
theorem dL_supply_13 : decode cL_supply 13 = .ok (.iconst 1, 1) := by decide +kernel
theorem dL_supply_14 : decode cL_supply 14 = .ok (.ireturn, 1) := by decide +kernel
theorem dL_supply_15 : decode cL_supply 15 = .ok (.iconst 0, 1) := by decide +kernel
theorem dL_supply_16 : decode cL_supply 16 = .ok (.ireturn, 1) := by decide +kernel
set_option maxRecDepth 20000 in
theorem ggL_clearing_X2_clearing : GoodIn wsL_clearing wsX2_clearing := goodIn_ca (goodIn_r _ [6, 7, 8, 9, 10, 11, 12, 13, 5, 14, 15, 16, 17, 18, 19, 20, 21, 22, 23, 24, 25, 26, 27, 28, 29, 30, 31, 32, 33, 34, 35, 36, 37, 38, 39, 40, 41, 42, 43, 44, 45, 46, 47, 48, 49, 50, 51, 52, 53, 54, 55, 56, 57, 58, 59, 60, 61, 62, 63, 64] (by decide +kernel) (by decide +kernel)) (goodIn_sub (fun _ h => List.mem_cons_of_mem _ (List.mem_append_right _ h)) (by decide +kernel))
set_option maxRecDepth 20000 in
theorem gL_clearing_X2_clearing : GoodIn wsL_clearing (wsV RL 33 RX2 yX2_clearing wsX2_clearing) := goodIn_app (goodIn_of _ (by decide +kernel)) ggL_clearing_X2_clearing
theorem dL_clearing_0 : decode cL_clearing 0 = .ok (.aload_n 2, 1) := by decide +kernel
theorem dL_clearing_1 : decode cL_clearing 1 = .ok (.iconst 0, 1) := by decide +kernel
theorem dL_clearing_2 : decode cL_clearing 2 = .ok (.aload_n 0, 1) := by decide +kernel
theorem dL_clearing_3 : decode cL_clearing 3 = .ok (.iload_n 1, 1) := by decide +kernel
theorem dL_clearing_4 : decode cL_clearing 4 = .ok (.invokevirtual 33, 3) := by decide +kernel
theorem dL_clearing_7 : decode cL_clearing 7 = .ok (.i2l, 1) := by decide +kernel
theorem dL_clearing_8 : decode cL_clearing 8 = .ok (.lastore, 1) := by decide +kernel
theorem dL_clearing_9 : decode cL_clearing 9 = .ok (.goto 6, 3) := by decide +kernel
theorem dL_clearing_12 : decode cL_clearing 12 = .ok (.astore_n 3, 1) := by decide +kernel
theorem dL_clearing_13 : decode cL_clearing 13 = .ok (.iconst 1, 1) := by decide +kernel
theorem dL_clearing_14 : decode cL_clearing 14 = .ok (.ireturn, 1) := by decide +kernel
theorem dL_clearing_15 : decode cL_clearing 15 = .ok (.iconst 0, 1) := by decide +kernel
theorem dL_clearing_16 : decode cL_clearing 16 = .ok (.ireturn, 1) := by decide +kernel
set_option maxRecDepth 20000 in
theorem ggL_clearingByClock_X2_clearingByClock : GoodIn wsL_clearingByClock wsX2_clearingByClock := goodIn_ca (goodIn_r _ [6, 7, 8, 9, 10, 11, 12, 13, 5, 14, 15, 16, 17, 18, 19, 20, 21, 22, 23, 24, 25, 26, 27, 28, 29, 30, 31, 32, 33, 34, 35, 36, 37, 38, 39, 40, 41, 42, 43, 44, 45, 46, 47, 48, 49, 50, 51, 52, 53, 54, 55, 56, 57, 58, 59, 60, 61, 62, 63, 64, 65, 66, 67, 68] (by decide +kernel) (by decide +kernel)) (goodIn_sub (fun _ h => List.mem_cons_of_mem _ (List.mem_append_right _ h)) (by decide +kernel))
set_option maxRecDepth 20000 in
theorem gL_clearingByClock_X2_clearingByClock : GoodIn wsL_clearingByClock (wsV RL 36 RX2 yX2_clearingByClock wsX2_clearingByClock) := goodIn_app (goodIn_of _ (by decide +kernel)) ggL_clearingByClock_X2_clearingByClock
theorem dL_clearingByClock_0 : decode cL_clearingByClock 0 = .ok (.aload_n 2, 1) := by decide +kernel
theorem dL_clearingByClock_1 : decode cL_clearingByClock 1 = .ok (.iconst 0, 1) := by decide +kernel
theorem dL_clearingByClock_2 : decode cL_clearingByClock 2 = .ok (.aload_n 0, 1) := by decide +kernel
theorem dL_clearingByClock_3 : decode cL_clearingByClock 3 = .ok (.iload_n 1, 1) := by decide +kernel
theorem dL_clearingByClock_4 : decode cL_clearingByClock 4 = .ok (.invokevirtual 36, 3) := by decide +kernel
theorem dL_clearingByClock_7 : decode cL_clearingByClock 7 = .ok (.i2l, 1) := by decide +kernel
theorem dL_clearingByClock_8 : decode cL_clearingByClock 8 = .ok (.lastore, 1) := by decide +kernel
theorem dL_clearingByClock_9 : decode cL_clearingByClock 9 = .ok (.goto 6, 3) := by decide +kernel
theorem dL_clearingByClock_12 : decode cL_clearingByClock 12 = .ok (.astore_n 3, 1) := by decide +kernel
theorem dL_clearingByClock_13 : decode cL_clearingByClock 13 = .ok (.iconst 1, 1) := by decide +kernel
theorem dL_clearingByClock_14 : decode cL_clearingByClock 14 = .ok (.ireturn, 1) := by decide +kernel
theorem dL_clearingByClock_15 : decode cL_clearingByClock 15 = .ok (.iconst 0, 1) := by decide +kernel
theorem dL_clearingByClock_16 : decode cL_clearingByClock 16 = .ok (.ireturn, 1) := by decide +kernel
set_option maxRecDepth 20000 in
theorem ggL_wouldTake_X2_wouldTake : GoodIn wsL_wouldTake wsX2_wouldTake := goodIn_ca (goodIn_r _ [6, 7, 8, 9, 10, 11, 12, 13, 14, 15, 16, 17, 18, 19, 5, 20, 21, 22, 23, 24, 25, 26, 27, 28, 29, 30, 31, 32, 33, 34, 35, 36, 37, 38, 39, 40, 41, 42, 43, 44, 45, 46, 47, 48, 49, 50, 51, 52, 53, 54, 55, 56, 57, 58, 59, 60, 61, 62, 63, 64, 65, 66, 67, 68] (by decide +kernel) (by decide +kernel)) (goodIn_sub (fun _ h => List.mem_cons_of_mem _ (List.mem_append_right _ h)) (by decide +kernel))
set_option maxRecDepth 20000 in
theorem gL_wouldTake_X2_wouldTake : GoodIn wsL_wouldTake (wsV RL 39 RX2 yX2_wouldTake wsX2_wouldTake) := goodIn_app (goodIn_of _ (by decide +kernel)) ggL_wouldTake_X2_wouldTake
theorem dL_wouldTake_0 : decode cL_wouldTake 0 = .ok (.aload_n 3, 1) := by decide +kernel
theorem dL_wouldTake_1 : decode cL_wouldTake 1 = .ok (.iconst 0, 1) := by decide +kernel
theorem dL_wouldTake_2 : decode cL_wouldTake 2 = .ok (.aload_n 0, 1) := by decide +kernel
theorem dL_wouldTake_3 : decode cL_wouldTake 3 = .ok (.iload_n 1, 1) := by decide +kernel
theorem dL_wouldTake_4 : decode cL_wouldTake 4 = .ok (.iload_n 2, 1) := by decide +kernel
theorem dL_wouldTake_5 : decode cL_wouldTake 5 = .ok (.invokevirtual 39, 3) := by decide +kernel
theorem dL_wouldTake_8 : decode cL_wouldTake 8 = .ok (.ifCond .eq 7, 3) := by decide +kernel
theorem dL_wouldTake_11 : decode cL_wouldTake 11 = .ok (.lconst 1, 1) := by decide +kernel
theorem dL_wouldTake_12 : decode cL_wouldTake 12 = .ok (.goto 4, 3) := by decide +kernel
theorem dL_wouldTake_15 : decode cL_wouldTake 15 = .ok (.lconst 0, 1) := by decide +kernel
theorem dL_wouldTake_16 : decode cL_wouldTake 16 = .ok (.lastore, 1) := by decide +kernel
theorem dL_wouldTake_17 : decode cL_wouldTake 17 = .ok (.goto 7, 3) := by decide +kernel
theorem dL_wouldTake_20 : decode cL_wouldTake 20 = .ok (.astore 4, 2) := by decide +kernel
theorem dL_wouldTake_22 : decode cL_wouldTake 22 = .ok (.iconst 1, 1) := by decide +kernel
theorem dL_wouldTake_23 : decode cL_wouldTake 23 = .ok (.ireturn, 1) := by decide +kernel
theorem dL_wouldTake_24 : decode cL_wouldTake 24 = .ok (.iconst 0, 1) := by decide +kernel
theorem dL_wouldTake_25 : decode cL_wouldTake 25 = .ok (.ireturn, 1) := by decide +kernel
set_option maxRecDepth 20000 in
theorem ggL_run_X2_run : GoodIn wsL_run wsX2_run := goodIn_ca (goodIn_ca (goodIn_r _ [7, 8, 9, 10, 11, 12, 13, 14, 15, 16, 17, 18, 6, 19, 20, 21, 22, 23, 24, 25, 26, 27, 28, 29, 30, 31, 32, 33, 34, 35, 36, 37, 38, 39, 40, 41, 42, 43, 44, 45, 46, 47, 48, 49, 50, 51, 52, 53, 54, 55, 56, 57, 58, 59, 60, 61, 62, 63, 64, 65, 66, 67, 68, 69, 70, 71, 72, 73, 74, 75, 76, 77, 78, 79, 80, 81, 82, 83, 84, 85, 86, 87, 88, 89] (by decide +kernel) (by decide +kernel)) (goodIn_sub (fun _ h => List.mem_cons_of_mem _ (List.mem_append_left _ (List.mem_append_right _ h))) (by decide +kernel))) (goodIn_sub (fun _ h => List.mem_cons_of_mem _ (List.mem_append_right _ h)) (by decide +kernel))
set_option maxRecDepth 20000 in
theorem gL_run_X2_run : GoodIn wsL_run (wsV RL 43 RX2 yX2_run wsX2_run) := goodIn_app (goodIn_of _ (by decide +kernel)) ggL_run_X2_run
theorem dL_run_0 : decode cL_run 0 = .ok (.aload_n 2, 1) := by decide +kernel
theorem dL_run_1 : decode cL_run 1 = .ok (.iconst 0, 1) := by decide +kernel
theorem dL_run_2 : decode cL_run 2 = .ok (.aload_n 0, 1) := by decide +kernel
theorem dL_run_3 : decode cL_run 3 = .ok (.iload_n 1, 1) := by decide +kernel
theorem dL_run_4 : decode cL_run 4 = .ok (.invokevirtual 43, 3) := by decide +kernel
theorem dL_run_7 : decode cL_run 7 = .ok (.i2l, 1) := by decide +kernel
theorem dL_run_8 : decode cL_run 8 = .ok (.lastore, 1) := by decide +kernel
theorem dL_run_9 : decode cL_run 9 = .ok (.goto 9, 3) := by decide +kernel
theorem dL_run_12 : decode cL_run 12 = .ok (.astore_n 3, 1) := by decide +kernel
theorem dL_run_13 : decode cL_run 13 = .ok (.iconst 1, 1) := by decide +kernel
theorem dL_run_14 : decode cL_run 14 = .ok (.ireturn, 1) := by decide +kernel
theorem dL_run_15 : decode cL_run 15 = .ok (.astore_n 3, 1) := by decide +kernel
theorem dL_run_16 : decode cL_run 16 = .ok (.iconst 2, 1) := by decide +kernel
theorem dL_run_17 : decode cL_run 17 = .ok (.ireturn, 1) := by decide +kernel
theorem dL_run_18 : decode cL_run 18 = .ok (.iconst 0, 1) := by decide +kernel
theorem dL_run_19 : decode cL_run 19 = .ok (.ireturn, 1) := by decide +kernel
set_option maxRecDepth 20000 in
theorem ggL_bought_X2_bought : GoodIn wsL_bought wsX2_bought := goodIn_ca (goodIn_r _ [6, 7, 8, 9, 10, 11, 5, 12, 13, 14, 15, 16, 17, 18, 19, 20, 21, 22, 23, 24, 25] (by decide +kernel) (by decide +kernel)) (goodIn_sub (fun _ h => List.mem_cons_of_mem _ (List.mem_append_right _ h)) (by decide +kernel))
set_option maxRecDepth 20000 in
theorem gL_bought_X2_bought : GoodIn wsL_bought (wsV RL 46 RX2 yX2_bought wsX2_bought) := goodIn_app (goodIn_of _ (by decide +kernel)) ggL_bought_X2_bought
theorem dL_bought_0 : decode cL_bought 0 = .ok (.aload_n 2, 1) := by decide +kernel
theorem dL_bought_1 : decode cL_bought 1 = .ok (.iconst 0, 1) := by decide +kernel
theorem dL_bought_2 : decode cL_bought 2 = .ok (.aload_n 0, 1) := by decide +kernel
theorem dL_bought_3 : decode cL_bought 3 = .ok (.iload_n 1, 1) := by decide +kernel
theorem dL_bought_4 : decode cL_bought 4 = .ok (.invokevirtual 46, 3) := by decide +kernel
theorem dL_bought_7 : decode cL_bought 7 = .ok (.i2l, 1) := by decide +kernel
theorem dL_bought_8 : decode cL_bought 8 = .ok (.lastore, 1) := by decide +kernel
theorem dL_bought_9 : decode cL_bought 9 = .ok (.goto 6, 3) := by decide +kernel
theorem dL_bought_12 : decode cL_bought 12 = .ok (.astore_n 3, 1) := by decide +kernel
theorem dL_bought_13 : decode cL_bought 13 = .ok (.iconst 1, 1) := by decide +kernel
theorem dL_bought_14 : decode cL_bought 14 = .ok (.ireturn, 1) := by decide +kernel
theorem dL_bought_15 : decode cL_bought 15 = .ok (.iconst 0, 1) := by decide +kernel
theorem dL_bought_16 : decode cL_bought 16 = .ok (.ireturn, 1) := by decide +kernel
set_option maxRecDepth 20000 in
theorem ggL_income_X2_income : GoodIn wsL_income wsX2_income := goodIn_ca (goodIn_r _ [6, 7, 8, 9, 10, 11, 5, 12, 13, 14, 15, 16, 17, 18, 19, 20, 21, 22, 23, 24, 25, 26, 27, 28, 29, 30, 31] (by decide +kernel) (by decide +kernel)) (goodIn_sub (fun _ h => List.mem_cons_of_mem _ (List.mem_append_right _ h)) (by decide +kernel))
set_option maxRecDepth 20000 in
theorem gL_income_X2_income : GoodIn wsL_income (wsV RL 49 RX2 yX2_income wsX2_income) := goodIn_app (goodIn_of _ (by decide +kernel)) ggL_income_X2_income
theorem dL_income_0 : decode cL_income 0 = .ok (.aload_n 3, 1) := by decide +kernel
theorem dL_income_1 : decode cL_income 1 = .ok (.iconst 0, 1) := by decide +kernel
theorem dL_income_2 : decode cL_income 2 = .ok (.aload_n 0, 1) := by decide +kernel
theorem dL_income_3 : decode cL_income 3 = .ok (.iload_n 1, 1) := by decide +kernel
theorem dL_income_4 : decode cL_income 4 = .ok (.iload_n 2, 1) := by decide +kernel
theorem dL_income_5 : decode cL_income 5 = .ok (.invokevirtual 49, 3) := by decide +kernel
theorem dL_income_8 : decode cL_income 8 = .ok (.i2l, 1) := by decide +kernel
theorem dL_income_9 : decode cL_income 9 = .ok (.lastore, 1) := by decide +kernel
theorem dL_income_10 : decode cL_income 10 = .ok (.goto 7, 3) := by decide +kernel
theorem dL_income_13 : decode cL_income 13 = .ok (.astore 4, 2) := by decide +kernel
theorem dL_income_15 : decode cL_income 15 = .ok (.iconst 1, 1) := by decide +kernel
theorem dL_income_16 : decode cL_income 16 = .ok (.ireturn, 1) := by decide +kernel
theorem dL_income_17 : decode cL_income 17 = .ok (.iconst 0, 1) := by decide +kernel
theorem dL_income_18 : decode cL_income 18 = .ok (.ireturn, 1) := by decide +kernel
set_option maxRecDepth 20000 in
theorem ggL_obligation_X2_obligation : GoodIn wsL_obligation wsX2_obligation := goodIn_ca (goodIn_r _ [6, 7, 8, 9, 10, 11, 5, 12, 13, 14, 15, 16, 17, 18, 19, 20, 21, 22, 23, 24, 25, 26, 27, 28, 29, 30, 31, 32, 33, 34, 35, 36, 37] (by decide +kernel) (by decide +kernel)) (goodIn_sub (fun _ h => List.mem_cons_of_mem _ (List.mem_append_right _ h)) (by decide +kernel))
set_option maxRecDepth 20000 in
theorem gL_obligation_X2_obligation : GoodIn wsL_obligation (wsV RL 53 RX2 yX2_obligation wsX2_obligation) := goodIn_app (goodIn_of _ (by decide +kernel)) ggL_obligation_X2_obligation
theorem dL_obligation_0 : decode cL_obligation 0 = .ok (.aload 4, 2) := by decide +kernel
theorem dL_obligation_2 : decode cL_obligation 2 = .ok (.iconst 0, 1) := by decide +kernel
theorem dL_obligation_3 : decode cL_obligation 3 = .ok (.aload_n 0, 1) := by decide +kernel
theorem dL_obligation_4 : decode cL_obligation 4 = .ok (.iload_n 1, 1) := by decide +kernel
theorem dL_obligation_5 : decode cL_obligation 5 = .ok (.iload_n 2, 1) := by decide +kernel
theorem dL_obligation_6 : decode cL_obligation 6 = .ok (.iload_n 3, 1) := by decide +kernel
theorem dL_obligation_7 : decode cL_obligation 7 = .ok (.invokevirtual 53, 3) := by decide +kernel
theorem dL_obligation_10 : decode cL_obligation 10 = .ok (.i2l, 1) := by decide +kernel
theorem dL_obligation_11 : decode cL_obligation 11 = .ok (.lastore, 1) := by decide +kernel
theorem dL_obligation_12 : decode cL_obligation 12 = .ok (.goto 7, 3) := by decide +kernel
theorem dL_obligation_15 : decode cL_obligation 15 = .ok (.astore 5, 2) := by decide +kernel
theorem dL_obligation_17 : decode cL_obligation 17 = .ok (.iconst 1, 1) := by decide +kernel
theorem dL_obligation_18 : decode cL_obligation 18 = .ok (.ireturn, 1) := by decide +kernel
theorem dL_obligation_19 : decode cL_obligation 19 = .ok (.iconst 0, 1) := by decide +kernel
theorem dL_obligation_20 : decode cL_obligation 20 = .ok (.ireturn, 1) := by decide +kernel
set_option maxRecDepth 20000 in
theorem ggL_trade_X2_trade : GoodIn wsL_trade wsX2_trade := goodIn_ca (goodIn_ca (goodIn_ca (goodIn_r _ [8, 9, 10, 11, 12, 13, 14, 15, 16, 17, 18, 7, 19, 20, 21, 22, 23, 24, 25, 26, 27, 28, 29, 30, 31, 32, 33, 34, 35, 36, 37, 38, 39, 40, 41, 42, 43, 44, 45, 46, 47, 48, 49, 50, 51, 52] (by decide +kernel) (by decide +kernel)) (goodIn_sub (fun _ h => List.mem_cons_of_mem _ (List.mem_append_left _ (List.mem_append_left _ (List.mem_append_right _ h)))) (by decide +kernel))) (goodIn_sub (fun _ h => List.mem_cons_of_mem _ (List.mem_append_left _ (List.mem_append_right _ h))) (by decide +kernel))) (goodIn_sub (fun _ h => List.mem_cons_of_mem _ (List.mem_append_right _ h)) (by decide +kernel))
set_option maxRecDepth 20000 in
theorem gL_trade_X2_trade : GoodIn wsL_trade (wsV RL 57 RX2 yX2_trade wsX2_trade) := goodIn_app (goodIn_of _ (by decide +kernel)) ggL_trade_X2_trade
theorem dL_trade_0 : decode cL_trade 0 = .ok (.aload 7, 2) := by decide +kernel
theorem dL_trade_2 : decode cL_trade 2 = .ok (.iconst 0, 1) := by decide +kernel
theorem dL_trade_3 : decode cL_trade 3 = .ok (.aload_n 0, 1) := by decide +kernel
theorem dL_trade_4 : decode cL_trade 4 = .ok (.iload_n 1, 1) := by decide +kernel
theorem dL_trade_5 : decode cL_trade 5 = .ok (.iload_n 2, 1) := by decide +kernel
theorem dL_trade_6 : decode cL_trade 6 = .ok (.iload_n 3, 1) := by decide +kernel
theorem dL_trade_7 : decode cL_trade 7 = .ok (.iload 4, 2) := by decide +kernel
theorem dL_trade_9 : decode cL_trade 9 = .ok (.iload 5, 2) := by decide +kernel
theorem dL_trade_11 : decode cL_trade 11 = .ok (.iload 6, 2) := by decide +kernel
theorem dL_trade_13 : decode cL_trade 13 = .ok (.invokevirtual 57, 3) := by decide +kernel
theorem dL_trade_16 : decode cL_trade 16 = .ok (.i2l, 1) := by decide +kernel
theorem dL_trade_17 : decode cL_trade 17 = .ok (.lastore, 1) := by decide +kernel
theorem dL_trade_18 : decode cL_trade 18 = .ok (.goto 15, 3) := by decide +kernel
theorem dL_trade_21 : decode cL_trade 21 = .ok (.astore 8, 2) := by decide +kernel
theorem dL_trade_23 : decode cL_trade 23 = .ok (.iconst 1, 1) := by decide +kernel
theorem dL_trade_24 : decode cL_trade 24 = .ok (.ireturn, 1) := by decide +kernel
theorem dL_trade_25 : decode cL_trade 25 = .ok (.astore 8, 2) := by decide +kernel
theorem dL_trade_27 : decode cL_trade 27 = .ok (.iconst 2, 1) := by decide +kernel
theorem dL_trade_28 : decode cL_trade 28 = .ok (.ireturn, 1) := by decide +kernel
theorem dL_trade_29 : decode cL_trade 29 = .ok (.astore 8, 2) := by decide +kernel
theorem dL_trade_31 : decode cL_trade 31 = .ok (.iconst 3, 1) := by decide +kernel
theorem dL_trade_32 : decode cL_trade 32 = .ok (.ireturn, 1) := by decide +kernel
theorem dL_trade_33 : decode cL_trade 33 = .ok (.iconst 0, 1) := by decide +kernel
theorem dL_trade_34 : decode cL_trade 34 = .ok (.ireturn, 1) := by decide +kernel
set_option maxRecDepth 20000 in
theorem ggL_stress_X2_stress : GoodIn wsL_stress wsX2_stress := goodIn_ca (goodIn_r _ [6, 7, 8, 9, 10, 11, 5, 12, 13, 14, 15, 16, 17, 18, 19, 20, 21, 22, 23, 24, 25, 26, 27, 28] (by decide +kernel) (by decide +kernel)) (goodIn_sub (fun _ h => List.mem_cons_of_mem _ (List.mem_append_right _ h)) (by decide +kernel))
set_option maxRecDepth 20000 in
theorem gL_stress_X2_stress : GoodIn wsL_stress (wsV RL 61 RX2 yX2_stress wsX2_stress) := goodIn_app (goodIn_of _ (by decide +kernel)) ggL_stress_X2_stress
theorem dL_stress_0 : decode cL_stress 0 = .ok (.aload_n 3, 1) := by decide +kernel
theorem dL_stress_1 : decode cL_stress 1 = .ok (.iconst 0, 1) := by decide +kernel
theorem dL_stress_2 : decode cL_stress 2 = .ok (.aload_n 0, 1) := by decide +kernel
theorem dL_stress_3 : decode cL_stress 3 = .ok (.iload_n 1, 1) := by decide +kernel
theorem dL_stress_4 : decode cL_stress 4 = .ok (.iload_n 2, 1) := by decide +kernel
theorem dL_stress_5 : decode cL_stress 5 = .ok (.invokevirtual 61, 3) := by decide +kernel
theorem dL_stress_8 : decode cL_stress 8 = .ok (.ifCond .eq 7, 3) := by decide +kernel
theorem dL_stress_11 : decode cL_stress 11 = .ok (.lconst 1, 1) := by decide +kernel
theorem dL_stress_12 : decode cL_stress 12 = .ok (.goto 4, 3) := by decide +kernel
theorem dL_stress_15 : decode cL_stress 15 = .ok (.lconst 0, 1) := by decide +kernel
theorem dL_stress_16 : decode cL_stress 16 = .ok (.lastore, 1) := by decide +kernel
theorem dL_stress_17 : decode cL_stress 17 = .ok (.goto 7, 3) := by decide +kernel
theorem dL_stress_20 : decode cL_stress 20 = .ok (.astore 4, 2) := by decide +kernel
theorem dL_stress_22 : decode cL_stress 22 = .ok (.iconst 1, 1) := by decide +kernel
theorem dL_stress_23 : decode cL_stress 23 = .ok (.ireturn, 1) := by decide +kernel
theorem dL_stress_24 : decode cL_stress 24 = .ok (.iconst 0, 1) := by decide +kernel
theorem dL_stress_25 : decode cL_stress 25 = .ok (.ireturn, 1) := by decide +kernel
set_option maxRecDepth 20000 in
theorem ggL_tell_X2_tell : GoodIn wsL_tell wsX2_tell := goodIn_ca (goodIn_ca (goodIn_r _ [7, 8, 9, 10, 11, 12, 13, 14, 6, 15, 16, 17, 18, 19, 20, 21, 22, 23, 24, 25, 26, 27, 28, 29, 30, 31, 32, 33, 34, 35, 36, 37, 38, 39, 40] (by decide +kernel) (by decide +kernel)) (goodIn_sub (fun _ h => List.mem_cons_of_mem _ (List.mem_append_left _ (List.mem_append_right _ h))) (by decide +kernel))) (goodIn_sub (fun _ h => List.mem_cons_of_mem _ (List.mem_append_right _ h)) (by decide +kernel))
set_option maxRecDepth 20000 in
theorem gL_tell_X2_tell : GoodIn wsL_tell (wsV RL 64 RX2 yX2_tell wsX2_tell) := goodIn_app (goodIn_of _ (by decide +kernel)) ggL_tell_X2_tell
theorem dL_tell_0 : decode cL_tell 0 = .ok (.aload 5, 2) := by decide +kernel
theorem dL_tell_2 : decode cL_tell 2 = .ok (.iconst 0, 1) := by decide +kernel
theorem dL_tell_3 : decode cL_tell 3 = .ok (.aload_n 0, 1) := by decide +kernel
theorem dL_tell_4 : decode cL_tell 4 = .ok (.iload_n 1, 1) := by decide +kernel
theorem dL_tell_5 : decode cL_tell 5 = .ok (.iload_n 2, 1) := by decide +kernel
theorem dL_tell_6 : decode cL_tell 6 = .ok (.iload_n 3, 1) := by decide +kernel
theorem dL_tell_7 : decode cL_tell 7 = .ok (.iload 4, 2) := by decide +kernel
theorem dL_tell_9 : decode cL_tell 9 = .ok (.invokevirtual 64, 3) := by decide +kernel
theorem dL_tell_12 : decode cL_tell 12 = .ok (.i2l, 1) := by decide +kernel
theorem dL_tell_13 : decode cL_tell 13 = .ok (.lastore, 1) := by decide +kernel
theorem dL_tell_14 : decode cL_tell 14 = .ok (.goto 11, 3) := by decide +kernel
theorem dL_tell_17 : decode cL_tell 17 = .ok (.astore 6, 2) := by decide +kernel
theorem dL_tell_19 : decode cL_tell 19 = .ok (.iconst 1, 1) := by decide +kernel
theorem dL_tell_20 : decode cL_tell 20 = .ok (.ireturn, 1) := by decide +kernel
theorem dL_tell_21 : decode cL_tell 21 = .ok (.astore 6, 2) := by decide +kernel
theorem dL_tell_23 : decode cL_tell 23 = .ok (.iconst 2, 1) := by decide +kernel
theorem dL_tell_24 : decode cL_tell 24 = .ok (.ireturn, 1) := by decide +kernel
theorem dL_tell_25 : decode cL_tell 25 = .ok (.iconst 0, 1) := by decide +kernel
theorem dL_tell_26 : decode cL_tell 26 = .ok (.ireturn, 1) := by decide +kernel
set_option maxRecDepth 20000 in
theorem ggL_setPenalty_X2_setPenalty : GoodIn wsL_setPenalty wsX2_setPenalty := goodIn_ca (goodIn_r _ [6, 7, 8, 9, 10, 11, 12, 5, 13, 14, 15, 16, 17, 18, 19, 20, 21, 22, 23] (by decide +kernel) (by decide +kernel)) (goodIn_sub (fun _ h => List.mem_cons_of_mem _ (List.mem_append_right _ h)) (by decide +kernel))
set_option maxRecDepth 20000 in
theorem gL_setPenalty_X2_setPenalty : GoodIn wsL_setPenalty (wsV RL 68 RX2 yX2_setPenalty wsX2_setPenalty) := goodIn_app (goodIn_of _ (by decide +kernel)) ggL_setPenalty_X2_setPenalty
theorem dL_setPenalty_0 : decode cL_setPenalty 0 = .ok (.aload_n 0, 1) := by decide +kernel
theorem dL_setPenalty_1 : decode cL_setPenalty 1 = .ok (.iload_n 1, 1) := by decide +kernel
theorem dL_setPenalty_2 : decode cL_setPenalty 2 = .ok (.iload_n 2, 1) := by decide +kernel
theorem dL_setPenalty_3 : decode cL_setPenalty 3 = .ok (.invokevirtual 68, 3) := by decide +kernel
theorem dL_setPenalty_6 : decode cL_setPenalty 6 = .ok (.goto 6, 3) := by decide +kernel
theorem dL_setPenalty_9 : decode cL_setPenalty 9 = .ok (.astore_n 3, 1) := by decide +kernel
theorem dL_setPenalty_10 : decode cL_setPenalty 10 = .ok (.iconst 1, 1) := by decide +kernel
theorem dL_setPenalty_11 : decode cL_setPenalty 11 = .ok (.ireturn, 1) := by decide +kernel
theorem dL_setPenalty_12 : decode cL_setPenalty 12 = .ok (.iconst 0, 1) := by decide +kernel
theorem dL_setPenalty_13 : decode cL_setPenalty 13 = .ok (.ireturn, 1) := by decide +kernel
set_option maxRecDepth 20000 in
theorem ggL_lack_X2_lack : GoodIn wsL_lack wsX2_lack := goodIn_ca (goodIn_r _ [6, 7, 8, 9, 10, 5, 11, 12, 13, 14, 15, 16, 17, 18, 19, 20, 21, 22, 23, 24, 25, 26, 27, 28, 29, 30, 31, 32, 33, 34, 35, 36, 37, 38, 39, 40] (by decide +kernel) (by decide +kernel)) (goodIn_sub (fun _ h => List.mem_cons_of_mem _ (List.mem_append_right _ h)) (by decide +kernel))
set_option maxRecDepth 20000 in
theorem gL_lack_X2_lack : GoodIn wsL_lack (wsV RL 72 RX2 yX2_lack wsX2_lack) := goodIn_app (goodIn_of _ (by decide +kernel)) ggL_lack_X2_lack
theorem dL_lack_0 : decode cL_lack 0 = .ok (.aload_n 3, 1) := by decide +kernel
theorem dL_lack_1 : decode cL_lack 1 = .ok (.iconst 0, 1) := by decide +kernel
theorem dL_lack_2 : decode cL_lack 2 = .ok (.aload_n 0, 1) := by decide +kernel
theorem dL_lack_3 : decode cL_lack 3 = .ok (.iload_n 1, 1) := by decide +kernel
theorem dL_lack_4 : decode cL_lack 4 = .ok (.iload_n 2, 1) := by decide +kernel
theorem dL_lack_5 : decode cL_lack 5 = .ok (.invokevirtual 72, 3) := by decide +kernel
theorem dL_lack_8 : decode cL_lack 8 = .ok (.i2l, 1) := by decide +kernel
theorem dL_lack_9 : decode cL_lack 9 = .ok (.lastore, 1) := by decide +kernel
theorem dL_lack_10 : decode cL_lack 10 = .ok (.goto 7, 3) := by decide +kernel
theorem dL_lack_13 : decode cL_lack 13 = .ok (.astore 4, 2) := by decide +kernel
theorem dL_lack_15 : decode cL_lack 15 = .ok (.iconst 1, 1) := by decide +kernel
theorem dL_lack_16 : decode cL_lack 16 = .ok (.ireturn, 1) := by decide +kernel
theorem dL_lack_17 : decode cL_lack 17 = .ok (.iconst 0, 1) := by decide +kernel
theorem dL_lack_18 : decode cL_lack 18 = .ok (.ireturn, 1) := by decide +kernel
set_option maxRecDepth 20000 in
theorem ggL_penalty_X2_penalty : GoodIn wsL_penalty wsX2_penalty := goodIn_ca (goodIn_r _ [6, 7, 8, 9, 10, 5, 11, 12, 13, 14, 15, 16, 17, 18, 19, 20, 21, 22, 23, 24, 25, 26, 27, 28, 29, 30, 31, 32, 33, 34, 35, 36, 37, 38, 39, 40, 41, 42, 43, 44, 45, 46, 47, 48, 49, 50, 51, 52, 53, 54, 55] (by decide +kernel) (by decide +kernel)) (goodIn_sub (fun _ h => List.mem_cons_of_mem _ (List.mem_append_right _ h)) (by decide +kernel))
set_option maxRecDepth 20000 in
theorem gL_penalty_X2_penalty : GoodIn wsL_penalty (wsV RL 75 RX2 yX2_penalty wsX2_penalty) := goodIn_app (goodIn_of _ (by decide +kernel)) ggL_penalty_X2_penalty
theorem dL_penalty_0 : decode cL_penalty 0 = .ok (.aload_n 3, 1) := by decide +kernel
theorem dL_penalty_1 : decode cL_penalty 1 = .ok (.iconst 0, 1) := by decide +kernel
theorem dL_penalty_2 : decode cL_penalty 2 = .ok (.aload_n 0, 1) := by decide +kernel
theorem dL_penalty_3 : decode cL_penalty 3 = .ok (.iload_n 1, 1) := by decide +kernel
theorem dL_penalty_4 : decode cL_penalty 4 = .ok (.iload_n 2, 1) := by decide +kernel
theorem dL_penalty_5 : decode cL_penalty 5 = .ok (.invokevirtual 75, 3) := by decide +kernel
theorem dL_penalty_8 : decode cL_penalty 8 = .ok (.i2l, 1) := by decide +kernel
theorem dL_penalty_9 : decode cL_penalty 9 = .ok (.lastore, 1) := by decide +kernel
theorem dL_penalty_10 : decode cL_penalty 10 = .ok (.goto 7, 3) := by decide +kernel
theorem dL_penalty_13 : decode cL_penalty 13 = .ok (.astore 4, 2) := by decide +kernel
theorem dL_penalty_15 : decode cL_penalty 15 = .ok (.iconst 1, 1) := by decide +kernel
theorem dL_penalty_16 : decode cL_penalty 16 = .ok (.ireturn, 1) := by decide +kernel
theorem dL_penalty_17 : decode cL_penalty 17 = .ok (.iconst 0, 1) := by decide +kernel
theorem dL_penalty_18 : decode cL_penalty 18 = .ok (.ireturn, 1) := by decide +kernel
end
section
/-! Rows of calls in a form that fits this system: methods that only read, methods that write their own world, methods that throw before they write. -/
def q_R (D : va_G) (cl : List vw_C) (tys : List (ClassId × FieldType)) (ws : va_W) : State → Prop := fun U => va_P D cl ws U.heap ∧ va_K D cl tys U
def q_M (D : va_G) (cl : List vw_C) (tys : List (ClassId × FieldType)) (ws : va_W) : State → Prop := fun U => va_P D cl ws U.heap ∧ va_K D cl tys U ∧ va_D (fun _ => True) ws
def q_B (ws : va_W) : Nat → Prop := fun q => ∃ (k : Nat) (e : va_E), ws[k]? = some (q, e)
def q_W (v : Option Value) (D : va_G) (cl : List vw_C) (ws' : va_W) (A : Nat → Prop) : Array Value → State → Outcome → State → Prop := fun _ st o t => o = .returned v ∧ va_P D cl ws' t.heap ∧ va_F A st t
def q_V (cond : Prop) (v : Option Value) (D : va_G) (cl : List vw_C) (ws' : va_W) (A : Nat → Prop) : Array Value → State → Outcome → State → Prop := fun _ st o t => cond ∧ o = .returned v ∧ va_P D cl ws' t.heap ∧ va_F A st t
def q_X (px : String → Prop) : String → State → State → Prop := fun E st t => px E ∧ va_F (fun _ => False) st t
def q_RL (r : Int64) : Array Value → State → Outcome → State → Prop := fun _ st o t => o = .returned (some (.long r)) ∧ t.heap = st.heap
theorem q_Rb {D : va_G} {cl : List vw_C} {tys : List (ClassId × FieldType)} {ws : va_W} {av : List Value} : FrameBlind (va_Pc av (q_R D cl tys ws)) := fun a U g mk q => ⟨q.1, q.2.1, va_K.moved (u := U) (U := U.calling g mk a) (Vm.Alike.refl U.vm) q.2.2⟩
theorem q_Mb {D : va_G} {cl : List vw_C} {tys : List (ClassId × FieldType)} {ws : va_W} {av : List Value} : FrameBlind (va_Pc av (q_M D cl tys ws)) := fun a U g mk q => ⟨q.1, q.2.1, va_K.moved (u := U) (U := U.calling g mk a) (Vm.Alike.refl U.vm) q.2.2.1, q.2.2.2⟩
theorem q_Bself {ws : va_W} {A : Nat → Prop} (h : va_D A ws) : va_D (q_B ws) ws := ⟨h.1, fun k q hk => ⟨k, q.2, hk⟩⟩
theorem q_Dall {ws : va_W} {A : Nat → Prop} (h : va_D A ws) : va_D (fun _ => True) ws := ⟨h.1, fun _ _ _ => trivial⟩
/-- a world of the same addresses is apart as well -/
theorem q_Dsame {A : Nat → Prop} {ws ws' : va_W} (h : va_D A ws) (e : ws'.map Prod.fst = ws.map Prod.fst) : va_D A ws' := by
  have key : ∀ (k : Nat) (q : Nat × va_E), ws'[k]? = some q → ∃ q0, ws[k]? = some q0 ∧ q0.1 = q.1 := by
    intro k q hk
    have h1 : (ws'.map Prod.fst)[k]? = some q.1 := by rw [List.getElem?_map, hk]; rfl
    rw [e, List.getElem?_map] at h1
    cases hq : ws[k]? with
    | none => rw [hq] at h1; cases h1
    | some q0 => rw [hq] at h1; exact ⟨q0, rfl, Option.some.inj h1⟩
  refine ⟨fun i j x y hi hj hxy => ?_, fun k q hk => ?_⟩
  · obtain ⟨x0, h1, h2⟩ := key i x hi
    obtain ⟨y0, h3, h4⟩ := key j y hj
    exact h.1 i j x0 y0 h1 h3 (h2.trans (hxy.trans h4.symm))
  · obtain ⟨q0, h1, h2⟩ := key k q hk
    rw [← h2]
    exact h.2 k q0 h1
/-- what a callee's part of the world became, put back into the whole -/
theorem q_join {A A0 : Nat → Prop} {D : va_G} {cl : List vw_C} {ws wc wc' ws' : va_W} {H H1 : Heap} (hP : va_P D cl ws H) (hD : va_D A0 ws) (isC : List Nat) (hC : isC.map (fun i => ws[i]?) = wc.map some)
    (src : List (Bool × Nat)) (h' : src.map (fun q => if q.1 then wc'[q.2]? else ws[q.2]?) = ws'.map some) (hn : src.all (fun q => q.1 || !(isC.contains q.2)) = true) (ha : ws'.map Prod.fst = ws.map Prod.fst)
    (hA : ∀ q, A q → q_B wc q) (hk : ∀ q : Nat, q < H.size → ¬ A q → H1[q]? = H[q]?) (hP1 : va_P D cl wc' H1) : va_P D cl ws' H1 ∧ va_D A0 ws' := by
  refine ⟨fun k q hq => ?_, q_Dsame hD ha⟩
  have h1 : (src.map (fun q => if q.1 then wc'[q.2]? else ws[q.2]?))[k]? = some (some q) := by rw [h', List.getElem?_map, hq]; rfl
  rw [List.getElem?_map] at h1
  cases hs : src[k]? with
  | none => rw [hs] at h1; cases h1
  | some z =>
    rw [hs] at h1
    have h2 := Option.some.inj h1
    have h3 := List.all_eq_true.mp hn z (List.mem_of_getElem? hs)
    obtain ⟨b, i⟩ := z
    cases b with
    | true => exact hP1 i q h2
    | false =>
      have h2 : ws[i]? = some q := h2
      have h3 : i ∉ isC := by simpa using h3
      refine (hP i q h2).kept (hk q.1 (hP i q h2).lt fun hAq => ?_)
      obtain ⟨k2, e2, h4⟩ := hA q.1 hAq
      have h5 : (isC.map (fun i => ws[i]?))[k2]? = some (some (q.1, e2)) := by rw [hC, List.getElem?_map, h4]; rfl
      rw [List.getElem?_map] at h5
      cases hi : isC[k2]? with
      | none => rw [hi] at h5; cases h5
      | some j =>
        rw [hi] at h5
        have hij := hD.1 i j q (q.1, e2) h2 (Option.some.inj h5) rfl
        subst hij
        exact h3 (List.mem_of_getElem? hi)
theorem q_Bin {A0 : Nat → Prop} {ws wc : va_W} (hD : va_D A0 ws) (isC : List Nat) (hC : isC.map (fun i => ws[i]?) = wc.map some) : ∀ q, q_B wc q → A0 q := by
  rintro q ⟨k, e, h⟩
  have h1 : (isC.map (fun i => ws[i]?))[k]? = some (some (q, e)) := by rw [hC, List.getElem?_map, h]; rfl
  rw [List.getElem?_map] at h1
  cases hi : isC[k]? with
  | none => rw [hi] at h1; cases h1
  | some i => rw [hi] at h1; exact hD.2 i (q, e) (Option.some.inj h1)
section QCA
variable {p : Program} {l : Launch} {e : Env} {R : Room} {s : State} {m : MethodId} {args : Array Value} {below : List Frame} {meth : Method} {c : Code} {H : Heap} {locs : List Loc} {cells slots : Nat} {Q : State → Prop}
variable {pc : Nat} {ls : Array Slot} {rest st0 : List Value}
variable {y : MethodName} {bytes cc : ByteArray} {maxL nL n index mc ms : Nat} {ret : Option FieldType} {wsy : List Cond} {rm : Room} {Ts : List Cond} {own C : String} {b : Addr} {As : List Value}
variable {D : va_G} {cl : List vw_C} {tys : List (ClassId × FieldType)} {ws wc wc' ws' : va_W} {A A0 : Nat → Prop} {H0 : Heap}
/-- a method of an object, that only reads: an int -/
theorem q_rV {r : Int32} (S : CallFix p m c cc nL s args Ts own) (hM : Met l y wsy rm (va_Pc (.ref b :: As) (q_R D cl tys wc)) (QcRead r) 0 0 (fun _ => False)) (cw : CallW R s args own C index y bytes maxL ret wsy rm 0 0 n)
    (hK : va_K D cl tys s) (hP : va_P D cl wc H) (ci q0 : Nat) {q : vw_C} {fs : List Value} (hc : cl[ci]? = some q) (hC : q.1 = C) (he : wc[q0]? = some (b, .inr (ci, fs))) (hn : As.length = n) (hsize : ls.size = nL) (hst : st0 = As.reverse ++ .ref b :: rest)
    (hW : (rest.map fun v => v.category).sum ≤ 8) (hdg : decode cc pc = .ok (.invokevirtual index, 3)) (hf : cells + 0 ≤ R.cells ∧ slots + 0 ≤ R.slots)
    (kk : W p l e R s m args below meth c H locs cells slots Q (F0 m (pc + 3) ls (.int r :: rest))) : W p l e R s m args below meth c H locs cells slots Q (F0 m pc ls st0) := by
  subst hC
  exact W.callR (W.runV (rest := rest) S hM cw ⟨q_Rb, va_recv hK hP hc he, fun U hU hW => ⟨rfl, by rw [hU]; exact hP, va_K.moved hW.alike hK⟩⟩ rfl hn hsize hst (lv_room hW) hdg hf) kk
/-- .. a static one -/
theorem q_rS {r : Int32} (S : CallFix p m c cc nL s args Ts own) (hM : Met l y wsy rm (va_Pc As (q_R D cl tys wc)) (QcRead r) 0 0 (fun _ => False)) (cw : CallB R s args own index y bytes maxL ret wsy rm 0 0 n ∧ (Cond.static y).before args s = true)
    (hK : va_K D cl tys s) (hP : va_P D cl wc H) (hn : As.length = n) (hsize : ls.size = nL) (hst : st0 = As.reverse ++ rest)
    (hW : (rest.map fun v => v.category).sum ≤ 8) (hdg : decode cc pc = .ok (.invokestatic index, 3)) (hf : cells + 0 ≤ R.cells ∧ slots + 0 ≤ R.slots)
    (kk : W p l e R s m args below meth c H locs cells slots Q (F0 m (pc + 3) ls (.int r :: rest))) : W p l e R s m args below meth c H locs cells slots Q (F0 m pc ls st0) := by
  exact W.callR (W.runS (rest := rest) S hM cw ⟨q_Rb, fun U hU hW => ⟨rfl, by rw [hU]; exact hP, va_K.moved hW.alike hK⟩⟩ rfl hn hsize hst (lv_room hW) hdg hf) kk
/-- a method of an object, that only reads: a long -/
theorem q_rVl {r : Int64} (S : CallFix p m c cc nL s args Ts own) (hM : Met l y wsy rm (va_Pc (.ref b :: As) (q_R D cl tys wc)) (q_RL r) 0 0 (fun _ => False)) (cw : CallW R s args own C index y bytes maxL ret wsy rm 0 0 n)
    (hK : va_K D cl tys s) (hP : va_P D cl wc H) (ci q0 : Nat) {q : vw_C} {fs : List Value} (hc : cl[ci]? = some q) (hC : q.1 = C) (he : wc[q0]? = some (b, .inr (ci, fs))) (hn : As.length = n) (hsize : ls.size = nL) (hst : st0 = As.reverse ++ .ref b :: rest)
    (hW : (rest.map fun v => v.category).sum ≤ 8) (hdg : decode cc pc = .ok (.invokevirtual index, 3)) (hf : cells + 0 ≤ R.cells ∧ slots + 0 ≤ R.slots)
    (kk : W p l e R s m args below meth c H locs cells slots Q (F0 m (pc + 3) ls (.long r :: rest))) : W p l e R s m args below meth c H locs cells slots Q (F0 m pc ls st0) := by
  subst hC
  have hr : CallRun p l e R s m args below meth c H locs cells slots 0 0 (F0 m pc ls st0) rest (q_RL r (Value.ref b :: As).toArray) (fun _ => False) := W.runV S hM cw ⟨q_Rb, va_recv hK hP hc he, fun U hU hW => ⟨rfl, by rw [hU]; exact hP, va_K.moved hW.alike hK⟩⟩ rfl hn hsize hst (lv_room (m := m) (pc := pc) (ls := ls) (rest := st0) hW) hdg hf
  intro T hT X
  obtain ⟨v, st₀, t, T', L, h0, X', hL, e1, ⟨hv, hh⟩, st⟩ := hr T hT X
  cases hv
  obtain ⟨t2, a1, b1⟩ := kk T' (by rw [e1, hh, h0]) (Stand.forget X' (fun q h => (hL q h).elim))
  exact ⟨t2, st t2 a1, b1⟩
/-- a method of an object, that writes its world -/
theorem q_wV {v : Option Value} (S : CallFix p m c cc nL s args Ts own) (hM : Met l y wsy rm (va_Pc (.ref b :: As) (q_M D cl tys wc)) (q_W v D cl wc' (q_B wc)) 0 0 (q_B wc)) (cw : CallW R s args own C index y bytes maxL ret wsy rm 0 0 n)
    (hK : va_K D cl tys s) (hP : va_P D cl ws H) (hD : va_D A0 ws) (hS : va_S A0 H0 H locs) (isC : List Nat) (hCs : isC.map (fun i => ws[i]?) = wc.map some) (hnd : va_nd isC = true)
    (src : List (Bool × Nat)) (h' : src.map (fun q => if q.1 then wc'[q.2]? else ws[q.2]?) = ws'.map some) (hsn : src.all (fun q => q.1 || !(isC.contains q.2)) = true) (ha : ws'.map Prod.fst = ws.map Prod.fst)
    (ci q0 : Nat) {q : vw_C} {fs : List Value} (hc : cl[ci]? = some q) (hC : q.1 = C) (he : wc[q0]? = some (b, .inr (ci, fs))) (hn : As.length = n) (hsize : ls.size = nL) (hst : st0 = As.reverse ++ .ref b :: rest)
    (hW : (rest.map fun v => v.category).sum ≤ 8) (hdg : decode cc pc = .ok (.invokevirtual index, 3)) (hf : cells + 0 ≤ R.cells ∧ slots + 0 ≤ R.slots)
    (kk : ∀ (H1 : Heap) (locs1 : List Loc), va_P D cl ws' H1 → va_D A0 ws' → va_S A0 H0 H1 locs1 → W p l e R s m args below meth c H1 locs1 cells slots Q (F0 m (pc + 3) ls (v.toList ++ rest))) : W p l e R s m args below meth c H locs cells slots Q (F0 m pc ls st0) := by
  subst hC
  have hPc : va_P D cl wc H := by
    intro k z hz
    have h1 : (isC.map (fun i => ws[i]?))[k]? = some (some z) := by rw [hCs, List.getElem?_map, hz]; rfl
    rw [List.getElem?_map] at h1
    cases hi : isC[k]? with
    | none => rw [hi] at h1; cases h1
    | some i => rw [hi] at h1; exact hP i z (Option.some.inj h1)
  have hDc : va_D A0 wc := hD.sub isC hnd hCs
  have hin := q_Bin hD isC hCs
  have hr : CallRun p l e R s m args below meth c H locs cells slots 0 0 (F0 m pc ls st0) rest (q_W v D cl wc' (q_B wc) (Value.ref b :: As).toArray) (q_B wc) := W.runV S hM cw ⟨q_Mb, va_recv hK hPc hc he, fun U hU hW => ⟨rfl, by rw [hU]; exact hPc, va_K.moved hW.alike hK, q_Dall hDc⟩⟩ rfl hn hsize hst (lv_room (m := m) (pc := pc) (ls := ls) (rest := st0) hW) hdg hf
  intro T hT X
  obtain ⟨v', st₀, t, T', L, h0, X', hL, e1, ⟨hv, hP1, hF⟩, st⟩ := hr T hT X
  cases hv
  obtain ⟨k1, k2, k3⟩ := vx_keep h0 e1 hS (fun q _ hq => hin q hq) hin hL hF
  rw [← e1] at hP1
  obtain ⟨j1, j2⟩ := q_join hP hD isC hCs src h' hsn ha (fun _ h => h) k2 hP1
  obtain ⟨t2, a1, b1⟩ := kk T'.heap (locs ++ L) j1 j2 k3 T' rfl X'
  exact ⟨t2, st t2 a1, b1⟩
end QCA
abbrev q_T (cI cZ cJ : ClassId) : List (ClassId × FieldType) := [(cI, .int), (cZ, .boolean), (cJ, .long)]
theorem q_ix {i : Int32} {j n : Nat} (hi : i = nI j) (hj : j < n) (hn : n < 2 ^ 31) : i.toNatClampNeg = j ∧ vp_in i n := by
  subst hi
  exact ⟨nI_clamp (by omega), vp_in_nI hj hn⟩
section QAR
variable {p : Program} {l : Launch} {e : Env} {R : Room} {s : State} {m : MethodId} {args : Array Value} {below : List Frame} {meth : Method} {c : Code} {H : Heap} {locs : List Loc} {cells slots : Nat} {Q : State → Prop}
variable {pc : Nat} {ls : Array Slot} {rest : List Value} {cc : ByteArray} {D : va_G} {cl : List vw_C} {tys : List (ClassId × FieldType)} {ws : va_W} {A : Nat → Prop} {H0 : Heap} {a : Nat}
theorem q_iald (hexec : p.tables.exec = Jvm.exec) (hb : c.code = cc) (hK : va_K D cl tys s) (hP : va_P D cl ws H) (q0 t0 : Nat) {cA : ClassId} {n : Nat} {f : Nat → Int32} (ha : ws[q0]? = some (a, .inl (cA, n, .inl f))) (ht : tys[t0]? = some (cA, .int)) (j : Nat) {i : Int32} (hi : i = nI j) (hj : j < n) (hn : n < 2 ^ 31) (hdg : decode cc pc = .ok (.iaload, 1))
    (kk : W p l e R s m args below meth c H locs cells slots Q (F0 m (pc + 1) ls (.int (f j) :: rest))) : W p l e R s m args below meth c H locs cells slots Q (F0 m pc ls (.int i :: .ref a :: rest)) := by
  obtain ⟨e1, e2⟩ := q_ix hi hj hn
  refine va_iald hexec hb hK hP q0 t0 ha ht e2 hdg ?_
  rw [e1]; exact kk
theorem q_zald (hexec : p.tables.exec = Jvm.exec) (hb : c.code = cc) (hK : va_K D cl tys s) (hP : va_P D cl ws H) (q0 t0 : Nat) {cA : ClassId} {n : Nat} {f : Nat → Int32} (ha : ws[q0]? = some (a, .inl (cA, n, .inl f))) (ht : tys[t0]? = some (cA, .boolean)) (j : Nat) {i : Int32} (hi : i = nI j) (hj : j < n) (hn : n < 2 ^ 31) (hdg : decode cc pc = .ok (.baload, 1))
    (kk : W p l e R s m args below meth c H locs cells slots Q (F0 m (pc + 1) ls (.int (f j) :: rest))) : W p l e R s m args below meth c H locs cells slots Q (F0 m pc ls (.int i :: .ref a :: rest)) := by
  obtain ⟨e1, e2⟩ := q_ix hi hj hn
  refine va_zald hexec hb hK hP q0 t0 ha ht e2 hdg ?_
  rw [e1]; exact kk
theorem q_lald (hexec : p.tables.exec = Jvm.exec) (hb : c.code = cc) (hK : va_K D cl tys s) (hP : va_P D cl ws H) (q0 t0 : Nat) {cA : ClassId} {n : Nat} {f : Nat → Int64} (ha : ws[q0]? = some (a, .inl (cA, n, .inr (.inl f)))) (ht : tys[t0]? = some (cA, .long)) (j : Nat) {i : Int32} (hi : i = nI j) (hj : j < n) (hn : n < 2 ^ 31) (hdg : decode cc pc = .ok (.laload, 1))
    (kk : W p l e R s m args below meth c H locs cells slots Q (F0 m (pc + 1) ls (.long (f j) :: rest))) : W p l e R s m args below meth c H locs cells slots Q (F0 m pc ls (.int i :: .ref a :: rest)) := by
  obtain ⟨e1, e2⟩ := q_ix hi hj hn
  refine va_lald hexec hb hK hP q0 t0 ha ht e2 hdg ?_
  rw [e1]; exact kk
theorem q_iast (hexec : p.tables.exec = Jvm.exec) (hb : c.code = cc) (hK : va_K D cl tys s) (hP : va_P D cl ws H) (hD : va_D A ws) (hS : va_S A H0 H locs) (q0 t0 : Nat) {cA : ClassId} {n : Nat} {f : Nat → Int32} (ha : ws[q0]? = some (a, .inl (cA, n, .inl f))) (ht : tys[t0]? = some (cA, .int)) (j : Nat) {i x : Int32} (hi : i = nI j) (hj : j < n) (hn : n < 2 ^ 31) (hdg : decode cc pc = .ok (.iastore, 1))
    (kk : ∀ (H1 : Heap) (locs1 : List Loc), va_P D cl (ws.set q0 (a, .inl (cA, n, .inl (upd f j x)))) H1 → va_D A (ws.set q0 (a, .inl (cA, n, .inl (upd f j x)))) → va_S A H0 H1 locs1 → W p l e R s m args below meth c H1 locs1 cells slots Q (F0 m (pc + 1) ls rest)) : W p l e R s m args below meth c H locs cells slots Q (F0 m pc ls (.int x :: .int i :: .ref a :: rest)) := by
  obtain ⟨e1, e2⟩ := q_ix hi hj hn
  refine va_iast hexec hb hK hP hD hS q0 t0 ha ht e2 hdg ?_
  rw [e1]; exact kk
theorem q_zast (hexec : p.tables.exec = Jvm.exec) (hb : c.code = cc) (hK : va_K D cl tys s) (hP : va_P D cl ws H) (hD : va_D A ws) (hS : va_S A H0 H locs) (q0 t0 : Nat) {cA : ClassId} {n : Nat} {f : Nat → Int32} (ha : ws[q0]? = some (a, .inl (cA, n, .inl f))) (ht : tys[t0]? = some (cA, .boolean)) (j : Nat) {i x : Int32} (hi : i = nI j) (hj : j < n) (hn : n < 2 ^ 31) (hnar : vp_nar .boolean x = x) (hdg : decode cc pc = .ok (.bastore, 1))
    (kk : ∀ (H1 : Heap) (locs1 : List Loc), va_P D cl (ws.set q0 (a, .inl (cA, n, .inl (upd f j x)))) H1 → va_D A (ws.set q0 (a, .inl (cA, n, .inl (upd f j x)))) → va_S A H0 H1 locs1 → W p l e R s m args below meth c H1 locs1 cells slots Q (F0 m (pc + 1) ls rest)) : W p l e R s m args below meth c H locs cells slots Q (F0 m pc ls (.int x :: .int i :: .ref a :: rest)) := by
  obtain ⟨e1, e2⟩ := q_ix hi hj hn
  refine va_zast hexec hb hK hP hD hS q0 t0 ha ht e2 hdg ?_
  rw [e1, hnar]; exact kk
theorem q_last (hexec : p.tables.exec = Jvm.exec) (hb : c.code = cc) (hK : va_K D cl tys s) (hP : va_P D cl ws H) (hD : va_D A ws) (hS : va_S A H0 H locs) (q0 t0 : Nat) {cA : ClassId} {n : Nat} {f : Nat → Int64} (ha : ws[q0]? = some (a, .inl (cA, n, .inr (.inl f)))) (ht : tys[t0]? = some (cA, .long)) (j : Nat) {i : Int32} {x : Int64} (hi : i = nI j) (hj : j < n) (hn : n < 2 ^ 31) (hdg : decode cc pc = .ok (.lastore, 1))
    (kk : ∀ (H1 : Heap) (locs1 : List Loc), va_P D cl (ws.set q0 (a, .inl (cA, n, .inr (.inl (vp_updL f j x))))) H1 → va_D A (ws.set q0 (a, .inl (cA, n, .inr (.inl (vp_updL f j x))))) → va_S A H0 H1 locs1 → W p l e R s m args below meth c H1 locs1 cells slots Q (F0 m (pc + 1) ls rest)) : W p l e R s m args below meth c H locs cells slots Q (F0 m pc ls (.long x :: .int i :: .ref a :: rest)) := by
  obtain ⟨e1, e2⟩ := q_ix hi hj hn
  refine va_last hexec hb hK hP hD hS q0 t0 ha ht e2 hdg ?_
  rw [e1]; exact kk
end QAR
theorem q_ex {x : Int32} {k n : Nat} (e : x = nI k) (hk : k ≤ n) (hn : n < 2 ^ 31) (c : nI n ≤ x) : k = n := by
  subst e
  have := (nI_leI hn (by omega)).mp c
  omega
theorem q_lt {x : Int32} {k n : Nat} (e : x = nI k) (hk : k ≤ n) (hn : n < 2 ^ 31) (c : ¬ nI n ≤ x) : k < n := by
  subst e
  rcases Nat.lt_or_ge k n with h | h
  · exact h
  · exact absurd (nI_le h (by omega)) c
theorem q_s1 {x : Int32} {k : Nat} (e : x = nI k) : x + 1 = nI (k + 1) := by rw [e]; exact nI_1 k
end
section
/-! Plain facts: what the methods answer, in words of functions over Int32. -/
def z_b (x : Bool) : Int32 := if x then 1 else 0
def z_in (x a b : Int32) : Bool := decide (a ≤ x) && decide (x ≤ b)
def z_n (x : Int32) : Nat := x.toNatClampNeg
theorem z_lt {x y : Int32} : x < y ↔ x.toInt < y.toInt := Int32.lt_iff_toInt_lt
theorem z_le {x y : Int32} : x ≤ y ↔ x.toInt ≤ y.toInt := Int32.le_iff_toInt_le
theorem z_nlt {x y : Int32} : ¬ x < y ↔ y ≤ x := by rw [z_lt, z_le]; omega
theorem z_nle {x y : Int32} : ¬ x ≤ y ↔ y < x := by rw [z_lt, z_le]; omega
theorem z_in_t {x a b : Int32} (h1 : a ≤ x) (h2 : x ≤ b) : z_in x a b = true := by simp [z_in, h1, h2]
theorem z_in_1 {x a b : Int32} (h1 : ¬ a ≤ x) : z_in x a b = false := by simp only [z_in, h1, decide_false, Bool.false_and]
theorem z_in_2 {x a b : Int32} (h1 : ¬ x ≤ b) : z_in x a b = false := by simp only [z_in, h1, decide_false, Bool.and_false]
theorem z_in_iff {x a b : Int32} : z_in x a b = true ↔ a ≤ x ∧ x ≤ b := by simp [z_in]
theorem z_bt {x : Bool} (h : ¬ z_b x = 0) : x = true := by cases x <;> simp_all [z_b]
theorem z_bf {x : Bool} (h : z_b x = 0) : x = false := by cases x <;> simp_all [z_b]
theorem z_b1 : z_b true = 1 := rfl
theorem z_b0 : z_b false = 0 := rfl
theorem z_bnar (x : Bool) : narrow .boolean (.int (z_b x)) = .int (z_b x) := by cases x <;> rfl
theorem z_nI {n : Nat} (h : n < 2 ^ 31) : z_n (nI n) = n := nI_clamp h
theorem z_of {x b : Int32} (h : z_in x 0 b = true) : x = nI (z_n x) ∧ (z_n x : Int) ≤ b.toInt ∧ (z_n x : Int) = x.toInt := by
  obtain ⟨h1, h2⟩ := z_in_iff.mp h
  have h0 : ¬ x < 0 := z_nlt.mpr h1
  obtain ⟨j, hj, rfl⟩ := nI_of h0
  rw [z_nI hj]
  rw [z_le, nI_toInt hj] at h2
  exact ⟨rfl, h2, (nI_toInt hj).symm⟩
theorem z_P {x : Int32} (h : z_in x 0 4 = true) : x = nI (z_n x) ∧ z_n x < 5 := by
  obtain ⟨h1, h2, -⟩ := z_of h
  have h3 : (4 : Int32).toInt = 4 := by decide
  rw [h3] at h2
  exact ⟨h1, by omega⟩
theorem z_Y {x : Int32} (h : z_in x 0 7 = true) : x = nI (z_n x) ∧ z_n x < 8 := by
  obtain ⟨h1, h2, -⟩ := z_of h
  have h3 : (7 : Int32).toInt = 7 := by decide
  rw [h3] at h2
  exact ⟨h1, by omega⟩
theorem z_H {x : Int32} (h : z_in x 0 11 = true) : x = nI (z_n x) ∧ z_n x < 12 := by
  obtain ⟨h1, h2, -⟩ := z_of h
  have h3 : (11 : Int32).toInt = 11 := by decide
  rw [h3] at h2
  exact ⟨h1, by omega⟩
theorem z_up {x a b : Int32} (c : Int32) (hb : b.toInt + 1 = c.toInt) : z_in x a b = true ↔ a ≤ x ∧ x < c := by
  rw [z_in_iff, z_le, z_le, z_lt]; omega
/-- cells -/
theorem z_yc {p y : Int32} {i j : Nat} (hp : p = nI i) (hy : y = nI j) : p * 8 + y = nI (i * 8 + j) := by
  subst hp; subst hy
  rw [show (8 : Int32) = nI 8 from rfl, pk_mul, nI_add]
theorem z_hc {p y h : Int32} {i j k : Nat} (hp : p = nI i) (hy : y = nI j) (hh : h = nI k) : (p * 8 + y) * 12 + h = nI ((i * 8 + j) * 12 + k) := by
  rw [z_yc hp hy]; subst hh
  rw [show (12 : Int32) = nI 12 from rfl, pk_mul, nI_add]
theorem z_yh {y h : Int32} {j k : Nat} (hy : y = nI j) (hh : h = nI k) : y * 12 + h = nI (j * 12 + k) := by
  subst hy; subst hh
  rw [show (12 : Int32) = nI 12 from rfl, pk_mul, nI_add]
/-- the value of a unit, the sum of the first n values, the worth of an amount -/
def z_v (lo up tp u : Int32) : Int32 := if u ≤ lo then tp else if u ≤ up then tp * (up - u) / (up - lo) else 0
def z_w (lo up tp : Int32) : Nat → Int32
  | 0 => 0
  | n + 1 => z_w lo up tp n + z_v lo up tp (nI (n + 1))
theorem z_ne {lo up u : Int32} (h1 : ¬ u ≤ lo) (h2 : u ≤ up) : ¬ up - lo = 0 := by
  intro h
  have h3 : up = lo := by
    have h4 : up - lo + lo = 0 + lo := by rw [h]
    rw [Int32.sub_add_cancel, Int32.zero_add] at h4
    exact h4
  exact h1 (h3 ▸ h2)
/-- the worths' row behind the units up to k -/
def z_wa (lo up tp : Int32) (f : Nat → Int32) (k : Nat) : Nat → Int32 := fun j => if j = 0 ∨ k < j then f j else z_w lo up tp j
theorem z_wa0 {lo up tp : Int32} {f : Nat → Int32} : z_wa lo up tp f 0 = f := by
  funext j
  unfold z_wa
  rw [if_pos (by omega)]
theorem z_was {lo up tp : Int32} {f : Nat → Int32} {k : Nat} (hf : f 0 = 0) : upd (z_wa lo up tp f k) (k + 1) (z_wa lo up tp f k k + z_v lo up tp (nI (k + 1))) = z_wa lo up tp f (k + 1) := by
  have h0 : z_wa lo up tp f k k = z_w lo up tp k := by
    unfold z_wa
    by_cases hk : k = 0
    · subst hk; simp [hf, z_w]
    · rw [if_neg (by omega)]
  funext j
  unfold upd
  by_cases hj : j = k + 1
  · subst hj
    rw [if_pos rfl, h0]
    unfold z_wa
    rw [if_neg (by omega)]; rfl
  · rw [if_neg hj]
    unfold z_wa
    by_cases h1 : j = 0 ∨ k < j
    · rw [if_pos h1, if_pos (by omega)]
    · rw [if_neg h1, if_neg (by omega)]
theorem z_wae {lo up tp : Int32} {f : Nat → Int32} (hf : f 0 = 0) (j : Nat) (hj : j ≤ 1001) : z_wa lo up tp f 1001 j = z_w lo up tp j := by
  unfold z_wa
  by_cases h : j = 0
  · subst h; rw [if_pos (Or.inl rfl), hf]; rfl
  · rw [if_neg (by omega)]
/-- an index into the worths -/
def z_wi (a : Int32) : Nat := min (z_n a) 1001
theorem z_wix (a : Int32) : (if 0 < (if 1001 < a then 1001 else a) then (if 1001 < a then 1001 else a) else 0 : Int32) = nI (z_wi a) := by
  have h3 : (1001 : Int32).toInt = 1001 := by decide
  have h4 : (0 : Int32).toInt = 0 := by decide
  by_cases h1 : (1001 : Int32) < a
  · rw [if_pos h1, if_pos (by decide)]
    rw [z_lt, h3] at h1
    obtain ⟨j, hj, rfl⟩ := nI_of (x := a) (by rw [z_lt, h4]; omega)
    rw [nI_toInt hj] at h1
    unfold z_wi
    rw [z_nI hj, Nat.min_eq_right (by omega)]; rfl
  · rw [if_neg h1]
    by_cases h2 : (0 : Int32) < a
    · rw [if_pos h2]
      obtain ⟨j, hj, rfl⟩ := nI_of (x := a) (by rw [z_lt, h4] at *; omega)
      rw [z_lt, h3, nI_toInt hj] at h1
      unfold z_wi
      rw [z_nI hj, Nat.min_eq_left (by omega)]
    · rw [if_neg h2]
      have h5 : z_n a = 0 := by
        unfold z_n
        rw [z_lt, h4] at h2
        unfold Int32.toNatClampNeg
        omega
      unfold z_wi
      rw [h5]; rfl
theorem z_wil (a : Int32) : z_wi a < 1002 := by unfold z_wi; omega
/-- supply -/
def z_su (A E : Nat → Int32) (pr : Int32) : Nat → Int32
  | 0 => 0
  | k + 1 => z_su A E pr k + (if E k ≤ pr then A k else 0)
/-- the first k in the order o: their amounts, their costs, the welfare; the best k and its welfare -/
def z_am (b : Int32) (A : Nat → Int32) (o : Nat → Nat) : Nat → Int32
  | 0 => b
  | k + 1 => z_am b A o k + A (o k)
def z_co (A E : Nat → Int32) (o : Nat → Nat) : Nat → Int32
  | 0 => 0
  | k + 1 => z_co A E o k + A (o k) * E (o k)
def z_wf (Wf : Nat → Int32) (b : Int32) (A E : Nat → Int32) (o : Nat → Nat) (k : Nat) : Int32 := Wf (z_wi (z_am b A o k)) - z_co A E o k
def z_ag (wf : Nat → Int32) : Nat → Nat × Int32
  | 0 => (0, wf 0)
  | k + 1 => if (z_ag wf k).2 < wf (k + 1) then (k + 1, wf (k + 1)) else z_ag wf k
/-- the rank of an offer among the first n -/
def z_before (E : Nat → Int32) (i j : Nat) : Bool := decide (E i < E j) || (decide (E i = E j) && decide (i < j))
def z_rk (E : Nat → Int32) (w : Nat) : Nat → Nat
  | 0 => 0
  | k + 1 => z_rk E w k + (if z_before E k w then 1 else 0)
theorem z_rkle (E : Nat → Int32) (w n : Nat) : z_rk E w n ≤ n := by
  induction n with
  | zero => exact Nat.le_refl _
  | succ n ih => unfold z_rk; split <;> omega
/-- sums over the offers in their own order, of those whose rank is less than c -/
def z_us (b : Int32) (f : Nat → Int32) (r : Nat → Nat) (c : Nat) : Nat → Int32
  | 0 => b
  | k + 1 => z_us b f r c k + (if r k < c then f k else 0)
/-- the greatest exit price of those whose rank is less than c -/
def z_pr (E : Nat → Int32) (r : Nat → Nat) (c : Nat) : Nat → Int32
  | 0 => 0
  | k + 1 => if r k < c ∧ z_pr E r c k < E k then E k else z_pr E r c k
/-- a stretch of a row raised by a -/
def z_ad (f : Nat → Int32) (lo hi : Nat) (a : Int32) : Nat → Int32 := fun c => if lo ≤ c ∧ c < hi then f c + a else f c
theorem z_ad0 {f : Nat → Int32} {lo : Nat} {a : Int32} : z_ad f lo lo a = f := by
  funext c; unfold z_ad; rw [if_neg (by omega)]
theorem z_ads {f : Nat → Int32} {lo hi : Nat} {a : Int32} (h : lo ≤ hi) : upd (z_ad f lo hi a) hi (z_ad f lo hi a hi + a) = z_ad f lo (hi + 1) a := by
  funext c
  unfold upd z_ad
  by_cases hc : c = hi
  · subst hc
    rw [if_pos rfl, if_neg (by omega), if_pos (by omega)]
  · rw [if_neg hc]
    by_cases h1 : lo ≤ c ∧ c < hi
    · rw [if_pos h1, if_pos (by omega)]
    · rw [if_neg h1, if_neg (by omega)]
/-- a trade: n hours from the places p and q on -/
def z_td (f : Nat → Int32) (p q : Nat) (a : Int32) : Nat → (Nat → Int32)
  | 0 => f
  | n + 1 => upd (upd (z_td f p q a n) (p + n) (z_td f p q a n (p + n) - a)) (q + n) (upd (z_td f p q a n) (p + n) (z_td f p q a n (p + n) - a) (q + n) + a)
/-- the least of n + 1 cells from p on -/
def z_ls (f : Nat → Int32) (p : Nat) : Nat → Int32
  | 0 => f p
  | n + 1 => if f (p + (n + 1)) < z_ls f p n then f (p + (n + 1)) else z_ls f p n
/-- the lack over the first h hours of a year -/
def z_lk (Ob Ou St : Nat → Int32) (p y : Nat) : Nat → Int32
  | 0 => 0
  | h + 1 => z_lk Ob Ou St p y h + (if St (y * 12 + h) = 0 then 0 else Ob ((p * 8 + y) * 12 + h) - Ou ((p * 8 + y) * 12 + h))
/-- what the class answers as a penalty, and what the reference does -/
def z_pd (lk rate : Int32) : Int64 := lk.toInt64 * rate.toInt64
def z_pm (inc cap : Int32) : Int64 := inc.toInt64 * cap.toInt64 / 100
def z_pc (lk rate inc cap : Int32) : Int32 := (if (if z_pm inc cap < z_pd lk rate then z_pm inc cap else z_pd lk rate) < 0 then 0 else (if z_pm inc cap < z_pd lk rate then z_pm inc cap else z_pd lk rate) : Int64).toInt32
def z_pp (lk rate inc cap : Int32) : Int64 := if z_pd lk rate < 0 then 0 else if z_pd lk rate < z_pm inc cap then z_pd lk rate else z_pm inc cap
/-- the dearest of those that are in -/
def z_de (Z E : Nat → Int32) : Nat → Int32
  | 0 => -1
  | k + 1 => if Z k = 0 then z_de Z E k else if z_de Z E k = -1 then nI k else if E (z_n (z_de Z E k)) ≤ E k then nI k else z_de Z E k
/-- the codes of a throw -/
def z_cd (a b c : Bool) : Int32 := if !a then 1 else if !b then 2 else if !c then 3 else 0
theorem z_agn {wf : Nat → Int32} {k : Nat} (h : ¬ (z_ag wf k).2 < wf (k + 1)) : z_ag wf (k + 1) = z_ag wf k := by
  rw [z_ag, if_neg h]
theorem z_agy {wf : Nat → Int32} {k : Nat} (h : (z_ag wf k).2 < wf (k + 1)) : z_ag wf (k + 1) = (k + 1, wf (k + 1)) := by
  rw [z_ag, if_pos h]
theorem q_cgt {x y : Int32} {k n : Nat} (ey : y = nI n) (e : x = nI k) (hk : k < 2 ^ 31) (hn : n < 2 ^ 31) : y < x ↔ n < k := by subst e; subst ey; exact nI_ltI hn hk
theorem q_cge {x y : Int32} {k n : Nat} (ey : y = nI n) (e : x = nI k) (hk : k < 2 ^ 31) (hn : n < 2 ^ 31) : y ≤ x ↔ n ≤ k := by subst e; subst ey; exact nI_leI hn hk
theorem q_ceq {x y : Int32} {k n : Nat} (ey : y = nI n) (e : x = nI k) (hk : k < 2 ^ 31) (hn : n < 2 ^ 31) : y = x ↔ n = k := by subst e; subst ey; exact nI_eq hn hk
/-- the order behind k shifts, the place of a new one, the new order -/
def z_sh (f : Nat → Int32) (n k : Nat) : Nat → Int32 := fun c => if n - k < c ∧ c ≤ n then f (c - 1) else f c
theorem z_sh0 {f : Nat → Int32} {n : Nat} : z_sh f n 0 = f := by funext c; unfold z_sh; rw [if_neg (by omega)]
theorem z_shl {f : Nat → Int32} {n k c : Nat} (h : c ≤ n - k) : z_sh f n k c = f c := by unfold z_sh; rw [if_neg (by omega)]
theorem z_shs {f : Nat → Int32} {n k t : Nat} {v : Int32} (h : n - k = t + 1) (hv : f t = v) : upd (z_sh f n k) (t + 1) v = z_sh f n (k + 1) := by
  funext c
  unfold upd z_sh
  by_cases hc : c = t + 1
  · subst hc; rw [if_pos rfl, if_pos (by omega)]; exact hv.symm
  · rw [if_neg hc]
    by_cases h1 : n - k < c ∧ c ≤ n
    · rw [if_pos h1, if_pos (by omega)]
    · rw [if_neg h1, if_neg (by omega)]
def z_pl (E : Nat → Int32) (ex : Int32) (o : Nat → Nat) : Nat → Nat
  | 0 => 0
  | t + 1 => if ex < E (o t) then z_pl E ex o t else t + 1
def z_ord (f : Nat → Int32) (n t : Nat) : Nat → Int32 := upd (z_sh f n (n - t)) t (nI n)
/-- the price of the first t -/
def z_po (E : Nat → Int32) (o : Nat → Nat) : Nat → Int32
  | 0 => 0
  | t + 1 => E (o t)
/-- is w among the first t -/
def z_mem (o : Nat → Nat) (w : Nat) : Nat → Bool
  | 0 => false
  | t + 1 => z_mem o w t || decide (o t = w)
theorem z_memt {o : Nat → Nat} {w k t : Nat} (h : k < t) (e : o k = w) : z_mem o w t = true := by
  induction t with
  | zero => omega
  | succ t ih =>
    unfold z_mem
    rcases Nat.lt_or_ge k t with q | q
    · rw [ih q]; rfl
    · have : k = t := by omega
      subst this
      rw [decide_eq_true e, Bool.or_true]
theorem z_mems {o : Nat → Nat} {w k : Nat} (h : z_mem o w k = false) (e : ¬ o k = w) : z_mem o w (k + 1) = false := by
  unfold z_mem; rw [h, decide_eq_false e]; rfl
theorem z_nm1 {k : Nat} (h : k < 2 ^ 31) : ¬ nI k = -1 := by
  intro q
  have h2 : (nI k).toInt = (-1 : Int32).toInt := by rw [q]
  rw [nI_toInt h, show (-1 : Int32).toInt = -1 by decide] at h2
  omega
theorem z_dein (Z E : Nat → Int32) (k : Nat) (hk : k < 2 ^ 31) : z_de Z E k = -1 ∨ (z_de Z E k = nI (z_n (z_de Z E k)) ∧ z_n (z_de Z E k) < k) := by
  induction k with
  | zero => exact Or.inl rfl
  | succ k ih =>
    have hn : z_n (nI k) = k := z_nI (by omega)
    have h2 : nI k = -1 ∨ (nI k = nI (z_n (nI k)) ∧ z_n (nI k) < k + 1) := Or.inr ⟨by rw [hn], by omega⟩
    have h3 : z_de Z E k = -1 ∨ (z_de Z E k = nI (z_n (z_de Z E k)) ∧ z_n (z_de Z E k) < k + 1) := (ih (by omega)).imp id (fun q => ⟨q.1, by omega⟩)
    unfold z_de
    by_cases c1 : Z k = 0
    · rw [if_pos c1]; exact h3
    · rw [if_neg c1]
      by_cases c2 : z_de Z E k = -1
      · rw [if_pos c2]; exact h2
      · rw [if_neg c2]
        by_cases c3 : E (z_n (z_de Z E k)) ≤ E k
        · rw [if_pos c3]; exact h2
        · rw [if_neg c3]; exact h3
theorem z_de1 {Z E : Nat → Int32} {k : Nat} (c1 : Z k = 0) : z_de Z E (k + 1) = z_de Z E k := by rw [z_de, if_pos c1]
theorem z_de2 {Z E : Nat → Int32} {k : Nat} (c1 : ¬ Z k = 0) (c2 : z_de Z E k = -1) : z_de Z E (k + 1) = nI k := by rw [z_de, if_neg c1, if_pos c2]
theorem z_de3 {Z E : Nat → Int32} {k : Nat} (c1 : ¬ Z k = 0) (c2 : ¬ z_de Z E k = -1) (c3 : E (z_n (z_de Z E k)) ≤ E k) : z_de Z E (k + 1) = nI k := by rw [z_de, if_neg c1, if_neg c2, if_pos c3]
theorem z_de4 {Z E : Nat → Int32} {k : Nat} (c1 : ¬ Z k = 0) (c2 : ¬ z_de Z E k = -1) (c3 : ¬ E (z_n (z_de Z E k)) ≤ E k) : z_de Z E (k + 1) = z_de Z E k := by rw [z_de, if_neg c1, if_neg c2, if_neg c3]
/-- the exit price of a leaver -/
def z_xo (E : Nat → Int32) (w : Int32) : Int32 := if w = -1 then 0 else E (z_n w)
/-- the clock: the offers that are in, amount, cost, best welfare, price, behind i leavings -/
def z_one (f : Nat → Int32) (k : Nat) : Nat → Int32 := fun j => if j < k then 1 else f j
theorem z_one0 {f : Nat → Int32} : z_one f 0 = f := by funext j; unfold z_one; rw [if_neg (by omega)]
theorem z_ones {f : Nat → Int32} {k : Nat} : upd (z_one f k) k 1 = z_one f (k + 1) := by
  funext j
  unfold upd z_one
  by_cases h : j = k
  · subst h; rw [if_pos rfl, if_pos (by omega)]
  · rw [if_neg h]
    by_cases h1 : j < k
    · rw [if_pos h1, if_pos (by omega)]
    · rw [if_neg h1, if_neg (by omega)]
def z_kI (f E : Nat → Int32) (n : Nat) : Nat → (Nat → Int32)
  | 0 => z_one f n
  | i + 1 => upd (z_kI f E n i) (z_n (z_de (z_kI f E n i) E n)) 0
def z_kl (f E : Nat → Int32) (n i : Nat) : Int32 := z_de (z_kI f E n i) E n
def z_ka (f E : Nat → Int32) (n : Nat) (b : Int32) (A : Nat → Int32) : Nat → Int32
  | 0 => z_am b A (fun j => j) n
  | i + 1 => z_ka f E n b A i - A (z_n (z_kl f E n i))
def z_kc (f E : Nat → Int32) (n : Nat) (A : Nat → Int32) : Nat → Int32
  | 0 => z_co A E (fun j => j) n
  | i + 1 => z_kc f E n A i - A (z_n (z_kl f E n i)) * E (z_n (z_kl f E n i))
def z_kw (f E : Nat → Int32) (n : Nat) (Wf : Nat → Int32) (b : Int32) (A : Nat → Int32) (i : Nat) : Int32 := Wf (z_wi (z_ka f E n b A i)) - z_kc f E n A i
def z_kb (f E : Nat → Int32) (n : Nat) (w : Nat → Int32) : Nat → Int32 × Int32
  | 0 => (w 0, z_xo E (z_kl f E n 0))
  | i + 1 => if w (i + 1) < (z_kb f E n w i).1 then z_kb f E n w i else (w (i + 1), z_xo E (z_kl f E n (i + 1)))
theorem z_kby {f E : Nat → Int32} {n : Nat} {w : Nat → Int32} {i : Nat} (h : w (i + 1) < (z_kb f E n w i).1) : z_kb f E n w (i + 1) = z_kb f E n w i := by rw [z_kb, if_pos h]
theorem z_kbn {f E : Nat → Int32} {n : Nat} {w : Nat → Int32} {i : Nat} (h : ¬ w (i + 1) < (z_kb f E n w i).1) : z_kb f E n w (i + 1) = (w (i + 1), z_xo E (z_kl f E n (i + 1))) := by rw [z_kb, if_neg h]
theorem z_klin (f E : Nat → Int32) (n i : Nat) (hn : n < 2 ^ 31) : z_kl f E n i = -1 ∨ (z_kl f E n i = nI (z_n (z_kl f E n i)) ∧ z_n (z_kl f E n i) < n) := z_dein _ _ n hn
theorem z_mn {a : Int32} {y T : Nat} (h : a = nI y) (hy : y < 8) (hT : T ≤ 4) : (if 8 < a + nI T then 8 else a + nI T : Int32) = nI (min (y + T) 8) := by
  subst h
  rw [nI_add]
  by_cases c : (8 : Int32) < nI (y + T)
  · have h9 := (q_cgt (y := 8) (n := 8) rfl rfl (by omega) (by omega)).mp c
    rw [if_pos c, Nat.min_eq_right (by omega)]; rfl
  · have h9 := (not_congr (q_cgt (y := 8) (n := 8) rfl rfl (by omega) (by omega))).mp c
    rw [if_neg c, Nat.min_eq_left (by omega)]
theorem z_agle (wf : Nat → Int32) (n : Nat) : (z_ag wf n).1 ≤ n := by
  induction n with
  | zero => exact Nat.le_refl _
  | succ n ih =>
    unfold z_ag
    split
    · exact Nat.le_refl _
    · omega
theorem z_bvn (x : Bool) : vp_nar .boolean (z_b x) = z_b x := by cases x <;> rfl
/-- what the first k of the order bring, from the year y on -/
def z_e (T : Nat → Int32) (y j : Nat) : Nat := min (y + z_n (T j)) 8
def z_rB (B A T : Nat → Int32) (o : Nat → Nat) (y : Nat) : Nat → (Nat → Int32)
  | 0 => B
  | k + 1 => z_ad (z_rB B A T o y k) y (z_e T y (o k)) (A (o k))
def z_rN (N A P T : Nat → Int32) (o : Nat → Nat) (y : Nat) (pr : Int32) : Nat → (Nat → Int32)
  | 0 => N
  | k + 1 => z_ad (z_rN N A P T o y pr k) (z_n (P (o k)) * 8 + y) (z_n (P (o k)) * 8 + z_e T y (o k)) (A (o k) * pr)
def z_rY (Y A P T : Nat → Int32) (o : Nat → Nat) (y : Nat) : Nat → (Nat → Int32)
  | 0 => Y
  | k + 1 => z_ad (z_rY Y A P T o y k) ((z_n (P (o k)) * 8 + y) * 12) ((z_n (P (o k)) * 8 + z_e T y (o k)) * 12) (A (o k))
/-- the class's penalties: over years of a party, over parties -/
def z_py (Y U S N : Nat → Int32) (ra ca : Int32) (p : Nat) (b : Int64) : Nat → Int64
  | 0 => b
  | y + 1 => z_py Y U S N ra ca p b y + (z_pc (z_lk Y U S p y 12) ra (N (p * 8 + y)) ca).toInt64
def z_ps (Y U S N : Nat → Int32) (ra ca : Int32) : Nat → Int64
  | 0 => 0
  | p + 1 => z_py Y U S N ra ca p (z_ps Y U S N ra ca p) 8
theorem z_lti {k : Nat} {x : Int32} (b : Nat) (hb : b < 2 ^ 31) (e : x = nI k) (hk : k < 2 ^ 31) (c : ¬ nI b ≤ x) : k < b := by
  have := (not_congr (q_cge (y := nI b) (n := b) rfl e hk hb)).mp c
  omega
theorem z_has {w : Int32} {n : Nat} (hn : n ≤ 12) (h : (decide (0 ≤ w) && decide (w < nI n)) = true) : w = nI (z_n w) ∧ z_n w < n := by
  simp only [Bool.and_eq_true, decide_eq_true_eq] at h
  obtain ⟨j, hj, rfl⟩ := nI_of (x := w) (z_nlt.mpr h.1)
  have h2 := (nI_ltI hj (by omega)).mp h.2
  rw [z_nI hj]
  exact ⟨rfl, h2⟩
end
section
/-! What a class method needs to throw; how it throws before it writes. -/
abbrev q_IA : String := "java/lang/IllegalArgumentException"
abbrev q_IO : String := "java/lang/IndexOutOfBoundsException"
abbrev q_IS : String := "java/lang/IllegalStateException"
abbrev q_NS : List String := ["java/lang/RuntimeException", "java/lang/Exception"]
def q_xw : List Cond := (vx_atS RX2 58 q_IA q_NS ++ (vx_atS RX2 84 q_IO q_NS ++ vx_atS RX2 95 q_IS q_NS)).filter (fun w => !goodWord w)
def q_strs : List (Nat × String) := [(56, "lower, upper or top is out of range"), (65, "unit is out of range"), (71, "amount is out of range"), (82, "no such party"), (85, "capacity, derating, exit or term is out of range"), (93, "no room for another offer"), (103, "price is out of range"), (111, "no such year"), (126, "no such offer or year"), (132, "no offers wait"), (143, "no such party or year"), (152, "no such party, year or hour"), (158, "the same party, no hours, or amount is out of range"), (163, "the obligation is less than the amount"), (165, "no such year or hour"), (167, "output is out of range"), (169, "rate or cap is out of range")]
def q_XK (U : State) : Prop := (∀ w ∈ q_xw, w.before #[] U = true) ∧ vx_Zq Bundle.tN "UNASSIGNED_STACK" Bundle.steD (fun _ => False) U U.heap ∧ vx_Zq Bundle.tN "SUPPRESSED_SENTINEL" Bundle.listD (fun _ => False) U U.heap ∧ ∀ q ∈ q_strs, ∃ a : Nat, vk_R RX2 q.1 q.2 a U
def q_MX (D : va_G) (cl : List vw_C) (tys : List (ClassId × FieldType)) (ws : va_W) : State → Prop := fun U => q_M D cl tys ws U ∧ q_XK U
theorem q_xwot : ∀ w ∈ q_xw, vx_ot w = true := by decide +kernel
theorem q_XK.go {u U : State} (hW : u.WarmedH U.vm) (hvm : u.vm = U.vm) (hh : U.heap = u.heap) (h : q_XK u) : q_XK U := by
  obtain ⟨h1, h2, h3, h4⟩ := h
  refine ⟨fun w hw => vx_ot_at hW hvm (q_xwot w hw) (h1 w hw), ?_, ?_, fun q hq => ?_⟩
  · rw [hh]; exact vx_Zq.moved hW.alike h2
  · rw [hh]; exact vx_Zq.moved hW.alike h3
  · obtain ⟨a, ha⟩ := h4 q hq
    exact ⟨a, vk_R.same hvm.symm ha⟩
theorem q_MXb {D : va_G} {cl : List vw_C} {tys : List (ClassId × FieldType)} {ws : va_W} {av : List Value} : FrameBlind (va_Pc av (q_MX D cl tys ws)) := fun a U g mk q => ⟨q.1, ⟨q.2.1.1, va_K.moved (u := U) (U := U.calling g mk a) (Vm.Alike.refl U.vm) q.2.1.2.1, q.2.1.2.2⟩, q_XK.go (u := U) (U := U.calling g mk a) (State.WarmedH.refl U) rfl rfl q.2.2⟩
abbrev q_ec (xs : List String) (cd : Int32) : String → Prop := fun E => ∃ i : Nat, xs[i]? = some E ∧ cd = nI (i + 1)
theorem z_cd1 {a b c : Bool} (h : a = false) : z_cd a b c = nI 1 := by subst h; rfl
theorem z_cd2 {a b c : Bool} (h : a = true) (h2 : b = false) : z_cd a b c = nI 2 := by subst h; subst h2; rfl
theorem z_cd3 {a b c : Bool} (h : a = true) (h2 : b = true) (h3 : c = false) : z_cd a b c = nI 3 := by subst h; subst h2; subst h3; rfl
theorem z_cd0 {a b c : Bool} (h : a = true) (h2 : b = true) (h3 : c = true) : z_cd a b c = 0 := by subst h; subst h2; subst h3; rfl
section QTH
variable {p : Program} {l : Launch} {e : Env} {R : Room} {s : State} {m : MethodId} {args : Array Value} {below : List Frame} {meth : Method} {c : Code}
theorem q_thr {cc : ByteArray} {pc : Nat} (hexec : p.tables.exec = Jvm.exec) (hb : c.code = cc) (hl : l.stackTraces = false) {cls : String} {ik is ic nL : Nat} {q : Nat × String} {A : Nat → Prop} {ls : Array Slot} {rest : List Value} {Qc : Array Value → State → Outcome → State → Prop} {px : String → Prop} {free : Addr → Prop}
    (hown : s.vm.findClass RX2 = some m.cls) (hcls : Bundle.fit cls = true) (hk : (Cond.classLink RX2 ik cls).before args s = true) (hini : (Cond.initialized cls).before args s = true) (hXK : q_XK s) (hq : q ∈ q_strs) (hqi : q.1 = is)
    (hat1 : ∀ w ∈ (vx_atS RX2 ic cls q_NS).filter goodWord, w.before args s = true) (hat2 : ∀ w ∈ (vx_atS RX2 ic cls q_NS).filter (fun w => !goodWord w), w ∈ q_xw)
    (hgood : ∀ w ∈ Cond.classLink RX2 ik cls :: Cond.initialized cls :: vx_atS RX2 ic cls q_NS, vx_ot w = true)
    (hsize : ls.size = nL) (hml : c.maxLocals = nL) (htab : ∀ x ∈ c.exceptionTable.toList, False) (hlocks : meth.locks = false)
    (d0 : decode cc pc = .ok (.new ik, 3)) (d3 : decode cc (pc + 3) = .ok (.dup, 1)) (d4 : decode cc (pc + 4) = .ok (.ldc is, 2)) (d6 : decode cc (pc + 6) = .ok (.invokespecial ic, 3)) (d9 : decode cc (pc + 9) = .ok (.athrow, 1))
    (hRf : 5 < R.frames) (hRl : (rest.map fun v => v.category).sum + 82 ≤ R.locals) (hRc : 1 ≤ R.cells) (hRs : 6 ≤ R.slots) (hpx : px cls) :
    W p l e R s m args below meth c s.heap [] 0 0 (vx_MQ below Qc (q_X px) args s 1 6 free) (F0 m pc ls rest) := by
  obtain ⟨h1, h2, h3, h4⟩ := hXK
  obtain ⟨sa, hsa⟩ := h4 q hq
  rw [hqi] at hsa
  refine vx_throwS (A := fun _ => False) (own := RX2) (cls := cls) (text := q.2) (names := q_NS) (ik := ik) (is := is) (ic := ic) (sa := sa) hexec hb hl hown hcls (by decide +kernel) hk hini hsa ?_ hgood h2 h3 va_S.rf (hsize.trans hml.symm) d0 d3 d4 d6 d9 (fun x hx => (htab x hx).elim) hRf ?_ (by omega) (by omega) hlocks ?_ (fun z hz => nomatch hz) (by omega) (by omega)
  · exact vx_hat hat1 hat2 (fun w hw => vx_ot_at (State.WarmedH.refl s) rfl (q_xwot w hw) (h1 w hw))
  · show _ + (13 * (2 + 1) + 43) ≤ _
    omega
  · intro t ht hz hk9
    exact ⟨hpx, hz, fun q hq _ => hk9 q hq⟩
theorem q_inIA : ∀ w ∈ (vx_atS RX2 58 q_IA q_NS).filter (fun w => !goodWord w), w ∈ q_xw := by decide +kernel
theorem q_inIO : ∀ w ∈ (vx_atS RX2 84 q_IO q_NS).filter (fun w => !goodWord w), w ∈ q_xw := by decide +kernel
theorem q_inIS : ∀ w ∈ (vx_atS RX2 95 q_IS q_NS).filter (fun w => !goodWord w), w ∈ q_xw := by decide +kernel
theorem q_gdIA : ∀ w ∈ Cond.classLink RX2 54 q_IA :: Cond.initialized q_IA :: vx_atS RX2 58 q_IA q_NS, vx_ot w = true := by decide +kernel
theorem q_gdIO : ∀ w ∈ Cond.classLink RX2 80 q_IO :: Cond.initialized q_IO :: vx_atS RX2 84 q_IO q_NS, vx_ot w = true := by decide +kernel
theorem q_gdIS : ∀ w ∈ Cond.classLink RX2 91 q_IS :: Cond.initialized q_IS :: vx_atS RX2 95 q_IS q_NS, vx_ot w = true := by decide +kernel
end QTH
end
section
set_option maxHeartbeats 4000000 in
set_option maxRecDepth 100000 in
/-- X2_isWithin: whether x is from a to b -/
theorem c_X2_isWithin (l : Launch) (dC : Nat → ClassId) (dI : Nat → Nat → Nat) (cI cZ cJ : ClassId) (x a b : Int32)  : Met l yX2_isWithin wsX2_isWithin ({ frames := 0, cells := 0, slots := 0, locals := 0 }) (va_Pc [.int x, .int a, .int b] (q_R (dC, dI) vwCl (q_T cI cZ cJ) [])) (QcRead (z_b (z_in x a b))) 0 0 (fun _ => False) := by
  refine Met.ofW (cc := cX2_isWithin) (maxL := 3) (ret := (some .boolean)) (by decide) rfl ?_
  intro p e s m args below meth c s₁ B hml hv
  obtain ⟨rfl, hP, hK⟩ := hv
  have hx := B.exec
  have hb := B.bytes
  have hr := B.returns
  have hts := atoms_spec (ws := wsX2_isWithin) B.pre
  have hown : s.vm.findClass RX2 = some m.cls := findClass_of_methodNamed B.named
  have hlocks := B.notSynchronized
  have hP : va_P (dC, dI) vwCl [] s.heap := hP
  have hl := lv_entry ([.int x, .int a, .int b]) (n := 3) (Nat.le_of_ble_eq_true rfl)
  rw [lg_entry_eq]
  generalize (lg_sl ([.int x, .int a, .int b]) ++ List.replicate (3 - (lg_sl ([.int x, .int a, .int b])).length) Slot.unset).toArray = ls at hl ⊢
  have hl : lv_has ls 3 [(0, .int x), (1, .int a), (2, .int b)] := hl
  refine lv_iload_n hx hb dX2_isWithin_0 rfl (lv_at hl 0 rfl) ?_
  refine lv_iload_n hx hb dX2_isWithin_1 rfl (lv_at hl 1 rfl) ?_
  refine lv_icmp_lt (tgt := 14) hx hb dX2_isWithin_2 (by decide) (fun c_2 => ?_) (fun c_2 => ?_)
  · have hz : z_in x a b = false := z_in_1 (z_nle.mpr c_2)
    refine lv_iconst (v := 0) hx hb dX2_isWithin_14 (by decide) ?_
    exact W.zret (v := 0) (ty := .boolean) hx hb hr (rfl) (fun tS htS hWS => ⟨congrArg (fun z => Outcome.returned (some (Value.int z))) (by rw [hz]; rfl : 0 = z_b (z_in x a b)), htS⟩) (fun _ h => nomatch h) dX2_isWithin_15
  · have h2 : a ≤ x := z_nlt.mp c_2
    refine lv_iload_n hx hb dX2_isWithin_5 rfl (lv_at hl 0 rfl) ?_
    refine lv_iload_n hx hb dX2_isWithin_6 rfl (lv_at hl 2 rfl) ?_
    refine lv_icmp_gt (tgt := 14) hx hb dX2_isWithin_7 (by decide) (fun c_7 => ?_) (fun c_7 => ?_)
    · have hz : z_in x a b = false := z_in_2 (z_nle.mpr c_7)
      refine lv_iconst (v := 0) hx hb dX2_isWithin_14 (by decide) ?_
      exact W.zret (v := 0) (ty := .boolean) hx hb hr (rfl) (fun tS htS hWS => ⟨congrArg (fun z => Outcome.returned (some (Value.int z))) (by rw [hz]; rfl : 0 = z_b (z_in x a b)), htS⟩) (fun _ h => nomatch h) dX2_isWithin_15
    · have hz : z_in x a b = true := z_in_t h2 (z_nlt.mp c_7)
      refine lv_iconst (v := 1) hx hb dX2_isWithin_10 (by decide) ?_
      refine lv_goto (tgt := 15) hx hb dX2_isWithin_11 (by decide) ?_
      exact W.zret (v := 1) (ty := .boolean) hx hb hr (rfl) (fun tS htS hWS => ⟨congrArg (fun z => Outcome.returned (some (Value.int z))) (by rw [hz]; rfl : 1 = z_b (z_in x a b)), htS⟩) (fun _ h => nomatch h) dX2_isWithin_15
set_option maxHeartbeats 4000000 in
set_option maxRecDepth 100000 in
/-- X3_isWithin: whether x is from a to b -/
theorem c_X3_isWithin (l : Launch) (dC : Nat → ClassId) (dI : Nat → Nat → Nat) (cI cZ cJ : ClassId) (x a b : Int32)  : Met l yX3_isWithin wsX3_isWithin ({ frames := 0, cells := 0, slots := 0, locals := 0 }) (va_Pc [.int x, .int a, .int b] (q_R (dC, dI) vwCl (q_T cI cZ cJ) [])) (QcRead (z_b (z_in x a b))) 0 0 (fun _ => False) := by
  refine Met.ofW (cc := cX3_isWithin) (maxL := 3) (ret := (some .boolean)) (by decide) rfl ?_
  intro p e s m args below meth c s₁ B hml hv
  obtain ⟨rfl, hP, hK⟩ := hv
  have hx := B.exec
  have hb := B.bytes
  have hr := B.returns
  have hts := atoms_spec (ws := wsX3_isWithin) B.pre
  have hown : s.vm.findClass RX3 = some m.cls := findClass_of_methodNamed B.named
  have hlocks := B.notSynchronized
  have hP : va_P (dC, dI) vwCl [] s.heap := hP
  have hl := lv_entry ([.int x, .int a, .int b]) (n := 3) (Nat.le_of_ble_eq_true rfl)
  rw [lg_entry_eq]
  generalize (lg_sl ([.int x, .int a, .int b]) ++ List.replicate (3 - (lg_sl ([.int x, .int a, .int b])).length) Slot.unset).toArray = ls at hl ⊢
  have hl : lv_has ls 3 [(0, .int x), (1, .int a), (2, .int b)] := hl
  refine lv_iload_n hx hb dX3_isWithin_0 rfl (lv_at hl 0 rfl) ?_
  refine lv_iload_n hx hb dX3_isWithin_1 rfl (lv_at hl 1 rfl) ?_
  refine lv_icmp_lt (tgt := 14) hx hb dX3_isWithin_2 (by decide) (fun c_2 => ?_) (fun c_2 => ?_)
  · have hz : z_in x a b = false := z_in_1 (z_nle.mpr c_2)
    refine lv_iconst (v := 0) hx hb dX3_isWithin_14 (by decide) ?_
    exact W.zret (v := 0) (ty := .boolean) hx hb hr (rfl) (fun tS htS hWS => ⟨congrArg (fun z => Outcome.returned (some (Value.int z))) (by rw [hz]; rfl : 0 = z_b (z_in x a b)), htS⟩) (fun _ h => nomatch h) dX3_isWithin_15
  · have h2 : a ≤ x := z_nlt.mp c_2
    refine lv_iload_n hx hb dX3_isWithin_5 rfl (lv_at hl 0 rfl) ?_
    refine lv_iload_n hx hb dX3_isWithin_6 rfl (lv_at hl 2 rfl) ?_
    refine lv_icmp_gt (tgt := 14) hx hb dX3_isWithin_7 (by decide) (fun c_7 => ?_) (fun c_7 => ?_)
    · have hz : z_in x a b = false := z_in_2 (z_nle.mpr c_7)
      refine lv_iconst (v := 0) hx hb dX3_isWithin_14 (by decide) ?_
      exact W.zret (v := 0) (ty := .boolean) hx hb hr (rfl) (fun tS htS hWS => ⟨congrArg (fun z => Outcome.returned (some (Value.int z))) (by rw [hz]; rfl : 0 = z_b (z_in x a b)), htS⟩) (fun _ h => nomatch h) dX3_isWithin_15
    · have hz : z_in x a b = true := z_in_t h2 (z_nlt.mp c_7)
      refine lv_iconst (v := 1) hx hb dX3_isWithin_10 (by decide) ?_
      refine lv_goto (tgt := 15) hx hb dX3_isWithin_11 (by decide) ?_
      exact W.zret (v := 1) (ty := .boolean) hx hb hr (rfl) (fun tS htS hWS => ⟨congrArg (fun z => Outcome.returned (some (Value.int z))) (by rw [hz]; rfl : 1 = z_b (z_in x a b)), htS⟩) (fun _ h => nomatch h) dX3_isWithin_15
set_option maxHeartbeats 4000000 in
set_option maxRecDepth 100000 in
theorem c_X2_isParty (l : Launch) (dC : Nat → ClassId) (dI : Nat → Nat → Nat) (cI cZ cJ : ClassId) (x : Int32)  : Met l yX2_isParty wsX2_isParty ({ frames := 1, cells := 0, slots := 0, locals := 22 }) (va_Pc [.int x] (q_R (dC, dI) vwCl (q_T cI cZ cJ) [])) (QcRead (z_b (z_in x 0 4))) 0 0 (fun _ => False) := by
  refine Met.ofW (cc := cX2_isParty) (maxL := 1) (ret := (some .boolean)) (by decide) rfl ?_
  intro p e s m args below meth c s₁ B hml hv
  obtain ⟨rfl, hP, hK⟩ := hv
  have hx := B.exec
  have hb := B.bytes
  have hr := B.returns
  have hts := atoms_spec (ws := wsX2_isParty) B.pre
  have hown : s.vm.findClass RX2 = some m.cls := findClass_of_methodNamed B.named
  have hlocks := B.notSynchronized
  have hP : va_P (dC, dI) vwCl [] s.heap := hP
  have hl := lv_entry ([.int x]) (n := 1) (Nat.le_of_ble_eq_true rfl)
  rw [lg_entry_eq]
  generalize (lg_sl ([.int x]) ++ List.replicate (1 - (lg_sl ([.int x])).length) Slot.unset).toArray = ls at hl ⊢
  have hl : lv_has ls 1 [(0, .int x)] := hl
  refine lv_iload_n hx hb dX2_isParty_0 rfl (lv_at hl 0 rfl) ?_
  refine lv_iconst (v := 0) hx hb dX2_isParty_1 (by decide) ?_
  refine lv_iconst (v := 4) hx hb dX2_isParty_2 (by decide) ?_
  refine q_rS (wc := []) (r := (z_b (z_in x 0 4))) (As := [.int x, .int 0, .int 4]) (rest := []) ⟨hx, hb, hml, hown, hts⟩ (c_X2_isWithin l dC dI cI cZ cJ x 0 4) (va_cwS 3 hts gX2_isParty_X2_isWithin rfl rfl rfl (by decide +kernel) ⟨Nat.le_of_ble_eq_true rfl, Nat.le_of_ble_eq_true rfl⟩) hK (hP.sub [] rfl) rfl hl.1 rfl (Nat.le_of_ble_eq_true rfl) dX2_isParty_3 ⟨Nat.zero_le _, Nat.zero_le _⟩ ?_
  exact W.zret (v := z_b (z_in x 0 4)) (ty := .boolean) hx hb hr (z_bnar _) (fun tS htS hWS => ⟨congrArg (fun z => Outcome.returned (some (Value.int z))) (rfl : z_b (z_in x 0 4) = z_b (z_in x 0 4)), htS⟩) (fun _ h => nomatch h) dX2_isParty_6
set_option maxHeartbeats 4000000 in
set_option maxRecDepth 100000 in
theorem c_X3_isParty (l : Launch) (dC : Nat → ClassId) (dI : Nat → Nat → Nat) (cI cZ cJ : ClassId) (x : Int32)  : Met l yX3_isParty wsX3_isParty ({ frames := 0, cells := 0, slots := 0, locals := 0 }) (va_Pc [.int x] (q_R (dC, dI) vwCl (q_T cI cZ cJ) [])) (QcRead (z_b (z_in x 0 4))) 0 0 (fun _ => False) := by
  refine Met.ofW (cc := cX3_isParty) (maxL := 1) (ret := (some .boolean)) (by decide) rfl ?_
  intro p e s m args below meth c s₁ B hml hv
  obtain ⟨rfl, hP, hK⟩ := hv
  have hx := B.exec
  have hb := B.bytes
  have hr := B.returns
  have hts := atoms_spec (ws := wsX3_isParty) B.pre
  have hown : s.vm.findClass RX3 = some m.cls := findClass_of_methodNamed B.named
  have hlocks := B.notSynchronized
  have hP : va_P (dC, dI) vwCl [] s.heap := hP
  have hl := lv_entry ([.int x]) (n := 1) (Nat.le_of_ble_eq_true rfl)
  rw [lg_entry_eq]
  generalize (lg_sl ([.int x]) ++ List.replicate (1 - (lg_sl ([.int x])).length) Slot.unset).toArray = ls at hl ⊢
  have hl : lv_has ls 1 [(0, .int x)] := hl
  refine lv_iload_n hx hb dX3_isParty_0 rfl (lv_at hl 0 rfl) ?_
  refine lv_if_lt (tgt := 13) hx hb dX3_isParty_1 (by decide) (fun c_1 => ?_) (fun c_1 => ?_)
  · have hz : z_in x 0 4 = false := z_in_1 (z_nle.mpr c_1)
    refine lv_iconst (v := 0) hx hb dX3_isParty_13 (by decide) ?_
    exact W.zret (v := 0) (ty := .boolean) hx hb hr (rfl) (fun tS htS hWS => ⟨congrArg (fun z => Outcome.returned (some (Value.int z))) (by rw [hz]; rfl : 0 = z_b (z_in x 0 4)), htS⟩) (fun _ h => nomatch h) dX3_isParty_14
  · have h2 : 0 ≤ x := z_nlt.mp c_1
    refine lv_iload_n hx hb dX3_isParty_4 rfl (lv_at hl 0 rfl) ?_
    refine lv_iconst (v := 5) hx hb dX3_isParty_5 (by decide) ?_
    refine lv_icmp_ge (tgt := 13) hx hb dX3_isParty_6 (by decide) (fun c_6 => ?_) (fun c_6 => ?_)
    · have hz : z_in x 0 4 = false := by cases hq : z_in x 0 4; rfl; exact absurd ((z_up 5 (by decide)).mp hq).2 (z_nlt.mpr c_6)
      refine lv_iconst (v := 0) hx hb dX3_isParty_13 (by decide) ?_
      exact W.zret (v := 0) (ty := .boolean) hx hb hr (rfl) (fun tS htS hWS => ⟨congrArg (fun z => Outcome.returned (some (Value.int z))) (by rw [hz]; rfl : 0 = z_b (z_in x 0 4)), htS⟩) (fun _ h => nomatch h) dX3_isParty_14
    · have hz : z_in x 0 4 = true := (z_up 5 (by decide)).mpr ⟨h2, z_nle.mp c_6⟩
      refine lv_iconst (v := 1) hx hb dX3_isParty_9 (by decide) ?_
      refine lv_goto (tgt := 14) hx hb dX3_isParty_10 (by decide) ?_
      exact W.zret (v := 1) (ty := .boolean) hx hb hr (rfl) (fun tS htS hWS => ⟨congrArg (fun z => Outcome.returned (some (Value.int z))) (by rw [hz]; rfl : 1 = z_b (z_in x 0 4)), htS⟩) (fun _ h => nomatch h) dX3_isParty_14
set_option maxHeartbeats 4000000 in
set_option maxRecDepth 100000 in
theorem c_X2_isYear (l : Launch) (dC : Nat → ClassId) (dI : Nat → Nat → Nat) (cI cZ cJ : ClassId) (x : Int32)  : Met l yX2_isYear wsX2_isYear ({ frames := 1, cells := 0, slots := 0, locals := 22 }) (va_Pc [.int x] (q_R (dC, dI) vwCl (q_T cI cZ cJ) [])) (QcRead (z_b (z_in x 0 7))) 0 0 (fun _ => False) := by
  refine Met.ofW (cc := cX2_isYear) (maxL := 1) (ret := (some .boolean)) (by decide) rfl ?_
  intro p e s m args below meth c s₁ B hml hv
  obtain ⟨rfl, hP, hK⟩ := hv
  have hx := B.exec
  have hb := B.bytes
  have hr := B.returns
  have hts := atoms_spec (ws := wsX2_isYear) B.pre
  have hown : s.vm.findClass RX2 = some m.cls := findClass_of_methodNamed B.named
  have hlocks := B.notSynchronized
  have hP : va_P (dC, dI) vwCl [] s.heap := hP
  have hl := lv_entry ([.int x]) (n := 1) (Nat.le_of_ble_eq_true rfl)
  rw [lg_entry_eq]
  generalize (lg_sl ([.int x]) ++ List.replicate (1 - (lg_sl ([.int x])).length) Slot.unset).toArray = ls at hl ⊢
  have hl : lv_has ls 1 [(0, .int x)] := hl
  refine lv_iload_n hx hb dX2_isYear_0 rfl (lv_at hl 0 rfl) ?_
  refine lv_iconst (v := 0) hx hb dX2_isYear_1 (by decide) ?_
  refine lv_bipush (v := 7) hx hb dX2_isYear_2 (by decide) ?_
  refine q_rS (wc := []) (r := (z_b (z_in x 0 7))) (As := [.int x, .int 0, .int 7]) (rest := []) ⟨hx, hb, hml, hown, hts⟩ (c_X2_isWithin l dC dI cI cZ cJ x 0 7) (va_cwS 3 hts gX2_isYear_X2_isWithin rfl rfl rfl (by decide +kernel) ⟨Nat.le_of_ble_eq_true rfl, Nat.le_of_ble_eq_true rfl⟩) hK (hP.sub [] rfl) rfl hl.1 rfl (Nat.le_of_ble_eq_true rfl) dX2_isYear_4 ⟨Nat.zero_le _, Nat.zero_le _⟩ ?_
  exact W.zret (v := z_b (z_in x 0 7)) (ty := .boolean) hx hb hr (z_bnar _) (fun tS htS hWS => ⟨congrArg (fun z => Outcome.returned (some (Value.int z))) (rfl : z_b (z_in x 0 7) = z_b (z_in x 0 7)), htS⟩) (fun _ h => nomatch h) dX2_isYear_7
set_option maxHeartbeats 4000000 in
set_option maxRecDepth 100000 in
theorem c_X3_isYear (l : Launch) (dC : Nat → ClassId) (dI : Nat → Nat → Nat) (cI cZ cJ : ClassId) (x : Int32)  : Met l yX3_isYear wsX3_isYear ({ frames := 0, cells := 0, slots := 0, locals := 0 }) (va_Pc [.int x] (q_R (dC, dI) vwCl (q_T cI cZ cJ) [])) (QcRead (z_b (z_in x 0 7))) 0 0 (fun _ => False) := by
  refine Met.ofW (cc := cX3_isYear) (maxL := 1) (ret := (some .boolean)) (by decide) rfl ?_
  intro p e s m args below meth c s₁ B hml hv
  obtain ⟨rfl, hP, hK⟩ := hv
  have hx := B.exec
  have hb := B.bytes
  have hr := B.returns
  have hts := atoms_spec (ws := wsX3_isYear) B.pre
  have hown : s.vm.findClass RX3 = some m.cls := findClass_of_methodNamed B.named
  have hlocks := B.notSynchronized
  have hP : va_P (dC, dI) vwCl [] s.heap := hP
  have hl := lv_entry ([.int x]) (n := 1) (Nat.le_of_ble_eq_true rfl)
  rw [lg_entry_eq]
  generalize (lg_sl ([.int x]) ++ List.replicate (1 - (lg_sl ([.int x])).length) Slot.unset).toArray = ls at hl ⊢
  have hl : lv_has ls 1 [(0, .int x)] := hl
  refine lv_iload_n hx hb dX3_isYear_0 rfl (lv_at hl 0 rfl) ?_
  refine lv_if_lt (tgt := 14) hx hb dX3_isYear_1 (by decide) (fun c_1 => ?_) (fun c_1 => ?_)
  · have hz : z_in x 0 7 = false := z_in_1 (z_nle.mpr c_1)
    refine lv_iconst (v := 0) hx hb dX3_isYear_14 (by decide) ?_
    exact W.zret (v := 0) (ty := .boolean) hx hb hr (rfl) (fun tS htS hWS => ⟨congrArg (fun z => Outcome.returned (some (Value.int z))) (by rw [hz]; rfl : 0 = z_b (z_in x 0 7)), htS⟩) (fun _ h => nomatch h) dX3_isYear_15
  · have h2 : 0 ≤ x := z_nlt.mp c_1
    refine lv_iload_n hx hb dX3_isYear_4 rfl (lv_at hl 0 rfl) ?_
    refine lv_bipush (v := 8) hx hb dX3_isYear_5 (by decide) ?_
    refine lv_icmp_ge (tgt := 14) hx hb dX3_isYear_7 (by decide) (fun c_7 => ?_) (fun c_7 => ?_)
    · have hz : z_in x 0 7 = false := by cases hq : z_in x 0 7; rfl; exact absurd ((z_up 8 (by decide)).mp hq).2 (z_nlt.mpr c_7)
      refine lv_iconst (v := 0) hx hb dX3_isYear_14 (by decide) ?_
      exact W.zret (v := 0) (ty := .boolean) hx hb hr (rfl) (fun tS htS hWS => ⟨congrArg (fun z => Outcome.returned (some (Value.int z))) (by rw [hz]; rfl : 0 = z_b (z_in x 0 7)), htS⟩) (fun _ h => nomatch h) dX3_isYear_15
    · have hz : z_in x 0 7 = true := (z_up 8 (by decide)).mpr ⟨h2, z_nle.mp c_7⟩
      refine lv_iconst (v := 1) hx hb dX3_isYear_10 (by decide) ?_
      refine lv_goto (tgt := 15) hx hb dX3_isYear_11 (by decide) ?_
      exact W.zret (v := 1) (ty := .boolean) hx hb hr (rfl) (fun tS htS hWS => ⟨congrArg (fun z => Outcome.returned (some (Value.int z))) (by rw [hz]; rfl : 1 = z_b (z_in x 0 7)), htS⟩) (fun _ h => nomatch h) dX3_isYear_15
set_option maxHeartbeats 4000000 in
set_option maxRecDepth 100000 in
theorem c_X2_isHour (l : Launch) (dC : Nat → ClassId) (dI : Nat → Nat → Nat) (cI cZ cJ : ClassId) (x : Int32)  : Met l yX2_isHour wsX2_isHour ({ frames := 1, cells := 0, slots := 0, locals := 22 }) (va_Pc [.int x] (q_R (dC, dI) vwCl (q_T cI cZ cJ) [])) (QcRead (z_b (z_in x 0 11))) 0 0 (fun _ => False) := by
  refine Met.ofW (cc := cX2_isHour) (maxL := 1) (ret := (some .boolean)) (by decide) rfl ?_
  intro p e s m args below meth c s₁ B hml hv
  obtain ⟨rfl, hP, hK⟩ := hv
  have hx := B.exec
  have hb := B.bytes
  have hr := B.returns
  have hts := atoms_spec (ws := wsX2_isHour) B.pre
  have hown : s.vm.findClass RX2 = some m.cls := findClass_of_methodNamed B.named
  have hlocks := B.notSynchronized
  have hP : va_P (dC, dI) vwCl [] s.heap := hP
  have hl := lv_entry ([.int x]) (n := 1) (Nat.le_of_ble_eq_true rfl)
  rw [lg_entry_eq]
  generalize (lg_sl ([.int x]) ++ List.replicate (1 - (lg_sl ([.int x])).length) Slot.unset).toArray = ls at hl ⊢
  have hl : lv_has ls 1 [(0, .int x)] := hl
  refine lv_iload_n hx hb dX2_isHour_0 rfl (lv_at hl 0 rfl) ?_
  refine lv_iconst (v := 0) hx hb dX2_isHour_1 (by decide) ?_
  refine lv_bipush (v := 11) hx hb dX2_isHour_2 (by decide) ?_
  refine q_rS (wc := []) (r := (z_b (z_in x 0 11))) (As := [.int x, .int 0, .int 11]) (rest := []) ⟨hx, hb, hml, hown, hts⟩ (c_X2_isWithin l dC dI cI cZ cJ x 0 11) (va_cwS 3 hts gX2_isHour_X2_isWithin rfl rfl rfl (by decide +kernel) ⟨Nat.le_of_ble_eq_true rfl, Nat.le_of_ble_eq_true rfl⟩) hK (hP.sub [] rfl) rfl hl.1 rfl (Nat.le_of_ble_eq_true rfl) dX2_isHour_4 ⟨Nat.zero_le _, Nat.zero_le _⟩ ?_
  exact W.zret (v := z_b (z_in x 0 11)) (ty := .boolean) hx hb hr (z_bnar _) (fun tS htS hWS => ⟨congrArg (fun z => Outcome.returned (some (Value.int z))) (rfl : z_b (z_in x 0 11) = z_b (z_in x 0 11)), htS⟩) (fun _ h => nomatch h) dX2_isHour_7
set_option maxHeartbeats 4000000 in
set_option maxRecDepth 100000 in
theorem c_X3_isHour (l : Launch) (dC : Nat → ClassId) (dI : Nat → Nat → Nat) (cI cZ cJ : ClassId) (x : Int32)  : Met l yX3_isHour wsX3_isHour ({ frames := 0, cells := 0, slots := 0, locals := 0 }) (va_Pc [.int x] (q_R (dC, dI) vwCl (q_T cI cZ cJ) [])) (QcRead (z_b (z_in x 0 11))) 0 0 (fun _ => False) := by
  refine Met.ofW (cc := cX3_isHour) (maxL := 1) (ret := (some .boolean)) (by decide) rfl ?_
  intro p e s m args below meth c s₁ B hml hv
  obtain ⟨rfl, hP, hK⟩ := hv
  have hx := B.exec
  have hb := B.bytes
  have hr := B.returns
  have hts := atoms_spec (ws := wsX3_isHour) B.pre
  have hown : s.vm.findClass RX3 = some m.cls := findClass_of_methodNamed B.named
  have hlocks := B.notSynchronized
  have hP : va_P (dC, dI) vwCl [] s.heap := hP
  have hl := lv_entry ([.int x]) (n := 1) (Nat.le_of_ble_eq_true rfl)
  rw [lg_entry_eq]
  generalize (lg_sl ([.int x]) ++ List.replicate (1 - (lg_sl ([.int x])).length) Slot.unset).toArray = ls at hl ⊢
  have hl : lv_has ls 1 [(0, .int x)] := hl
  refine lv_iload_n hx hb dX3_isHour_0 rfl (lv_at hl 0 rfl) ?_
  refine lv_if_lt (tgt := 14) hx hb dX3_isHour_1 (by decide) (fun c_1 => ?_) (fun c_1 => ?_)
  · have hz : z_in x 0 11 = false := z_in_1 (z_nle.mpr c_1)
    refine lv_iconst (v := 0) hx hb dX3_isHour_14 (by decide) ?_
    exact W.zret (v := 0) (ty := .boolean) hx hb hr (rfl) (fun tS htS hWS => ⟨congrArg (fun z => Outcome.returned (some (Value.int z))) (by rw [hz]; rfl : 0 = z_b (z_in x 0 11)), htS⟩) (fun _ h => nomatch h) dX3_isHour_15
  · have h2 : 0 ≤ x := z_nlt.mp c_1
    refine lv_iload_n hx hb dX3_isHour_4 rfl (lv_at hl 0 rfl) ?_
    refine lv_bipush (v := 12) hx hb dX3_isHour_5 (by decide) ?_
    refine lv_icmp_ge (tgt := 14) hx hb dX3_isHour_7 (by decide) (fun c_7 => ?_) (fun c_7 => ?_)
    · have hz : z_in x 0 11 = false := by cases hq : z_in x 0 11; rfl; exact absurd ((z_up 12 (by decide)).mp hq).2 (z_nlt.mpr c_7)
      refine lv_iconst (v := 0) hx hb dX3_isHour_14 (by decide) ?_
      exact W.zret (v := 0) (ty := .boolean) hx hb hr (rfl) (fun tS htS hWS => ⟨congrArg (fun z => Outcome.returned (some (Value.int z))) (by rw [hz]; rfl : 0 = z_b (z_in x 0 11)), htS⟩) (fun _ h => nomatch h) dX3_isHour_15
    · have hz : z_in x 0 11 = true := (z_up 12 (by decide)).mpr ⟨h2, z_nle.mp c_7⟩
      refine lv_iconst (v := 1) hx hb dX3_isHour_10 (by decide) ?_
      refine lv_goto (tgt := 15) hx hb dX3_isHour_11 (by decide) ?_
      exact W.zret (v := 1) (ty := .boolean) hx hb hr (rfl) (fun tS htS hWS => ⟨congrArg (fun z => Outcome.returned (some (Value.int z))) (by rw [hz]; rfl : 1 = z_b (z_in x 0 11)), htS⟩) (fun _ h => nomatch h) dX3_isHour_15
set_option maxHeartbeats 4000000 in
set_option maxRecDepth 100000 in
theorem c_X2_yearCell (l : Launch) (dC : Nat → ClassId) (dI : Nat → Nat → Nat) (cI cZ cJ : ClassId) (p0 y0 : Int32)  : Met l yX2_yearCell wsX2_yearCell ({ frames := 0, cells := 0, slots := 0, locals := 0 }) (va_Pc [.int p0, .int y0] (q_R (dC, dI) vwCl (q_T cI cZ cJ) [])) (QcRead (p0 * 8 + y0)) 0 0 (fun _ => False) := by
  refine Met.ofW (cc := cX2_yearCell) (maxL := 2) (ret := (some .int)) (by decide) rfl ?_
  intro p e s m args below meth c s₁ B hml hv
  obtain ⟨rfl, hP, hK⟩ := hv
  have hx := B.exec
  have hb := B.bytes
  have hr := B.returns
  have hts := atoms_spec (ws := wsX2_yearCell) B.pre
  have hown : s.vm.findClass RX2 = some m.cls := findClass_of_methodNamed B.named
  have hlocks := B.notSynchronized
  have hP : va_P (dC, dI) vwCl [] s.heap := hP
  have hl := lv_entry ([.int p0, .int y0]) (n := 2) (Nat.le_of_ble_eq_true rfl)
  rw [lg_entry_eq]
  generalize (lg_sl ([.int p0, .int y0]) ++ List.replicate (2 - (lg_sl ([.int p0, .int y0])).length) Slot.unset).toArray = ls at hl ⊢
  have hl : lv_has ls 2 [(0, .int p0), (1, .int y0)] := hl
  refine lv_iload_n hx hb dX2_yearCell_0 rfl (lv_at hl 0 rfl) ?_
  refine lv_bipush (v := 8) hx hb dX2_yearCell_1 (by decide) ?_
  refine lv_imul hx hb dX2_yearCell_3 ?_
  refine lv_iload_n hx hb dX2_yearCell_4 rfl (lv_at hl 1 rfl) ?_
  refine lv_iadd hx hb dX2_yearCell_5 ?_
  exact W.iret (v := (p0 * 8) + y0) hx hb hr (fun tS htS hWS => ⟨congrArg (fun z => Outcome.returned (some (Value.int z))) (rfl : (p0 * 8) + y0 = p0 * 8 + y0), htS⟩) (fun _ h => nomatch h) dX2_yearCell_6
set_option maxHeartbeats 4000000 in
set_option maxRecDepth 100000 in
theorem c_X2_hourCell (l : Launch) (dC : Nat → ClassId) (dI : Nat → Nat → Nat) (cI cZ cJ : ClassId) (p0 y0 h0 : Int32)  : Met l yX2_hourCell wsX2_hourCell ({ frames := 1, cells := 0, slots := 0, locals := 21 }) (va_Pc [.int p0, .int y0, .int h0] (q_R (dC, dI) vwCl (q_T cI cZ cJ) [])) (QcRead ((p0 * 8 + y0) * 12 + h0)) 0 0 (fun _ => False) := by
  refine Met.ofW (cc := cX2_hourCell) (maxL := 3) (ret := (some .int)) (by decide) rfl ?_
  intro p e s m args below meth c s₁ B hml hv
  obtain ⟨rfl, hP, hK⟩ := hv
  have hx := B.exec
  have hb := B.bytes
  have hr := B.returns
  have hts := atoms_spec (ws := wsX2_hourCell) B.pre
  have hown : s.vm.findClass RX2 = some m.cls := findClass_of_methodNamed B.named
  have hlocks := B.notSynchronized
  have hP : va_P (dC, dI) vwCl [] s.heap := hP
  have hl := lv_entry ([.int p0, .int y0, .int h0]) (n := 3) (Nat.le_of_ble_eq_true rfl)
  rw [lg_entry_eq]
  generalize (lg_sl ([.int p0, .int y0, .int h0]) ++ List.replicate (3 - (lg_sl ([.int p0, .int y0, .int h0])).length) Slot.unset).toArray = ls at hl ⊢
  have hl : lv_has ls 3 [(0, .int p0), (1, .int y0), (2, .int h0)] := hl
  refine lv_iload_n hx hb dX2_hourCell_0 rfl (lv_at hl 0 rfl) ?_
  refine lv_iload_n hx hb dX2_hourCell_1 rfl (lv_at hl 1 rfl) ?_
  refine q_rS (wc := []) (r := (p0 * 8 + y0)) (As := [.int p0, .int y0]) (rest := []) ⟨hx, hb, hml, hown, hts⟩ (c_X2_yearCell l dC dI cI cZ cJ p0 y0) (va_cwS 2 hts gX2_hourCell_X2_yearCell rfl rfl rfl (by decide +kernel) ⟨Nat.le_of_ble_eq_true rfl, Nat.le_of_ble_eq_true rfl⟩) hK (hP.sub [] rfl) rfl hl.1 rfl (Nat.le_of_ble_eq_true rfl) dX2_hourCell_2 ⟨Nat.zero_le _, Nat.zero_le _⟩ ?_
  refine lv_bipush (v := 12) hx hb dX2_hourCell_5 (by decide) ?_
  refine lv_imul hx hb dX2_hourCell_7 ?_
  refine lv_iload_n hx hb dX2_hourCell_8 rfl (lv_at hl 2 rfl) ?_
  refine lv_iadd hx hb dX2_hourCell_9 ?_
  exact W.iret (v := ((p0 * 8 + y0) * 12) + h0) hx hb hr (fun tS htS hWS => ⟨congrArg (fun z => Outcome.returned (some (Value.int z))) (rfl : ((p0 * 8 + y0) * 12) + h0 = (p0 * 8 + y0) * 12 + h0), htS⟩) (fun _ h => nomatch h) dX2_hourCell_10
set_option maxHeartbeats 4000000 in
set_option maxRecDepth 100000 in
theorem c_X3_place (l : Launch) (dC : Nat → ClassId) (dI : Nat → Nat → Nat) (cI cZ cJ : ClassId) (p0 y0 h0 : Int32)  : Met l yX3_place wsX3_place ({ frames := 0, cells := 0, slots := 0, locals := 0 }) (va_Pc [.int p0, .int y0, .int h0] (q_R (dC, dI) vwCl (q_T cI cZ cJ) [])) (QcRead ((p0 * 8 + y0) * 12 + h0)) 0 0 (fun _ => False) := by
  refine Met.ofW (cc := cX3_place) (maxL := 3) (ret := (some .int)) (by decide) rfl ?_
  intro p e s m args below meth c s₁ B hml hv
  obtain ⟨rfl, hP, hK⟩ := hv
  have hx := B.exec
  have hb := B.bytes
  have hr := B.returns
  have hts := atoms_spec (ws := wsX3_place) B.pre
  have hown : s.vm.findClass RX3 = some m.cls := findClass_of_methodNamed B.named
  have hlocks := B.notSynchronized
  have hP : va_P (dC, dI) vwCl [] s.heap := hP
  have hl := lv_entry ([.int p0, .int y0, .int h0]) (n := 3) (Nat.le_of_ble_eq_true rfl)
  rw [lg_entry_eq]
  generalize (lg_sl ([.int p0, .int y0, .int h0]) ++ List.replicate (3 - (lg_sl ([.int p0, .int y0, .int h0])).length) Slot.unset).toArray = ls at hl ⊢
  have hl : lv_has ls 3 [(0, .int p0), (1, .int y0), (2, .int h0)] := hl
  refine lv_iload_n hx hb dX3_place_0 rfl (lv_at hl 0 rfl) ?_
  refine lv_bipush (v := 8) hx hb dX3_place_1 (by decide) ?_
  refine lv_imul hx hb dX3_place_3 ?_
  refine lv_iload_n hx hb dX3_place_4 rfl (lv_at hl 1 rfl) ?_
  refine lv_iadd hx hb dX3_place_5 ?_
  refine lv_bipush (v := 12) hx hb dX3_place_6 (by decide) ?_
  refine lv_imul hx hb dX3_place_8 ?_
  refine lv_iload_n hx hb dX3_place_9 rfl (lv_at hl 2 rfl) ?_
  refine lv_iadd hx hb dX3_place_10 ?_
  exact W.iret (v := (((p0 * 8) + y0) * 12) + h0) hx hb hr (fun tS htS hWS => ⟨congrArg (fun z => Outcome.returned (some (Value.int z))) (rfl : (((p0 * 8) + y0) * 12) + h0 = (p0 * 8 + y0) * 12 + h0), htS⟩) (fun _ h => nomatch h) dX3_place_11
set_option maxHeartbeats 4000000 in
set_option maxRecDepth 100000 in
theorem c_X0_valueOf (l : Launch) (dC : Nat → ClassId) (dI : Nat → Nat → Nat) (cI cZ cJ : ClassId) (ad aw : Nat) (lo up tp : Int32) (fW : Nat → Int32) (u : Int32)  : Met l yX0_valueOf wsX0_valueOf ({ frames := 0, cells := 0, slots := 0, locals := 0 }) (va_Pc [.ref ad, .int u] (q_R (dC, dI) vwCl (q_T cI cZ cJ) [(ad, .inr (0, [.ref aw, .int lo, .int up, .int tp])), (aw, .inl (cI, 1002, .inl fW))])) (QcRead (z_v lo up tp u)) 0 0 (fun _ => False) := by
  refine Met.ofW (cc := cX0_valueOf) (maxL := 2) (ret := (some .int)) (by decide) rfl ?_
  intro p e s m args below meth c s₁ B hml hv
  obtain ⟨rfl, hP, hK⟩ := hv
  have hx := B.exec
  have hb := B.bytes
  have hr := B.returns
  have hts := atoms_spec (ws := wsX0_valueOf) B.pre
  have hown : s.vm.findClass RX0 = some m.cls := findClass_of_methodNamed B.named
  have hlocks := B.notSynchronized
  have hP : va_P (dC, dI) vwCl [(ad, .inr (0, [.ref aw, .int lo, .int up, .int tp])), (aw, .inl (cI, 1002, .inl fW))] s.heap := hP
  have hl := lv_entry ([.ref ad, .int u]) (n := 2) (Nat.le_of_ble_eq_true rfl)
  rw [lg_entry_eq]
  generalize (lg_sl ([.ref ad, .int u]) ++ List.replicate (2 - (lg_sl ([.ref ad, .int u])).length) Slot.unset).toArray = ls at hl ⊢
  have hl : lv_has ls 2 [(0, .ref ad), (1, .int u)] := hl
  refine lv_iload_n hx hb dX0_valueOf_0 rfl (lv_at hl 1 rfl) ?_
  refine lv_aload_n hx hb dX0_valueOf_1 rfl (lv_at hl 0 rfl) ?_
  refine va_get (D := (dC, dI)) (ci := 0) (v := .int lo) (C := RX0) (T := TX0) (N := 4) hx hb hts (by decide +kernel) hown hK hP 0 rfl rfl 1 (by decide) (hts (.fieldLink RX0 17 "CapacityRound$Demand" "lowerAmount" "I") (by decide +kernel)) (fun _ h9 => h9) rfl dX0_valueOf_2 ?_
  refine lv_icmp_gt (tgt := 13) hx hb dX0_valueOf_5 (by decide) (fun c_5 => ?_) (fun c_5 => ?_)
  · refine lv_iload_n hx hb dX0_valueOf_13 rfl (lv_at hl 1 rfl) ?_
    refine lv_aload_n hx hb dX0_valueOf_14 rfl (lv_at hl 0 rfl) ?_
    refine va_get (D := (dC, dI)) (ci := 0) (v := .int up) (C := RX0) (T := TX0) (N := 4) hx hb hts (by decide +kernel) hown hK hP 0 rfl rfl 2 (by decide) (hts (.fieldLink RX0 21 "CapacityRound$Demand" "upperAmount" "I") (by decide +kernel)) (fun _ h9 => h9) rfl dX0_valueOf_15 ?_
    refine lv_icmp_le (tgt := 23) hx hb dX0_valueOf_18 (by decide) (fun c_18 => ?_) (fun c_18 => ?_)
    · refine lv_aload_n hx hb dX0_valueOf_23 rfl (lv_at hl 0 rfl) ?_
      refine va_get (D := (dC, dI)) (ci := 0) (v := .int tp) (C := RX0) (T := TX0) (N := 4) hx hb hts (by decide +kernel) hown hK hP 0 rfl rfl 3 (by decide) (hts (.fieldLink RX0 24 "CapacityRound$Demand" "topPrice" "I") (by decide +kernel)) (fun _ h9 => h9) rfl dX0_valueOf_24 ?_
      refine lv_aload_n hx hb dX0_valueOf_27 rfl (lv_at hl 0 rfl) ?_
      refine va_get (D := (dC, dI)) (ci := 0) (v := .int up) (C := RX0) (T := TX0) (N := 4) hx hb hts (by decide +kernel) hown hK hP 0 rfl rfl 2 (by decide) (hts (.fieldLink RX0 21 "CapacityRound$Demand" "upperAmount" "I") (by decide +kernel)) (fun _ h9 => h9) rfl dX0_valueOf_28 ?_
      refine lv_iload_n hx hb dX0_valueOf_31 rfl (lv_at hl 1 rfl) ?_
      refine lv_isub hx hb dX0_valueOf_32 ?_
      refine lv_imul hx hb dX0_valueOf_33 ?_
      refine lv_aload_n hx hb dX0_valueOf_34 rfl (lv_at hl 0 rfl) ?_
      refine va_get (D := (dC, dI)) (ci := 0) (v := .int up) (C := RX0) (T := TX0) (N := 4) hx hb hts (by decide +kernel) hown hK hP 0 rfl rfl 2 (by decide) (hts (.fieldLink RX0 21 "CapacityRound$Demand" "upperAmount" "I") (by decide +kernel)) (fun _ h9 => h9) rfl dX0_valueOf_35 ?_
      refine lv_aload_n hx hb dX0_valueOf_38 rfl (lv_at hl 0 rfl) ?_
      refine va_get (D := (dC, dI)) (ci := 0) (v := .int lo) (C := RX0) (T := TX0) (N := 4) hx hb hts (by decide +kernel) hown hK hP 0 rfl rfl 1 (by decide) (hts (.fieldLink RX0 17 "CapacityRound$Demand" "lowerAmount" "I") (by decide +kernel)) (fun _ h9 => h9) rfl dX0_valueOf_39 ?_
      refine lv_isub hx hb dX0_valueOf_42 ?_
      refine lv_idiv hx hb dX0_valueOf_43 (z_ne (z_nle.mpr c_5) c_18) ?_
      exact W.iret (v := (tp * (up - u)) / (up - lo)) hx hb hr (fun tS htS hWS => ⟨congrArg (fun z => Outcome.returned (some (Value.int z))) (by unfold z_v; rw [if_neg (z_nle.mpr c_5), if_pos c_18] : (tp * (up - u)) / (up - lo) = z_v lo up tp u), htS⟩) (fun _ h => nomatch h) dX0_valueOf_44
    · refine lv_iconst (v := 0) hx hb dX0_valueOf_21 (by decide) ?_
      exact W.iret (v := 0) hx hb hr (fun tS htS hWS => ⟨congrArg (fun z => Outcome.returned (some (Value.int z))) (by unfold z_v; rw [if_neg (z_nle.mpr c_5), if_neg c_18] : 0 = z_v lo up tp u), htS⟩) (fun _ h => nomatch h) dX0_valueOf_22
  · refine lv_aload_n hx hb dX0_valueOf_8 rfl (lv_at hl 0 rfl) ?_
    refine va_get (D := (dC, dI)) (ci := 0) (v := .int tp) (C := RX0) (T := TX0) (N := 4) hx hb hts (by decide +kernel) hown hK hP 0 rfl rfl 3 (by decide) (hts (.fieldLink RX0 24 "CapacityRound$Demand" "topPrice" "I") (by decide +kernel)) (fun _ h9 => h9) rfl dX0_valueOf_9 ?_
    exact W.iret (v := tp) hx hb hr (fun tS htS hWS => ⟨congrArg (fun z => Outcome.returned (some (Value.int z))) (by unfold z_v; rw [if_pos (z_nlt.mp c_5)] : tp = z_v lo up tp u), htS⟩) (fun _ h => nomatch h) dX0_valueOf_12
set_option maxHeartbeats 4000000 in
set_option maxRecDepth 100000 in
theorem c_X0_worthOf (l : Launch) (dC : Nat → ClassId) (dI : Nat → Nat → Nat) (cI cZ cJ : ClassId) (ad aw : Nat) (lo up tp : Int32) (fW : Nat → Int32) (a : Int32)  : Met l yX0_worthOf wsX0_worthOf ({ frames := 1, cells := 0, slots := 0, locals := 23 }) (va_Pc [.ref ad, .int a] (q_R (dC, dI) vwCl (q_T cI cZ cJ) [(ad, .inr (0, [.ref aw, .int lo, .int up, .int tp])), (aw, .inl (cI, 1002, .inl fW))])) (QcRead (fW (z_wi a))) 0 0 (fun _ => False) := by
  refine Met.ofW (cc := cX0_worthOf) (maxL := 2) (ret := (some .int)) (by decide) rfl ?_
  intro p e s m args below meth c s₁ B hml hv
  obtain ⟨rfl, hP, hK⟩ := hv
  have hx := B.exec
  have hb := B.bytes
  have hr := B.returns
  have hts := atoms_spec (ws := wsX0_worthOf) B.pre
  have hown : s.vm.findClass RX0 = some m.cls := findClass_of_methodNamed B.named
  have hlocks := B.notSynchronized
  have hP : va_P (dC, dI) vwCl [(ad, .inr (0, [.ref aw, .int lo, .int up, .int tp])), (aw, .inl (cI, 1002, .inl fW))] s.heap := hP
  have hl := lv_entry ([.ref ad, .int a]) (n := 2) (Nat.le_of_ble_eq_true rfl)
  rw [lg_entry_eq]
  generalize (lg_sl ([.ref ad, .int a]) ++ List.replicate (2 - (lg_sl ([.ref ad, .int a])).length) Slot.unset).toArray = ls at hl ⊢
  have hl : lv_has ls 2 [(0, .ref ad), (1, .int a)] := hl
  refine lv_aload_n hx hb dX0_worthOf_0 rfl (lv_at hl 0 rfl) ?_
  refine va_get (D := (dC, dI)) (ci := 0) (v := .ref aw) (C := RX0) (T := TX0) (N := 4) hx hb hts (by decide +kernel) hown hK hP 0 rfl rfl 0 (by decide) (hts (.fieldLink RX0 9 "CapacityRound$Demand" "worths" "[I") (by decide +kernel)) (fun _ h9 => h9) rfl dX0_worthOf_1 ?_
  refine lv_iconst (v := 0) hx hb dX0_worthOf_4 (by decide) ?_
  refine lv_iload_n hx hb dX0_worthOf_5 rfl (lv_at hl 1 rfl) ?_
  refine lv_sipush (v := 1001) hx hb dX0_worthOf_6 (by decide) ?_
  refine va_mmin hx hb (by rw [hml]; exact hl.1.symm) hown (hts (.methodLink RX0 31 Lib.Math.min.name) (by decide +kernel)) (hts (.static Lib.Math.min.name) (by decide +kernel)) (hts (.initialized "java/lang/Math") (by decide +kernel)) (hts (.code Lib.Math.min.name Lib.Math.min.code 2 (some .int)) (by decide +kernel)) (Nat.le_of_ble_eq_true rfl) (Nat.le_of_ble_eq_true rfl) (Nat.zero_le _) (Nat.zero_le _) dX0_worthOf_9 ?_
  refine va_mmax hx hb (by rw [hml]; exact hl.1.symm) hown (hts (.methodLink RX0 37 Lib.Math.max.name) (by decide +kernel)) (hts (.static Lib.Math.max.name) (by decide +kernel)) (hts (.initialized "java/lang/Math") (by decide +kernel)) (hts (.code Lib.Math.max.name Lib.Math.max.code 2 (some .int)) (by decide +kernel)) (Nat.le_of_ble_eq_true rfl) (Nat.le_of_ble_eq_true rfl) (Nat.zero_le _) (Nat.zero_le _) dX0_worthOf_12 ?_
  refine q_iald hx hb hK hP 1 0 rfl rfl (z_wi a) (z_wix a) (z_wil a) (by decide) dX0_worthOf_15 ?_
  exact W.iret (v := fW (z_wi a)) hx hb hr (fun tS htS hWS => ⟨congrArg (fun z => Outcome.returned (some (Value.int z))) (rfl : fW (z_wi a) = fW (z_wi a)), htS⟩) (fun _ h => nomatch h) dX0_worthOf_16
end
section
set_option maxHeartbeats 4000000 in
set_option maxRecDepth 100000 in
theorem c_X1_bestFirst (l : Launch) (dC : Nat → ClassId) (dI : Nat → Nat → Nat) (cI cZ cJ : ClassId) (aq aP aA aT aO aE aI n : Nat) (fP fA fT fO fE fI : Nat → Int32) (ad aw : Nat) (lo up tp : Int32) (fW : Nat → Int32) (b : Int32) (o : Nat → Nat) (hn : n ≤ 12) (hO : ∀ k, k < n → fO k = nI (o k) ∧ o k < 12) : Met l yX1_bestFirst wsX1_bestFirst ({ frames := 2, cells := 0, slots := 0, locals := 44 }) (va_Pc [.ref aq, .ref ad, .int b] (q_R (dC, dI) vwCl (q_T cI cZ cJ) [(aq, .inr (1, [.ref aP, .ref aA, .ref aT, .ref aO, .int (nI n), .ref aE, .ref aI])), (aP, .inl (cI, 12, .inl fP)), (aA, .inl (cI, 12, .inl fA)), (aT, .inl (cI, 12, .inl fT)), (aO, .inl (cI, 12, .inl fO)), (aE, .inl (cI, 12, .inl fE)), (aI, .inl (cZ, 12, .inl fI)), (ad, .inr (0, [.ref aw, .int lo, .int up, .int tp])), (aw, .inl (cI, 1002, .inl fW))])) (QcRead (nI (z_ag (z_wf fW b fA fE o) n).1)) 0 0 (fun _ => False) := by
  refine Met.ofW (cc := cX1_bestFirst) (maxL := 10) (ret := (some .int)) (by decide) rfl ?_
  intro p e s m args below meth c s₁ B hml hv
  obtain ⟨rfl, hP, hK⟩ := hv
  have hx := B.exec
  have hb := B.bytes
  have hr := B.returns
  have hts := atoms_spec (ws := wsX1_bestFirst) B.pre
  have hown : s.vm.findClass RX1 = some m.cls := findClass_of_methodNamed B.named
  have hlocks := B.notSynchronized
  have hP : va_P (dC, dI) vwCl [(aq, .inr (1, [.ref aP, .ref aA, .ref aT, .ref aO, .int (nI n), .ref aE, .ref aI])), (aP, .inl (cI, 12, .inl fP)), (aA, .inl (cI, 12, .inl fA)), (aT, .inl (cI, 12, .inl fT)), (aO, .inl (cI, 12, .inl fO)), (aE, .inl (cI, 12, .inl fE)), (aI, .inl (cZ, 12, .inl fI)), (ad, .inr (0, [.ref aw, .int lo, .int up, .int tp])), (aw, .inl (cI, 1002, .inl fW))] s.heap := hP
  have hl := lv_entry ([.ref aq, .ref ad, .int b]) (n := 10) (Nat.le_of_ble_eq_true rfl)
  rw [lg_entry_eq]
  generalize (lg_sl ([.ref aq, .ref ad, .int b]) ++ List.replicate (10 - (lg_sl ([.ref aq, .ref ad, .int b])).length) Slot.unset).toArray = ls at hl ⊢
  have hl : lv_has ls 10 [(0, .ref aq), (1, .ref ad), (2, .int b)] := hl
  refine lv_iload_n hx hb dX1_bestFirst_0 rfl (lv_at hl 2 rfl) ?_
  refine lv_istore_n (lv' := [(3, .int b), (0, .ref aq), (1, .ref ad), (2, .int b)]) hx hb dX1_bestFirst_1 rfl hl (by decide) rfl (fun ls hl => ?_)
  refine lv_iconst (v := 0) hx hb dX1_bestFirst_2 (by decide) ?_
  refine lv_istore (lv' := [(4, .int 0), (3, .int b), (0, .ref aq), (1, .ref ad), (2, .int b)]) hx hb dX1_bestFirst_3 hl (by decide) rfl (fun ls hl => ?_)
  refine lv_aload_n hx hb dX1_bestFirst_5 rfl (lv_at hl 3 rfl) ?_
  refine lv_iload_n hx hb dX1_bestFirst_6 rfl (lv_at hl 1 rfl) ?_
  refine q_rV (wc := [(ad, .inr (0, [.ref aw, .int lo, .int up, .int tp])), (aw, .inl (cI, 1002, .inl fW))]) (r := (fW (z_wi b))) (As := [.int b]) (rest := []) ⟨hx, hb, hml, hown, hts⟩ (c_X0_worthOf l dC dI cI cZ cJ ad aw lo up tp fW b) (cwV 1 hts gX1_bestFirst_X0_worthOf rfl rfl rfl (by decide +kernel) ⟨Nat.le_of_ble_eq_true rfl, Nat.le_of_ble_eq_true rfl⟩) hK (hP.sub [7, 8] rfl) 0 0 rfl rfl rfl rfl hl.1 rfl (Nat.le_of_ble_eq_true rfl) dX1_bestFirst_7 ⟨Nat.zero_le _, Nat.zero_le _⟩ ?_
  refine lv_istore (lv' := [(5, .int (fW (z_wi b))), (4, .int 0), (3, .int b), (0, .ref aq), (1, .ref ad), (2, .int b)]) hx hb dX1_bestFirst_10 hl (by decide) rfl (fun ls hl => ?_)
  refine lv_iconst (v := 0) hx hb dX1_bestFirst_12 (by decide) ?_
  refine lv_istore (lv' := [(6, .int 0), (5, .int (fW (z_wi b))), (4, .int 0), (3, .int b), (0, .ref aq), (1, .ref ad), (2, .int b)]) hx hb dX1_bestFirst_13 hl (by decide) rfl (fun ls hl => ?_)
  refine lv_iconst (v := 0) hx hb dX1_bestFirst_15 (by decide) ?_
  refine lv_istore (lv' := [(7, .int 0), (6, .int 0), (5, .int (fW (z_wi b))), (4, .int 0), (3, .int b), (0, .ref aq), (1, .ref ad), (2, .int b)]) hx hb dX1_bestFirst_16 hl (by decide) rfl (fun ls hl => ?_)
  have lp_18 : ∀ (wk k : Nat) (x3 : Int32) (x4 : Int32) (x5 : Int32) (x6 : Int32) (x7 : Int32), k ≤ n → n < k + wk → x3 = z_am b fA o k → x4 = z_co fA fE o k → x5 = (z_ag (z_wf fW b fA fE o) k).2 → x6 = nI (z_ag (z_wf fW b fA fE o) k).1 → x7 = nI k → ∀ (ls : Array Slot), lv_has ls 10 [(3, .int x3), (4, .int x4), (5, .int x5), (6, .int x6), (7, .int x7), (0, .ref aq), (1, .ref ad)] → W p l e (headSpec wsX1_bestFirst ({ frames := 2, cells := 0, slots := 0, locals := 44 })).room s m [.ref aq, .ref ad, .int b].toArray below meth c s.heap [] 0 0 (MQ below (QcRead (nI (z_ag (z_wf fW b fA fE o) n).1)) [.ref aq, .ref ad, .int b].toArray s 0 0 (fun _ => False)) (F0 m 18 ls []) := by
    intro wk
    induction wk with
    | zero => intro k x3 x4 x5 x6 x7 hk_k hw_k; exact absurd hw_k (by omega)
    | succ wk ih_k =>
      intro k x3 x4 x5 x6 x7 hk_k hw_k ex3 ex4 ex5 ex6 ex7   ls hl
      refine lv_iload hx hb dX1_bestFirst_18 (lv_at hl 4 rfl) ?_
      refine lv_aload_n hx hb dX1_bestFirst_20 rfl (lv_at hl 5 rfl) ?_
      refine va_get (D := (dC, dI)) (ci := 1) (v := .int (nI n)) (C := RX1) (T := TX1) (N := 7) hx hb hts (by decide +kernel) hown hK hP 0 rfl rfl 4 (by decide) (hts (.fieldLink RX1 31 "CapacityRound$Queue" "count" "I") (by decide +kernel)) (fun _ h9 => h9) rfl dX1_bestFirst_21 ?_
      refine lv_icmp_ge (tgt := 99) hx hb dX1_bestFirst_24 (by decide) (fun c_24 => ?_) (fun c_24 => ?_)
      · have hkn : k = n := q_ex ex7 hk_k (by omega) c_24
        refine lv_iload hx hb dX1_bestFirst_99 (lv_at hl 3 rfl) ?_
        exact W.iret (v := x6) hx hb hr (fun tS htS hWS => ⟨congrArg (fun z => Outcome.returned (some (Value.int z))) (ex6.trans (by rw [hkn]) : x6 = nI (z_ag (z_wf fW b fA fE o) n).1), htS⟩) (fun _ h => nomatch h) dX1_bestFirst_101
      · have hkn : k < n := q_lt ex7 hk_k (by omega) c_24
        obtain ⟨ho, ho12⟩ := hO k hkn
        refine lv_aload_n hx hb dX1_bestFirst_27 rfl (lv_at hl 5 rfl) ?_
        refine va_get (D := (dC, dI)) (ci := 1) (v := .ref aO) (C := RX1) (T := TX1) (N := 7) hx hb hts (by decide +kernel) hown hK hP 0 rfl rfl 3 (by decide) (hts (.fieldLink RX1 21 "CapacityRound$Queue" "order" "[I") (by decide +kernel)) (fun _ h9 => h9) rfl dX1_bestFirst_28 ?_
        refine lv_iload hx hb dX1_bestFirst_31 (lv_at hl 4 rfl) ?_
        refine q_iald hx hb hK hP 4 0 rfl rfl k (ex7) (by omega) (by decide) dX1_bestFirst_33 ?_
        refine lv_topi (fun v_1 ev_1 => ?_)
        obtain rfl : v_1 = nI (o k) := ev_1.trans (ho)
        refine lv_istore (lv' := [(8, .int (nI (o k))), (3, .int x3), (4, .int x4), (5, .int x5), (6, .int x6), (7, .int x7), (0, .ref aq), (1, .ref ad)]) hx hb dX1_bestFirst_34 hl (by decide) rfl (fun ls hl => ?_)
        refine lv_iload_n hx hb dX1_bestFirst_36 rfl (lv_at hl 1 rfl) ?_
        refine lv_aload_n hx hb dX1_bestFirst_37 rfl (lv_at hl 6 rfl) ?_
        refine va_get (D := (dC, dI)) (ci := 1) (v := .ref aA) (C := RX1) (T := TX1) (N := 7) hx hb hts (by decide +kernel) hown hK hP 0 rfl rfl 1 (by decide) (hts (.fieldLink RX1 15 "CapacityRound$Queue" "amounts" "[I") (by decide +kernel)) (fun _ h9 => h9) rfl dX1_bestFirst_38 ?_
        refine lv_iload hx hb dX1_bestFirst_41 (lv_at hl 0 rfl) ?_
        refine q_iald hx hb hK hP 2 0 rfl rfl (o k) (rfl) (ho12) (by decide) dX1_bestFirst_43 ?_
        refine lv_iadd hx hb dX1_bestFirst_44 ?_
        refine lv_istore_n (lv' := [(3, .int (x3 + (fA (o k)))), (8, .int (nI (o k))), (4, .int x4), (5, .int x5), (6, .int x6), (7, .int x7), (0, .ref aq), (1, .ref ad)]) hx hb dX1_bestFirst_45 rfl hl (by decide) rfl (fun ls hl => ?_)
        refine lv_iload hx hb dX1_bestFirst_46 (lv_at hl 2 rfl) ?_
        refine lv_aload_n hx hb dX1_bestFirst_48 rfl (lv_at hl 6 rfl) ?_
        refine va_get (D := (dC, dI)) (ci := 1) (v := .ref aA) (C := RX1) (T := TX1) (N := 7) hx hb hts (by decide +kernel) hown hK hP 0 rfl rfl 1 (by decide) (hts (.fieldLink RX1 15 "CapacityRound$Queue" "amounts" "[I") (by decide +kernel)) (fun _ h9 => h9) rfl dX1_bestFirst_49 ?_
        refine lv_iload hx hb dX1_bestFirst_52 (lv_at hl 1 rfl) ?_
        refine q_iald hx hb hK hP 2 0 rfl rfl (o k) (rfl) (ho12) (by decide) dX1_bestFirst_54 ?_
        refine lv_aload_n hx hb dX1_bestFirst_55 rfl (lv_at hl 6 rfl) ?_
        refine va_get (D := (dC, dI)) (ci := 1) (v := .ref aE) (C := RX1) (T := TX1) (N := 7) hx hb hts (by decide +kernel) hown hK hP 0 rfl rfl 5 (by decide) (hts (.fieldLink RX1 24 "CapacityRound$Queue" "exits" "[I") (by decide +kernel)) (fun _ h9 => h9) rfl dX1_bestFirst_56 ?_
        refine lv_iload hx hb dX1_bestFirst_59 (lv_at hl 1 rfl) ?_
        refine q_iald hx hb hK hP 5 0 rfl rfl (o k) (rfl) (ho12) (by decide) dX1_bestFirst_61 ?_
        refine lv_imul hx hb dX1_bestFirst_62 ?_
        refine lv_iadd hx hb dX1_bestFirst_63 ?_
        refine lv_istore (lv' := [(4, .int (x4 + ((fA (o k)) * (fE (o k))))), (3, .int (x3 + (fA (o k)))), (8, .int (nI (o k))), (5, .int x5), (6, .int x6), (7, .int x7), (0, .ref aq), (1, .ref ad)]) hx hb dX1_bestFirst_64 hl (by decide) rfl (fun ls hl => ?_)
        refine lv_aload_n hx hb dX1_bestFirst_66 rfl (lv_at hl 7 rfl) ?_
        refine lv_iload_n hx hb dX1_bestFirst_67 rfl (lv_at hl 1 rfl) ?_
        refine q_rV (wc := [(ad, .inr (0, [.ref aw, .int lo, .int up, .int tp])), (aw, .inl (cI, 1002, .inl fW))]) (r := (fW (z_wi (x3 + fA (o k))))) (As := [.int (x3 + (fA (o k)))]) (rest := []) ⟨hx, hb, hml, hown, hts⟩ (c_X0_worthOf l dC dI cI cZ cJ ad aw lo up tp fW (x3 + fA (o k))) (cwV 1 hts gX1_bestFirst_X0_worthOf rfl rfl rfl (by decide +kernel) ⟨Nat.le_of_ble_eq_true rfl, Nat.le_of_ble_eq_true rfl⟩) hK (hP.sub [7, 8] rfl) 0 0 rfl rfl rfl rfl hl.1 rfl (Nat.le_of_ble_eq_true rfl) dX1_bestFirst_68 ⟨Nat.zero_le _, Nat.zero_le _⟩ ?_
        refine lv_iload hx hb dX1_bestFirst_71 (lv_at hl 0 rfl) ?_
        refine lv_isub hx hb dX1_bestFirst_73 ?_
        refine lv_istore (lv' := [(9, .int ((fW (z_wi (x3 + fA (o k)))) - (x4 + ((fA (o k)) * (fE (o k)))))), (4, .int (x4 + ((fA (o k)) * (fE (o k))))), (3, .int (x3 + (fA (o k)))), (8, .int (nI (o k))), (5, .int x5), (6, .int x6), (7, .int x7), (0, .ref aq), (1, .ref ad)]) hx hb dX1_bestFirst_74 hl (by decide) rfl (fun ls hl => ?_)
        refine lv_iload hx hb dX1_bestFirst_76 (lv_at hl 0 rfl) ?_
        refine lv_iload hx hb dX1_bestFirst_78 (lv_at hl 4 rfl) ?_
        refine lv_icmp_le (tgt := 93) hx hb dX1_bestFirst_80 (by decide) (fun c_80 => ?_) (fun c_80 => ?_)
        · have hw : fW (z_wi (x3 + fA (o k))) - (x4 + fA (o k) * fE (o k)) = (z_wf fW b fA fE o) (k + 1) := by rw [ex3, ex4]; rfl
          have hg := z_agn (wf := (z_wf fW b fA fE o)) (k := k) (by rw [← hw, ← ex5]; exact z_nlt.mpr c_80)
          have h5 : x5 = (z_ag (z_wf fW b fA fE o) (k + 1)).2 := by rw [hg]; exact ex5
          have h6 : x6 = nI (z_ag (z_wf fW b fA fE o) (k + 1)).1 := by rw [hg]; exact ex6
          refine lv_iinc (v := x7 + 1) (lv' := [(7, .int (x7 + 1)), (9, .int ((fW (z_wi (x3 + fA (o k)))) - (x4 + ((fA (o k)) * (fE (o k)))))), (4, .int (x4 + ((fA (o k)) * (fE (o k))))), (3, .int (x3 + (fA (o k)))), (8, .int (nI (o k))), (5, .int x5), (6, .int x6), (0, .ref aq), (1, .ref ad)]) hx hb dX1_bestFirst_93 hl (k := 6) rfl rfl (by decide) rfl (fun ls hl => ?_)
          refine lv_goto (tgt := 18) hx hb dX1_bestFirst_96 (by decide) ?_
          exact ih_k (k + 1) (x3 + (fA (o k))) (x4 + ((fA (o k)) * (fE (o k)))) x5 x6 (x7 + 1) (by omega) (by omega) (by rw [ex3]; rfl) (by rw [ex4]; rfl) (h5) (h6) (q_s1 ex7)   ls (lv_sub hl [3, 2, 5, 6, 0, 7, 8] rfl)
        · have hw : fW (z_wi (x3 + fA (o k))) - (x4 + fA (o k) * fE (o k)) = (z_wf fW b fA fE o) (k + 1) := by rw [ex3, ex4]; rfl
          have hg := z_agy (wf := (z_wf fW b fA fE o)) (k := k) (by rw [← hw, ← ex5]; exact z_nle.mp c_80)
          have h5 : fW (z_wi (x3 + fA (o k))) - (x4 + fA (o k) * fE (o k)) = (z_ag (z_wf fW b fA fE o) (k + 1)).2 := by rw [hg]; exact hw
          have h6 : x7 + 1 = nI (z_ag (z_wf fW b fA fE o) (k + 1)).1 := by rw [hg]; exact q_s1 ex7
          refine lv_iload hx hb dX1_bestFirst_83 (lv_at hl 0 rfl) ?_
          refine lv_istore (lv' := [(5, .int ((fW (z_wi (x3 + fA (o k)))) - (x4 + ((fA (o k)) * (fE (o k)))))), (9, .int ((fW (z_wi (x3 + fA (o k)))) - (x4 + ((fA (o k)) * (fE (o k)))))), (4, .int (x4 + ((fA (o k)) * (fE (o k))))), (3, .int (x3 + (fA (o k)))), (8, .int (nI (o k))), (6, .int x6), (7, .int x7), (0, .ref aq), (1, .ref ad)]) hx hb dX1_bestFirst_85 hl (by decide) rfl (fun ls hl => ?_)
          refine lv_iload hx hb dX1_bestFirst_87 (lv_at hl 6 rfl) ?_
          refine lv_iconst (v := 1) hx hb dX1_bestFirst_89 (by decide) ?_
          refine lv_iadd hx hb dX1_bestFirst_90 ?_
          refine lv_istore (lv' := [(6, .int (x7 + 1)), (5, .int ((fW (z_wi (x3 + fA (o k)))) - (x4 + ((fA (o k)) * (fE (o k)))))), (9, .int ((fW (z_wi (x3 + fA (o k)))) - (x4 + ((fA (o k)) * (fE (o k)))))), (4, .int (x4 + ((fA (o k)) * (fE (o k))))), (3, .int (x3 + (fA (o k)))), (8, .int (nI (o k))), (7, .int x7), (0, .ref aq), (1, .ref ad)]) hx hb dX1_bestFirst_91 hl (by decide) rfl (fun ls hl => ?_)
          refine lv_iinc (v := x7 + 1) (lv' := [(7, .int (x7 + 1)), (6, .int (x7 + 1)), (5, .int ((fW (z_wi (x3 + fA (o k)))) - (x4 + ((fA (o k)) * (fE (o k)))))), (9, .int ((fW (z_wi (x3 + fA (o k)))) - (x4 + ((fA (o k)) * (fE (o k)))))), (4, .int (x4 + ((fA (o k)) * (fE (o k))))), (3, .int (x3 + (fA (o k)))), (8, .int (nI (o k))), (0, .ref aq), (1, .ref ad)]) hx hb dX1_bestFirst_93 hl (k := 6) rfl rfl (by decide) rfl (fun ls hl => ?_)
          refine lv_goto (tgt := 18) hx hb dX1_bestFirst_96 (by decide) ?_
          exact ih_k (k + 1) (x3 + (fA (o k))) (x4 + ((fA (o k)) * (fE (o k)))) ((fW (z_wi (x3 + fA (o k)))) - (x4 + ((fA (o k)) * (fE (o k))))) (x7 + 1) (x7 + 1) (by omega) (by omega) (by rw [ex3]; rfl) (by rw [ex4]; rfl) (h5) (h6) (q_s1 ex7)   ls (lv_sub hl [5, 4, 2, 1, 0, 7, 8] rfl)
  exact lp_18 (n + 1) 0 b 0 (fW (z_wi b)) 0 0 (by omega) (by omega) (rfl) (rfl) (by simp [z_ag, z_wf, z_am, z_co]) (rfl) (rfl)   ls (lv_sub hl [4, 3, 2, 1, 0, 5, 6] rfl)
end
section
set_option maxHeartbeats 4000000 in
set_option maxRecDepth 100000 in
theorem c_X0_change (l : Launch) (dC : Nat → ClassId) (dI : Nat → Nat → Nat) (cI cZ cJ : ClassId) (ad aw : Nat) (lo up tp : Int32) (fW : Nat → Int32) (l2 u2 t2 : Int32) (h0 : fW 0 = 0) : Met l yX0_change wsX0_change ({ frames := 1, cells := 0, slots := 0, locals := 21 }) (va_Pc [.ref ad, .int l2, .int u2, .int t2] (q_M (dC, dI) vwCl (q_T cI cZ cJ) [(ad, .inr (0, [.ref aw, .int lo, .int up, .int tp])), (aw, .inl (cI, 1002, .inl fW))])) (q_W none (dC, dI) vwCl [(ad, .inr (0, [.ref aw, .int l2, .int u2, .int t2])), (aw, .inl (cI, 1002, .inl (z_wa l2 u2 t2 fW 1001)))] (q_B [(ad, .inr (0, [.ref aw, .int lo, .int up, .int tp])), (aw, .inl (cI, 1002, .inl fW))])) 0 0 (q_B [(ad, .inr (0, [.ref aw, .int lo, .int up, .int tp])), (aw, .inl (cI, 1002, .inl fW))]) := by
  refine Met.ofW (cc := cX0_change) (maxL := 5) (ret := none) (by decide) rfl ?_
  intro p e s m args below meth c s₁ B hml hv
  obtain ⟨rfl, hP, hK, hD0⟩ := hv
  have hx := B.exec
  have hb := B.bytes
  have hr := B.returns
  have hts := atoms_spec (ws := wsX0_change) B.pre
  have hown : s.vm.findClass RX0 = some m.cls := findClass_of_methodNamed B.named
  have hlocks := B.notSynchronized
  have hD := q_Bself hD0
  generalize hAe : q_B [(ad, .inr (0, [.ref aw, .int lo, .int up, .int tp])), (aw, .inl (cI, 1002, .inl fW))] = A at hD ⊢
  have hS : va_S A s.heap s.heap [] := va_S.rf
  have hP : va_P (dC, dI) vwCl [(ad, .inr (0, [.ref aw, .int lo, .int up, .int tp])), (aw, .inl (cI, 1002, .inl fW))] s.heap := hP
  have hl := lv_entry ([.ref ad, .int l2, .int u2, .int t2]) (n := 5) (Nat.le_of_ble_eq_true rfl)
  rw [lg_entry_eq]
  generalize (lg_sl ([.ref ad, .int l2, .int u2, .int t2]) ++ List.replicate (5 - (lg_sl ([.ref ad, .int l2, .int u2, .int t2])).length) Slot.unset).toArray = ls at hl ⊢
  have hl : lv_has ls 5 [(0, .ref ad), (1, .int l2), (2, .int u2), (3, .int t2)] := hl
  refine lv_aload_n hx hb dX0_change_0 rfl (lv_at hl 0 rfl) ?_
  refine lv_iload_n hx hb dX0_change_1 rfl (lv_at hl 1 rfl) ?_
  refine va_put (D := (dC, dI)) (ci := 0) (v := .int l2) (ty := .int) (C := RX0) (T := TX0) (N := 4) hx hb hts (by decide +kernel) tyX0 tyX0_ok nmX0 hown hK hP hD hS 0 rfl rfl 1 (by decide) (hts (.fieldLink RX0 17 "CapacityRound$Demand" "lowerAmount" "I") (by decide +kernel)) (fun _ h9 => h9) rfl (by decide +kernel) rfl rfl (Nat.le_of_ble_eq_true rfl) dX0_change_2 (fun H locs hP hD hS => ?_)
  have hP : va_P (dC, dI) vwCl [(ad, .inr (0, [.ref aw, .int l2, .int up, .int tp])), (aw, .inl (cI, 1002, .inl fW))] H := hP
  have hD : va_D A [(ad, .inr (0, [.ref aw, .int l2, .int up, .int tp])), (aw, .inl (cI, 1002, .inl fW))] := hD
  refine lv_aload_n hx hb dX0_change_5 rfl (lv_at hl 0 rfl) ?_
  refine lv_iload_n hx hb dX0_change_6 rfl (lv_at hl 2 rfl) ?_
  refine va_put (D := (dC, dI)) (ci := 0) (v := .int u2) (ty := .int) (C := RX0) (T := TX0) (N := 4) hx hb hts (by decide +kernel) tyX0 tyX0_ok nmX0 hown hK hP hD hS 0 rfl rfl 2 (by decide) (hts (.fieldLink RX0 21 "CapacityRound$Demand" "upperAmount" "I") (by decide +kernel)) (fun _ h9 => h9) rfl (by decide +kernel) rfl rfl (Nat.le_of_ble_eq_true rfl) dX0_change_7 (fun H locs hP hD hS => ?_)
  have hP : va_P (dC, dI) vwCl [(ad, .inr (0, [.ref aw, .int l2, .int u2, .int tp])), (aw, .inl (cI, 1002, .inl fW))] H := hP
  have hD : va_D A [(ad, .inr (0, [.ref aw, .int l2, .int u2, .int tp])), (aw, .inl (cI, 1002, .inl fW))] := hD
  refine lv_aload_n hx hb dX0_change_10 rfl (lv_at hl 0 rfl) ?_
  refine lv_iload_n hx hb dX0_change_11 rfl (lv_at hl 3 rfl) ?_
  refine va_put (D := (dC, dI)) (ci := 0) (v := .int t2) (ty := .int) (C := RX0) (T := TX0) (N := 4) hx hb hts (by decide +kernel) tyX0 tyX0_ok nmX0 hown hK hP hD hS 0 rfl rfl 3 (by decide) (hts (.fieldLink RX0 24 "CapacityRound$Demand" "topPrice" "I") (by decide +kernel)) (fun _ h9 => h9) rfl (by decide +kernel) rfl rfl (Nat.le_of_ble_eq_true rfl) dX0_change_12 (fun H locs hP hD hS => ?_)
  have hP : va_P (dC, dI) vwCl [(ad, .inr (0, [.ref aw, .int l2, .int u2, .int t2])), (aw, .inl (cI, 1002, .inl fW))] H := hP
  have hD : va_D A [(ad, .inr (0, [.ref aw, .int l2, .int u2, .int t2])), (aw, .inl (cI, 1002, .inl fW))] := hD
  refine lv_iconst (v := 1) hx hb dX0_change_15 (by decide) ?_
  refine lv_istore (lv' := [(4, .int 1), (0, .ref ad), (1, .int l2), (2, .int u2), (3, .int t2)]) hx hb dX0_change_16 hl (by decide) rfl (fun ls hl => ?_)
  have lp_18 : ∀ (wk k : Nat) (x4 : Int32), k ≤ 1001 → 1001 < k + wk → x4 = nI (k + 1) → ∀ (H : Heap) (locs : List Loc), va_P (dC, dI) vwCl [(ad, .inr (0, [.ref aw, .int l2, .int u2, .int t2])), (aw, .inl (cI, 1002, .inl (z_wa l2 u2 t2 fW k)))] H → va_D A [(ad, .inr (0, [.ref aw, .int l2, .int u2, .int t2])), (aw, .inl (cI, 1002, .inl (z_wa l2 u2 t2 fW k)))] → va_S A s.heap H locs → ∀ (ls : Array Slot), lv_has ls 5 [(4, .int x4), (0, .ref ad), (1, .int l2), (2, .int u2), (3, .int t2)] → W p l e (headSpec wsX0_change ({ frames := 1, cells := 0, slots := 0, locals := 21 })).room s m [.ref ad, .int l2, .int u2, .int t2].toArray below meth c H locs 0 0 (MQ below (q_W none (dC, dI) vwCl [(ad, .inr (0, [.ref aw, .int l2, .int u2, .int t2])), (aw, .inl (cI, 1002, .inl (z_wa l2 u2 t2 fW 1001)))] A) [.ref ad, .int l2, .int u2, .int t2].toArray s 0 0 A) (F0 m 18 ls []) := by
    intro wk
    induction wk with
    | zero => intro k x4 hk_k hw_k; exact absurd hw_k (by omega)
    | succ wk ih_k =>
      intro k x4 hk_k hw_k ex4  H locs hP hD hS ls hl
      refine lv_iload hx hb dX0_change_18 (lv_at hl 0 rfl) ?_
      refine lv_sipush (v := 1001) hx hb dX0_change_20 (by decide) ?_
      refine lv_icmp_gt (tgt := 55) hx hb dX0_change_23 (by decide) (fun c_23 => ?_) (fun c_23 => ?_)
      · have hkn : k = 1001 := by have h9 := (q_cgt (y := 1001) (n := 1001) rfl ex4 (by omega) (by omega)).mp c_23; omega
        have hP : va_P (dC, dI) vwCl [(ad, .inr (0, [.ref aw, .int l2, .int u2, .int t2])), (aw, .inl (cI, 1002, .inl (z_wa l2 u2 t2 fW 1001)))] H := (by rw [hkn] at hP; exact hP)
        exact W.vret hx hb hr (fun tS htS hWS => ⟨rfl, by rw [htS]; exact hP, hS.F htS⟩) hS.2.2 dX0_change_55
      · have hkn : k < 1001 := by have h9 := (not_congr (q_cgt (y := 1001) (n := 1001) rfl ex4 (by omega) (by omega))).mp c_23; omega
        refine lv_aload_n hx hb dX0_change_26 rfl (lv_at hl 1 rfl) ?_
        refine va_get (D := (dC, dI)) (ci := 0) (v := .ref aw) (C := RX0) (T := TX0) (N := 4) hx hb hts (by decide +kernel) hown hK hP 0 rfl rfl 0 (by decide) (hts (.fieldLink RX0 9 "CapacityRound$Demand" "worths" "[I") (by decide +kernel)) (fun _ h9 => h9) rfl dX0_change_27 ?_
        refine lv_iload hx hb dX0_change_30 (lv_at hl 0 rfl) ?_
        refine lv_aload_n hx hb dX0_change_32 rfl (lv_at hl 1 rfl) ?_
        refine va_get (D := (dC, dI)) (ci := 0) (v := .ref aw) (C := RX0) (T := TX0) (N := 4) hx hb hts (by decide +kernel) hown hK hP 0 rfl rfl 0 (by decide) (hts (.fieldLink RX0 9 "CapacityRound$Demand" "worths" "[I") (by decide +kernel)) (fun _ h9 => h9) rfl dX0_change_33 ?_
        refine lv_iload hx hb dX0_change_36 (lv_at hl 0 rfl) ?_
        refine lv_iconst (v := 1) hx hb dX0_change_38 (by decide) ?_
        refine lv_isub hx hb dX0_change_39 ?_
        refine q_iald hx hb hK hP 1 0 rfl rfl k (by rw [ex4]; exact nI_pred k) (by omega) (by decide) dX0_change_40 ?_
        refine lv_aload_n hx hb dX0_change_41 rfl (lv_at hl 1 rfl) ?_
        refine lv_iload hx hb dX0_change_42 (lv_at hl 0 rfl) ?_
        refine q_rV (wc := [(ad, .inr (0, [.ref aw, .int l2, .int u2, .int t2])), (aw, .inl (cI, 1002, .inl (z_wa l2 u2 t2 fW k)))]) (r := (z_v l2 u2 t2 x4)) (As := [.int x4]) (rest := [.int ((z_wa l2 u2 t2 fW k) k), .int x4, .ref aw]) ⟨hx, hb, hml, hown, hts⟩ (c_X0_valueOf l dC dI cI cZ cJ ad aw l2 u2 t2 (z_wa l2 u2 t2 fW k) x4) (cwV 1 hts gX0_change_X0_valueOf rfl rfl rfl (by decide +kernel) ⟨Nat.le_of_ble_eq_true rfl, Nat.le_of_ble_eq_true rfl⟩) hK (hP.sub [0, 1] rfl) 0 0 rfl rfl rfl rfl hl.1 rfl (Nat.le_of_ble_eq_true rfl) dX0_change_44 ⟨Nat.zero_le _, Nat.zero_le _⟩ ?_
        refine lv_iadd hx hb dX0_change_47 ?_
        refine q_iast hx hb hK hP hD hS 1 0 rfl rfl (k + 1) (ex4) (by omega) (by decide) dX0_change_48 (fun H locs hP hD hS => ?_)
        have hP : va_P (dC, dI) vwCl [(ad, .inr (0, [.ref aw, .int l2, .int u2, .int t2])), (aw, .inl (cI, 1002, .inl (upd (z_wa l2 u2 t2 fW k) (k + 1) (((z_wa l2 u2 t2 fW k) k) + (z_v l2 u2 t2 x4)))))] H := hP
        have hD : va_D A [(ad, .inr (0, [.ref aw, .int l2, .int u2, .int t2])), (aw, .inl (cI, 1002, .inl (upd (z_wa l2 u2 t2 fW k) (k + 1) (((z_wa l2 u2 t2 fW k) k) + (z_v l2 u2 t2 x4)))))] := hD
        refine lv_iinc (v := x4 + 1) (lv' := [(4, .int (x4 + 1)), (0, .ref ad), (1, .int l2), (2, .int u2), (3, .int t2)]) hx hb dX0_change_49 hl (k := 0) rfl rfl (by decide) rfl (fun ls hl => ?_)
        refine lv_goto (tgt := 18) hx hb dX0_change_52 (by decide) ?_
        exact ih_k (k + 1) (x4 + 1) (by omega) (by omega) (q_s1 ex4)  _ _ (by rw [← z_was h0, ← ex4]; exact hP) (by rw [← z_was h0, ← ex4]; exact hD) hS ls (lv_sub hl [0, 1, 2, 3, 4] rfl)
  exact lp_18 (1001 + 1) 0 1 (by omega) (by omega) (rfl)  _ _ (by rw [z_wa0]; exact hP) (by rw [z_wa0]; exact hD) hS ls (lv_sub hl [0, 1, 2, 3, 4] rfl)
set_option maxHeartbeats 4000000 in
set_option maxRecDepth 100000 in
theorem c_X1_isFull (l : Launch) (dC : Nat → ClassId) (dI : Nat → Nat → Nat) (cI cZ cJ : ClassId) (aq aP aA aT aO aE aI n : Nat) (fP fA fT fO fE fI : Nat → Int32) (hn : n ≤ 12) : Met l yX1_isFull wsX1_isFull ({ frames := 0, cells := 0, slots := 0, locals := 0 }) (va_Pc [.ref aq] (q_R (dC, dI) vwCl (q_T cI cZ cJ) [(aq, .inr (1, [.ref aP, .ref aA, .ref aT, .ref aO, .int (nI n), .ref aE, .ref aI])), (aP, .inl (cI, 12, .inl fP)), (aA, .inl (cI, 12, .inl fA)), (aT, .inl (cI, 12, .inl fT)), (aO, .inl (cI, 12, .inl fO)), (aE, .inl (cI, 12, .inl fE)), (aI, .inl (cZ, 12, .inl fI))])) (QcRead (z_b (decide (12 ≤ n)))) 0 0 (fun _ => False) := by
  refine Met.ofW (cc := cX1_isFull) (maxL := 1) (ret := (some .boolean)) (by decide) rfl ?_
  intro p e s m args below meth c s₁ B hml hv
  obtain ⟨rfl, hP, hK⟩ := hv
  have hx := B.exec
  have hb := B.bytes
  have hr := B.returns
  have hts := atoms_spec (ws := wsX1_isFull) B.pre
  have hown : s.vm.findClass RX1 = some m.cls := findClass_of_methodNamed B.named
  have hlocks := B.notSynchronized
  have hP : va_P (dC, dI) vwCl [(aq, .inr (1, [.ref aP, .ref aA, .ref aT, .ref aO, .int (nI n), .ref aE, .ref aI])), (aP, .inl (cI, 12, .inl fP)), (aA, .inl (cI, 12, .inl fA)), (aT, .inl (cI, 12, .inl fT)), (aO, .inl (cI, 12, .inl fO)), (aE, .inl (cI, 12, .inl fE)), (aI, .inl (cZ, 12, .inl fI))] s.heap := hP
  have hl := lv_entry ([.ref aq]) (n := 1) (Nat.le_of_ble_eq_true rfl)
  rw [lg_entry_eq]
  generalize (lg_sl ([.ref aq]) ++ List.replicate (1 - (lg_sl ([.ref aq])).length) Slot.unset).toArray = ls at hl ⊢
  have hl : lv_has ls 1 [(0, .ref aq)] := hl
  refine lv_aload_n hx hb dX1_isFull_0 rfl (lv_at hl 0 rfl) ?_
  refine va_get (D := (dC, dI)) (ci := 1) (v := .int (nI n)) (C := RX1) (T := TX1) (N := 7) hx hb hts (by decide +kernel) hown hK hP 0 rfl rfl 4 (by decide) (hts (.fieldLink RX1 31 "CapacityRound$Queue" "count" "I") (by decide +kernel)) (fun _ h9 => h9) rfl dX1_isFull_1 ?_
  refine lv_bipush (v := 12) hx hb dX1_isFull_4 (by decide) ?_
  refine lv_icmp_lt (tgt := 13) hx hb dX1_isFull_6 (by decide) (fun c_6 => ?_) (fun c_6 => ?_)
  · have hz : decide (12 ≤ n) = false := decide_eq_false (by have h9 := (q_cgt (y := nI n) (x := 12) (k := 12) rfl rfl (by omega) (by omega)).mp c_6; omega)
    refine lv_iconst (v := 0) hx hb dX1_isFull_13 (by decide) ?_
    exact W.zret (v := 0) (ty := .boolean) hx hb hr (rfl) (fun tS htS hWS => ⟨congrArg (fun z => Outcome.returned (some (Value.int z))) (by rw [hz]; rfl : 0 = z_b (decide (12 ≤ n))), htS⟩) (fun _ h => nomatch h) dX1_isFull_14
  · have hz : decide (12 ≤ n) = true := decide_eq_true (by have h9 := (not_congr (q_cgt (y := nI n) (x := 12) (k := 12) rfl rfl (by omega) (by omega))).mp c_6; omega)
    refine lv_iconst (v := 1) hx hb dX1_isFull_9 (by decide) ?_
    refine lv_goto (tgt := 14) hx hb dX1_isFull_10 (by decide) ?_
    exact W.zret (v := 1) (ty := .boolean) hx hb hr (rfl) (fun tS htS hWS => ⟨congrArg (fun z => Outcome.returned (some (Value.int z))) (by rw [hz]; rfl : 1 = z_b (decide (12 ≤ n))), htS⟩) (fun _ h => nomatch h) dX1_isFull_14
set_option maxHeartbeats 4000000 in
set_option maxRecDepth 100000 in
theorem c_X1_has (l : Launch) (dC : Nat → ClassId) (dI : Nat → Nat → Nat) (cI cZ cJ : ClassId) (aq aP aA aT aO aE aI n : Nat) (fP fA fT fO fE fI : Nat → Int32) (w : Int32)  : Met l yX1_has wsX1_has ({ frames := 0, cells := 0, slots := 0, locals := 0 }) (va_Pc [.ref aq, .int w] (q_R (dC, dI) vwCl (q_T cI cZ cJ) [(aq, .inr (1, [.ref aP, .ref aA, .ref aT, .ref aO, .int (nI n), .ref aE, .ref aI])), (aP, .inl (cI, 12, .inl fP)), (aA, .inl (cI, 12, .inl fA)), (aT, .inl (cI, 12, .inl fT)), (aO, .inl (cI, 12, .inl fO)), (aE, .inl (cI, 12, .inl fE)), (aI, .inl (cZ, 12, .inl fI))])) (QcRead (z_b (decide (0 ≤ w) && decide (w < nI n)))) 0 0 (fun _ => False) := by
  refine Met.ofW (cc := cX1_has) (maxL := 2) (ret := (some .boolean)) (by decide) rfl ?_
  intro p e s m args below meth c s₁ B hml hv
  obtain ⟨rfl, hP, hK⟩ := hv
  have hx := B.exec
  have hb := B.bytes
  have hr := B.returns
  have hts := atoms_spec (ws := wsX1_has) B.pre
  have hown : s.vm.findClass RX1 = some m.cls := findClass_of_methodNamed B.named
  have hlocks := B.notSynchronized
  have hP : va_P (dC, dI) vwCl [(aq, .inr (1, [.ref aP, .ref aA, .ref aT, .ref aO, .int (nI n), .ref aE, .ref aI])), (aP, .inl (cI, 12, .inl fP)), (aA, .inl (cI, 12, .inl fA)), (aT, .inl (cI, 12, .inl fT)), (aO, .inl (cI, 12, .inl fO)), (aE, .inl (cI, 12, .inl fE)), (aI, .inl (cZ, 12, .inl fI))] s.heap := hP
  have hl := lv_entry ([.ref aq, .int w]) (n := 2) (Nat.le_of_ble_eq_true rfl)
  rw [lg_entry_eq]
  generalize (lg_sl ([.ref aq, .int w]) ++ List.replicate (2 - (lg_sl ([.ref aq, .int w])).length) Slot.unset).toArray = ls at hl ⊢
  have hl : lv_has ls 2 [(0, .ref aq), (1, .int w)] := hl
  refine lv_iload_n hx hb dX1_has_0 rfl (lv_at hl 1 rfl) ?_
  refine lv_if_lt (tgt := 16) hx hb dX1_has_1 (by decide) (fun c_1 => ?_) (fun c_1 => ?_)
  · have hz : (decide (0 ≤ w) && decide (w < nI n)) = false := by rw [decide_eq_false (z_nle.mpr c_1), Bool.false_and]
    refine lv_iconst (v := 0) hx hb dX1_has_16 (by decide) ?_
    exact W.zret (v := 0) (ty := .boolean) hx hb hr (rfl) (fun tS htS hWS => ⟨congrArg (fun z => Outcome.returned (some (Value.int z))) (by rw [hz]; rfl : 0 = z_b (decide (0 ≤ w) && decide (w < nI n))), htS⟩) (fun _ h => nomatch h) dX1_has_17
  · have h1 : 0 ≤ w := z_nlt.mp c_1
    refine lv_iload_n hx hb dX1_has_4 rfl (lv_at hl 1 rfl) ?_
    refine lv_aload_n hx hb dX1_has_5 rfl (lv_at hl 0 rfl) ?_
    refine va_get (D := (dC, dI)) (ci := 1) (v := .int (nI n)) (C := RX1) (T := TX1) (N := 7) hx hb hts (by decide +kernel) hown hK hP 0 rfl rfl 4 (by decide) (hts (.fieldLink RX1 31 "CapacityRound$Queue" "count" "I") (by decide +kernel)) (fun _ h9 => h9) rfl dX1_has_6 ?_
    refine lv_icmp_ge (tgt := 16) hx hb dX1_has_9 (by decide) (fun c_9 => ?_) (fun c_9 => ?_)
    · have hz : (decide (0 ≤ w) && decide (w < nI n)) = false := by rw [decide_eq_false (z_nlt.mpr c_9), Bool.and_false]
      refine lv_iconst (v := 0) hx hb dX1_has_16 (by decide) ?_
      exact W.zret (v := 0) (ty := .boolean) hx hb hr (rfl) (fun tS htS hWS => ⟨congrArg (fun z => Outcome.returned (some (Value.int z))) (by rw [hz]; rfl : 0 = z_b (decide (0 ≤ w) && decide (w < nI n))), htS⟩) (fun _ h => nomatch h) dX1_has_17
    · have hz : (decide (0 ≤ w) && decide (w < nI n)) = true := by rw [decide_eq_true h1, decide_eq_true (z_nle.mp c_9)]; rfl
      refine lv_iconst (v := 1) hx hb dX1_has_12 (by decide) ?_
      refine lv_goto (tgt := 17) hx hb dX1_has_13 (by decide) ?_
      exact W.zret (v := 1) (ty := .boolean) hx hb hr (rfl) (fun tS htS hWS => ⟨congrArg (fun z => Outcome.returned (some (Value.int z))) (by rw [hz]; rfl : 1 = z_b (decide (0 ≤ w) && decide (w < nI n))), htS⟩) (fun _ h => nomatch h) dX1_has_17
set_option maxHeartbeats 4000000 in
set_option maxRecDepth 100000 in
theorem c_X1_clear (l : Launch) (dC : Nat → ClassId) (dI : Nat → Nat → Nat) (cI cZ cJ : ClassId) (aq aP aA aT aO aE aI n : Nat) (fP fA fT fO fE fI : Nat → Int32)  : Met l yX1_clear wsX1_clear ({ frames := 0, cells := 0, slots := 0, locals := 0 }) (va_Pc [.ref aq] (q_M (dC, dI) vwCl (q_T cI cZ cJ) [(aq, .inr (1, [.ref aP, .ref aA, .ref aT, .ref aO, .int (nI n), .ref aE, .ref aI])), (aP, .inl (cI, 12, .inl fP)), (aA, .inl (cI, 12, .inl fA)), (aT, .inl (cI, 12, .inl fT)), (aO, .inl (cI, 12, .inl fO)), (aE, .inl (cI, 12, .inl fE)), (aI, .inl (cZ, 12, .inl fI))])) (q_W none (dC, dI) vwCl [(aq, .inr (1, [.ref aP, .ref aA, .ref aT, .ref aO, .int 0, .ref aE, .ref aI])), (aP, .inl (cI, 12, .inl fP)), (aA, .inl (cI, 12, .inl fA)), (aT, .inl (cI, 12, .inl fT)), (aO, .inl (cI, 12, .inl fO)), (aE, .inl (cI, 12, .inl fE)), (aI, .inl (cZ, 12, .inl fI))] (q_B [(aq, .inr (1, [.ref aP, .ref aA, .ref aT, .ref aO, .int (nI n), .ref aE, .ref aI])), (aP, .inl (cI, 12, .inl fP)), (aA, .inl (cI, 12, .inl fA)), (aT, .inl (cI, 12, .inl fT)), (aO, .inl (cI, 12, .inl fO)), (aE, .inl (cI, 12, .inl fE)), (aI, .inl (cZ, 12, .inl fI))])) 0 0 (q_B [(aq, .inr (1, [.ref aP, .ref aA, .ref aT, .ref aO, .int (nI n), .ref aE, .ref aI])), (aP, .inl (cI, 12, .inl fP)), (aA, .inl (cI, 12, .inl fA)), (aT, .inl (cI, 12, .inl fT)), (aO, .inl (cI, 12, .inl fO)), (aE, .inl (cI, 12, .inl fE)), (aI, .inl (cZ, 12, .inl fI))]) := by
  refine Met.ofW (cc := cX1_clear) (maxL := 1) (ret := none) (by decide) rfl ?_
  intro p e s m args below meth c s₁ B hml hv
  obtain ⟨rfl, hP, hK, hD0⟩ := hv
  have hx := B.exec
  have hb := B.bytes
  have hr := B.returns
  have hts := atoms_spec (ws := wsX1_clear) B.pre
  have hown : s.vm.findClass RX1 = some m.cls := findClass_of_methodNamed B.named
  have hlocks := B.notSynchronized
  have hD := q_Bself hD0
  generalize hAe : q_B [(aq, .inr (1, [.ref aP, .ref aA, .ref aT, .ref aO, .int (nI n), .ref aE, .ref aI])), (aP, .inl (cI, 12, .inl fP)), (aA, .inl (cI, 12, .inl fA)), (aT, .inl (cI, 12, .inl fT)), (aO, .inl (cI, 12, .inl fO)), (aE, .inl (cI, 12, .inl fE)), (aI, .inl (cZ, 12, .inl fI))] = A at hD ⊢
  have hS : va_S A s.heap s.heap [] := va_S.rf
  have hP : va_P (dC, dI) vwCl [(aq, .inr (1, [.ref aP, .ref aA, .ref aT, .ref aO, .int (nI n), .ref aE, .ref aI])), (aP, .inl (cI, 12, .inl fP)), (aA, .inl (cI, 12, .inl fA)), (aT, .inl (cI, 12, .inl fT)), (aO, .inl (cI, 12, .inl fO)), (aE, .inl (cI, 12, .inl fE)), (aI, .inl (cZ, 12, .inl fI))] s.heap := hP
  have hl := lv_entry ([.ref aq]) (n := 1) (Nat.le_of_ble_eq_true rfl)
  rw [lg_entry_eq]
  generalize (lg_sl ([.ref aq]) ++ List.replicate (1 - (lg_sl ([.ref aq])).length) Slot.unset).toArray = ls at hl ⊢
  have hl : lv_has ls 1 [(0, .ref aq)] := hl
  refine lv_aload_n hx hb dX1_clear_0 rfl (lv_at hl 0 rfl) ?_
  refine lv_iconst (v := 0) hx hb dX1_clear_1 (by decide) ?_
  refine va_put (D := (dC, dI)) (ci := 1) (v := .int 0) (ty := .int) (C := RX1) (T := TX1) (N := 7) hx hb hts (by decide +kernel) tyX1 tyX1_ok nmX1 hown hK hP hD hS 0 rfl rfl 4 (by decide) (hts (.fieldLink RX1 31 "CapacityRound$Queue" "count" "I") (by decide +kernel)) (fun _ h9 => h9) rfl (by decide +kernel) rfl rfl (Nat.le_of_ble_eq_true rfl) dX1_clear_2 (fun H locs hP hD hS => ?_)
  have hP : va_P (dC, dI) vwCl [(aq, .inr (1, [.ref aP, .ref aA, .ref aT, .ref aO, .int 0, .ref aE, .ref aI])), (aP, .inl (cI, 12, .inl fP)), (aA, .inl (cI, 12, .inl fA)), (aT, .inl (cI, 12, .inl fT)), (aO, .inl (cI, 12, .inl fO)), (aE, .inl (cI, 12, .inl fE)), (aI, .inl (cZ, 12, .inl fI))] H := hP
  have hD : va_D A [(aq, .inr (1, [.ref aP, .ref aA, .ref aT, .ref aO, .int 0, .ref aE, .ref aI])), (aP, .inl (cI, 12, .inl fP)), (aA, .inl (cI, 12, .inl fA)), (aT, .inl (cI, 12, .inl fT)), (aO, .inl (cI, 12, .inl fO)), (aE, .inl (cI, 12, .inl fE)), (aI, .inl (cZ, 12, .inl fI))] := hD
  exact W.vret hx hb hr (fun tS htS hWS => ⟨rfl, by rw [htS]; exact hP, hS.F htS⟩) hS.2.2 dX1_clear_5
set_option maxHeartbeats 4000000 in
set_option maxRecDepth 100000 in
theorem c_X1_add (l : Launch) (dC : Nat → ClassId) (dI : Nat → Nat → Nat) (cI cZ cJ : ClassId) (aq aP aA aT aO aE aI n : Nat) (fP fA fT fO fE fI : Nat → Int32) (pa am ex te : Int32) (o : Nat → Nat) (hn : n < 12) (hO : ∀ k, k < n → fO k = nI (o k) ∧ o k < 12) : Met l yX1_add wsX1_add ({ frames := 0, cells := 0, slots := 0, locals := 0 }) (va_Pc [.ref aq, .int pa, .int am, .int ex, .int te] (q_M (dC, dI) vwCl (q_T cI cZ cJ) [(aq, .inr (1, [.ref aP, .ref aA, .ref aT, .ref aO, .int (nI n), .ref aE, .ref aI])), (aP, .inl (cI, 12, .inl fP)), (aA, .inl (cI, 12, .inl fA)), (aT, .inl (cI, 12, .inl fT)), (aO, .inl (cI, 12, .inl fO)), (aE, .inl (cI, 12, .inl fE)), (aI, .inl (cZ, 12, .inl fI))])) (q_W (some (.int (nI n))) (dC, dI) vwCl [(aq, .inr (1, [.ref aP, .ref aA, .ref aT, .ref aO, .int (nI n + 1), .ref aE, .ref aI])), (aP, .inl (cI, 12, .inl (upd fP n pa))), (aA, .inl (cI, 12, .inl (upd fA n am))), (aT, .inl (cI, 12, .inl (upd fT n te))), (aO, .inl (cI, 12, .inl (z_ord fO n (z_pl fE ex o n)))), (aE, .inl (cI, 12, .inl (upd fE n ex))), (aI, .inl (cZ, 12, .inl fI))] (q_B [(aq, .inr (1, [.ref aP, .ref aA, .ref aT, .ref aO, .int (nI n), .ref aE, .ref aI])), (aP, .inl (cI, 12, .inl fP)), (aA, .inl (cI, 12, .inl fA)), (aT, .inl (cI, 12, .inl fT)), (aO, .inl (cI, 12, .inl fO)), (aE, .inl (cI, 12, .inl fE)), (aI, .inl (cZ, 12, .inl fI))])) 0 0 (q_B [(aq, .inr (1, [.ref aP, .ref aA, .ref aT, .ref aO, .int (nI n), .ref aE, .ref aI])), (aP, .inl (cI, 12, .inl fP)), (aA, .inl (cI, 12, .inl fA)), (aT, .inl (cI, 12, .inl fT)), (aO, .inl (cI, 12, .inl fO)), (aE, .inl (cI, 12, .inl fE)), (aI, .inl (cZ, 12, .inl fI))]) := by
  refine Met.ofW (cc := cX1_add) (maxL := 7) (ret := (some .int)) (by decide) rfl ?_
  intro p e s m args below meth c s₁ B hml hv
  obtain ⟨rfl, hP, hK, hD0⟩ := hv
  have hx := B.exec
  have hb := B.bytes
  have hr := B.returns
  have hts := atoms_spec (ws := wsX1_add) B.pre
  have hown : s.vm.findClass RX1 = some m.cls := findClass_of_methodNamed B.named
  have hlocks := B.notSynchronized
  have hD := q_Bself hD0
  generalize hAe : q_B [(aq, .inr (1, [.ref aP, .ref aA, .ref aT, .ref aO, .int (nI n), .ref aE, .ref aI])), (aP, .inl (cI, 12, .inl fP)), (aA, .inl (cI, 12, .inl fA)), (aT, .inl (cI, 12, .inl fT)), (aO, .inl (cI, 12, .inl fO)), (aE, .inl (cI, 12, .inl fE)), (aI, .inl (cZ, 12, .inl fI))] = A at hD ⊢
  have hS : va_S A s.heap s.heap [] := va_S.rf
  have hP : va_P (dC, dI) vwCl [(aq, .inr (1, [.ref aP, .ref aA, .ref aT, .ref aO, .int (nI n), .ref aE, .ref aI])), (aP, .inl (cI, 12, .inl fP)), (aA, .inl (cI, 12, .inl fA)), (aT, .inl (cI, 12, .inl fT)), (aO, .inl (cI, 12, .inl fO)), (aE, .inl (cI, 12, .inl fE)), (aI, .inl (cZ, 12, .inl fI))] s.heap := hP
  have hl := lv_entry ([.ref aq, .int pa, .int am, .int ex, .int te]) (n := 7) (Nat.le_of_ble_eq_true rfl)
  rw [lg_entry_eq]
  generalize (lg_sl ([.ref aq, .int pa, .int am, .int ex, .int te]) ++ List.replicate (7 - (lg_sl ([.ref aq, .int pa, .int am, .int ex, .int te])).length) Slot.unset).toArray = ls at hl ⊢
  have hl : lv_has ls 7 [(0, .ref aq), (1, .int pa), (2, .int am), (3, .int ex), (4, .int te)] := hl
  refine lv_aload_n hx hb dX1_add_0 rfl (lv_at hl 0 rfl) ?_
  refine va_get (D := (dC, dI)) (ci := 1) (v := .int (nI n)) (C := RX1) (T := TX1) (N := 7) hx hb hts (by decide +kernel) hown hK hP 0 rfl rfl 4 (by decide) (hts (.fieldLink RX1 31 "CapacityRound$Queue" "count" "I") (by decide +kernel)) (fun _ h9 => h9) rfl dX1_add_1 ?_
  refine lv_istore (lv' := [(5, .int (nI n)), (0, .ref aq), (1, .int pa), (2, .int am), (3, .int ex), (4, .int te)]) hx hb dX1_add_4 hl (by decide) rfl (fun ls hl => ?_)
  refine lv_iload hx hb dX1_add_6 (lv_at hl 0 rfl) ?_
  refine lv_istore (lv' := [(6, .int (nI n)), (5, .int (nI n)), (0, .ref aq), (1, .int pa), (2, .int am), (3, .int ex), (4, .int te)]) hx hb dX1_add_8 hl (by decide) rfl (fun ls hl => ?_)
  have lp_10 : ∀ (wk k : Nat) (x6 : Int32), k ≤ n → n < k + wk → x6 = nI (n - k) → (z_pl fE ex o n = z_pl fE ex o (n - k)) → ∀ (H : Heap) (locs : List Loc), va_P (dC, dI) vwCl [(aq, .inr (1, [.ref aP, .ref aA, .ref aT, .ref aO, .int (nI n), .ref aE, .ref aI])), (aP, .inl (cI, 12, .inl fP)), (aA, .inl (cI, 12, .inl fA)), (aT, .inl (cI, 12, .inl fT)), (aO, .inl (cI, 12, .inl (z_sh fO n k))), (aE, .inl (cI, 12, .inl fE)), (aI, .inl (cZ, 12, .inl fI))] H → va_D A [(aq, .inr (1, [.ref aP, .ref aA, .ref aT, .ref aO, .int (nI n), .ref aE, .ref aI])), (aP, .inl (cI, 12, .inl fP)), (aA, .inl (cI, 12, .inl fA)), (aT, .inl (cI, 12, .inl fT)), (aO, .inl (cI, 12, .inl (z_sh fO n k))), (aE, .inl (cI, 12, .inl fE)), (aI, .inl (cZ, 12, .inl fI))] → va_S A s.heap H locs → ∀ (ls : Array Slot), lv_has ls 7 [(6, .int x6), (5, .int (nI n)), (0, .ref aq), (1, .int pa), (2, .int am), (3, .int ex), (4, .int te)] → W p l e (headSpec wsX1_add ({ frames := 0, cells := 0, slots := 0, locals := 0 })).room s m [.ref aq, .int pa, .int am, .int ex, .int te].toArray below meth c H locs 0 0 (MQ below (q_W (some (.int (nI n))) (dC, dI) vwCl [(aq, .inr (1, [.ref aP, .ref aA, .ref aT, .ref aO, .int (nI n + 1), .ref aE, .ref aI])), (aP, .inl (cI, 12, .inl (upd fP n pa))), (aA, .inl (cI, 12, .inl (upd fA n am))), (aT, .inl (cI, 12, .inl (upd fT n te))), (aO, .inl (cI, 12, .inl (z_ord fO n (z_pl fE ex o n)))), (aE, .inl (cI, 12, .inl (upd fE n ex))), (aI, .inl (cZ, 12, .inl fI))] A) [.ref aq, .int pa, .int am, .int ex, .int te].toArray s 0 0 A) (F0 m 10 ls []) := by
    intro wk
    induction wk with
    | zero => intro k x6 hk_k hw_k; exact absurd hw_k (by omega)
    | succ wk ih_k =>
      intro k x6 hk_k hw_k ex6 hpl H locs hP hD hS ls hl
      refine lv_iload hx hb dX1_add_10 (lv_at hl 0 rfl) ?_
      refine lv_if_le (tgt := 55) hx hb dX1_add_12 (by decide) (fun c_12 => ?_) (fun c_12 => ?_)
      · have h0 : n - k = 0 := by have h9 := (q_cge (y := x6) (x := 0) (k := 0) ex6 rfl (by omega) (by omega)).mp c_12; omega
        have hf : n - k = z_pl fE ex o n := by rw [hpl, h0]; rfl
        refine lv_aload_n hx hb dX1_add_55 rfl (lv_at hl 2 rfl) ?_
        refine va_get (D := (dC, dI)) (ci := 1) (v := .ref aO) (C := RX1) (T := TX1) (N := 7) hx hb hts (by decide +kernel) hown hK hP 0 rfl rfl 3 (by decide) (hts (.fieldLink RX1 21 "CapacityRound$Queue" "order" "[I") (by decide +kernel)) (fun _ h9 => h9) rfl dX1_add_56 ?_
        refine lv_iload hx hb dX1_add_59 (lv_at hl 0 rfl) ?_
        refine lv_iload hx hb dX1_add_61 (lv_at hl 1 rfl) ?_
        refine q_iast hx hb hK hP hD hS 4 0 rfl rfl (n - k) (ex6) (by omega) (by decide) dX1_add_63 (fun H locs hP hD hS => ?_)
        rw [show upd (z_sh fO n k) (n - k) (nI n) = z_ord fO n (z_pl fE ex o n) from by unfold z_ord; rw [← hf, show n - (n - k) = k by omega]] at hP hD
        have hP : va_P (dC, dI) vwCl [(aq, .inr (1, [.ref aP, .ref aA, .ref aT, .ref aO, .int (nI n), .ref aE, .ref aI])), (aP, .inl (cI, 12, .inl fP)), (aA, .inl (cI, 12, .inl fA)), (aT, .inl (cI, 12, .inl fT)), (aO, .inl (cI, 12, .inl (z_ord fO n (z_pl fE ex o n)))), (aE, .inl (cI, 12, .inl fE)), (aI, .inl (cZ, 12, .inl fI))] H := hP
        have hD : va_D A [(aq, .inr (1, [.ref aP, .ref aA, .ref aT, .ref aO, .int (nI n), .ref aE, .ref aI])), (aP, .inl (cI, 12, .inl fP)), (aA, .inl (cI, 12, .inl fA)), (aT, .inl (cI, 12, .inl fT)), (aO, .inl (cI, 12, .inl (z_ord fO n (z_pl fE ex o n)))), (aE, .inl (cI, 12, .inl fE)), (aI, .inl (cZ, 12, .inl fI))] := hD
        refine lv_aload_n hx hb dX1_add_64 rfl (lv_at hl 2 rfl) ?_
        refine va_get (D := (dC, dI)) (ci := 1) (v := .ref aP) (C := RX1) (T := TX1) (N := 7) hx hb hts (by decide +kernel) hown hK hP 0 rfl rfl 0 (by decide) (hts (.fieldLink RX1 11 "CapacityRound$Queue" "parties" "[I") (by decide +kernel)) (fun _ h9 => h9) rfl dX1_add_65 ?_
        refine lv_iload hx hb dX1_add_68 (lv_at hl 1 rfl) ?_
        refine lv_iload_n hx hb dX1_add_70 rfl (lv_at hl 3 rfl) ?_
        refine q_iast hx hb hK hP hD hS 1 0 rfl rfl n (rfl) (hn) (by decide) dX1_add_71 (fun H locs hP hD hS => ?_)
        have hP : va_P (dC, dI) vwCl [(aq, .inr (1, [.ref aP, .ref aA, .ref aT, .ref aO, .int (nI n), .ref aE, .ref aI])), (aP, .inl (cI, 12, .inl (upd fP n pa))), (aA, .inl (cI, 12, .inl fA)), (aT, .inl (cI, 12, .inl fT)), (aO, .inl (cI, 12, .inl (z_ord fO n (z_pl fE ex o n)))), (aE, .inl (cI, 12, .inl fE)), (aI, .inl (cZ, 12, .inl fI))] H := hP
        have hD : va_D A [(aq, .inr (1, [.ref aP, .ref aA, .ref aT, .ref aO, .int (nI n), .ref aE, .ref aI])), (aP, .inl (cI, 12, .inl (upd fP n pa))), (aA, .inl (cI, 12, .inl fA)), (aT, .inl (cI, 12, .inl fT)), (aO, .inl (cI, 12, .inl (z_ord fO n (z_pl fE ex o n)))), (aE, .inl (cI, 12, .inl fE)), (aI, .inl (cZ, 12, .inl fI))] := hD
        refine lv_aload_n hx hb dX1_add_72 rfl (lv_at hl 2 rfl) ?_
        refine va_get (D := (dC, dI)) (ci := 1) (v := .ref aA) (C := RX1) (T := TX1) (N := 7) hx hb hts (by decide +kernel) hown hK hP 0 rfl rfl 1 (by decide) (hts (.fieldLink RX1 15 "CapacityRound$Queue" "amounts" "[I") (by decide +kernel)) (fun _ h9 => h9) rfl dX1_add_73 ?_
        refine lv_iload hx hb dX1_add_76 (lv_at hl 1 rfl) ?_
        refine lv_iload_n hx hb dX1_add_78 rfl (lv_at hl 4 rfl) ?_
        refine q_iast hx hb hK hP hD hS 2 0 rfl rfl n (rfl) (hn) (by decide) dX1_add_79 (fun H locs hP hD hS => ?_)
        have hP : va_P (dC, dI) vwCl [(aq, .inr (1, [.ref aP, .ref aA, .ref aT, .ref aO, .int (nI n), .ref aE, .ref aI])), (aP, .inl (cI, 12, .inl (upd fP n pa))), (aA, .inl (cI, 12, .inl (upd fA n am))), (aT, .inl (cI, 12, .inl fT)), (aO, .inl (cI, 12, .inl (z_ord fO n (z_pl fE ex o n)))), (aE, .inl (cI, 12, .inl fE)), (aI, .inl (cZ, 12, .inl fI))] H := hP
        have hD : va_D A [(aq, .inr (1, [.ref aP, .ref aA, .ref aT, .ref aO, .int (nI n), .ref aE, .ref aI])), (aP, .inl (cI, 12, .inl (upd fP n pa))), (aA, .inl (cI, 12, .inl (upd fA n am))), (aT, .inl (cI, 12, .inl fT)), (aO, .inl (cI, 12, .inl (z_ord fO n (z_pl fE ex o n)))), (aE, .inl (cI, 12, .inl fE)), (aI, .inl (cZ, 12, .inl fI))] := hD
        refine lv_aload_n hx hb dX1_add_80 rfl (lv_at hl 2 rfl) ?_
        refine va_get (D := (dC, dI)) (ci := 1) (v := .ref aE) (C := RX1) (T := TX1) (N := 7) hx hb hts (by decide +kernel) hown hK hP 0 rfl rfl 5 (by decide) (hts (.fieldLink RX1 24 "CapacityRound$Queue" "exits" "[I") (by decide +kernel)) (fun _ h9 => h9) rfl dX1_add_81 ?_
        refine lv_iload hx hb dX1_add_84 (lv_at hl 1 rfl) ?_
        refine lv_iload_n hx hb dX1_add_86 rfl (lv_at hl 5 rfl) ?_
        refine q_iast hx hb hK hP hD hS 5 0 rfl rfl n (rfl) (hn) (by decide) dX1_add_87 (fun H locs hP hD hS => ?_)
        have hP : va_P (dC, dI) vwCl [(aq, .inr (1, [.ref aP, .ref aA, .ref aT, .ref aO, .int (nI n), .ref aE, .ref aI])), (aP, .inl (cI, 12, .inl (upd fP n pa))), (aA, .inl (cI, 12, .inl (upd fA n am))), (aT, .inl (cI, 12, .inl fT)), (aO, .inl (cI, 12, .inl (z_ord fO n (z_pl fE ex o n)))), (aE, .inl (cI, 12, .inl (upd fE n ex))), (aI, .inl (cZ, 12, .inl fI))] H := hP
        have hD : va_D A [(aq, .inr (1, [.ref aP, .ref aA, .ref aT, .ref aO, .int (nI n), .ref aE, .ref aI])), (aP, .inl (cI, 12, .inl (upd fP n pa))), (aA, .inl (cI, 12, .inl (upd fA n am))), (aT, .inl (cI, 12, .inl fT)), (aO, .inl (cI, 12, .inl (z_ord fO n (z_pl fE ex o n)))), (aE, .inl (cI, 12, .inl (upd fE n ex))), (aI, .inl (cZ, 12, .inl fI))] := hD
        refine lv_aload_n hx hb dX1_add_88 rfl (lv_at hl 2 rfl) ?_
        refine va_get (D := (dC, dI)) (ci := 1) (v := .ref aT) (C := RX1) (T := TX1) (N := 7) hx hb hts (by decide +kernel) hown hK hP 0 rfl rfl 2 (by decide) (hts (.fieldLink RX1 18 "CapacityRound$Queue" "terms" "[I") (by decide +kernel)) (fun _ h9 => h9) rfl dX1_add_89 ?_
        refine lv_iload hx hb dX1_add_92 (lv_at hl 1 rfl) ?_
        refine lv_iload hx hb dX1_add_94 (lv_at hl 6 rfl) ?_
        refine q_iast hx hb hK hP hD hS 3 0 rfl rfl n (rfl) (hn) (by decide) dX1_add_96 (fun H locs hP hD hS => ?_)
        have hP : va_P (dC, dI) vwCl [(aq, .inr (1, [.ref aP, .ref aA, .ref aT, .ref aO, .int (nI n), .ref aE, .ref aI])), (aP, .inl (cI, 12, .inl (upd fP n pa))), (aA, .inl (cI, 12, .inl (upd fA n am))), (aT, .inl (cI, 12, .inl (upd fT n te))), (aO, .inl (cI, 12, .inl (z_ord fO n (z_pl fE ex o n)))), (aE, .inl (cI, 12, .inl (upd fE n ex))), (aI, .inl (cZ, 12, .inl fI))] H := hP
        have hD : va_D A [(aq, .inr (1, [.ref aP, .ref aA, .ref aT, .ref aO, .int (nI n), .ref aE, .ref aI])), (aP, .inl (cI, 12, .inl (upd fP n pa))), (aA, .inl (cI, 12, .inl (upd fA n am))), (aT, .inl (cI, 12, .inl (upd fT n te))), (aO, .inl (cI, 12, .inl (z_ord fO n (z_pl fE ex o n)))), (aE, .inl (cI, 12, .inl (upd fE n ex))), (aI, .inl (cZ, 12, .inl fI))] := hD
        refine lv_aload_n hx hb dX1_add_97 rfl (lv_at hl 2 rfl) ?_
        refine lv_dup hx hb dX1_add_98 rfl ?_
        refine va_get (D := (dC, dI)) (ci := 1) (v := .int (nI n)) (C := RX1) (T := TX1) (N := 7) hx hb hts (by decide +kernel) hown hK hP 0 rfl rfl 4 (by decide) (hts (.fieldLink RX1 31 "CapacityRound$Queue" "count" "I") (by decide +kernel)) (fun _ h9 => h9) rfl dX1_add_99 ?_
        refine lv_iconst (v := 1) hx hb dX1_add_102 (by decide) ?_
        refine lv_iadd hx hb dX1_add_103 ?_
        refine va_put (D := (dC, dI)) (ci := 1) (v := .int ((nI n) + 1)) (ty := .int) (C := RX1) (T := TX1) (N := 7) hx hb hts (by decide +kernel) tyX1 tyX1_ok nmX1 hown hK hP hD hS 0 rfl rfl 4 (by decide) (hts (.fieldLink RX1 31 "CapacityRound$Queue" "count" "I") (by decide +kernel)) (fun _ h9 => h9) rfl (by decide +kernel) rfl rfl (Nat.le_of_ble_eq_true rfl) dX1_add_104 (fun H locs hP hD hS => ?_)
        have hP : va_P (dC, dI) vwCl [(aq, .inr (1, [.ref aP, .ref aA, .ref aT, .ref aO, .int ((nI n) + 1), .ref aE, .ref aI])), (aP, .inl (cI, 12, .inl (upd fP n pa))), (aA, .inl (cI, 12, .inl (upd fA n am))), (aT, .inl (cI, 12, .inl (upd fT n te))), (aO, .inl (cI, 12, .inl (z_ord fO n (z_pl fE ex o n)))), (aE, .inl (cI, 12, .inl (upd fE n ex))), (aI, .inl (cZ, 12, .inl fI))] H := hP
        have hD : va_D A [(aq, .inr (1, [.ref aP, .ref aA, .ref aT, .ref aO, .int ((nI n) + 1), .ref aE, .ref aI])), (aP, .inl (cI, 12, .inl (upd fP n pa))), (aA, .inl (cI, 12, .inl (upd fA n am))), (aT, .inl (cI, 12, .inl (upd fT n te))), (aO, .inl (cI, 12, .inl (z_ord fO n (z_pl fE ex o n)))), (aE, .inl (cI, 12, .inl (upd fE n ex))), (aI, .inl (cZ, 12, .inl fI))] := hD
        refine lv_iload hx hb dX1_add_107 (lv_at hl 1 rfl) ?_
        exact W.iret (v := nI n) hx hb hr (fun tS htS hWS => ⟨congrArg (fun z => Outcome.returned (some (Value.int z))) (rfl : nI n = nI n), by rw [htS]; exact hP, hS.F htS⟩) hS.2.2 dX1_add_109
      · obtain ⟨t, ht⟩ : ∃ t, n - k = t + 1 := ⟨n - k - 1, by have h9 := (not_congr (q_cge (y := x6) (x := 0) (k := 0) ex6 rfl (by omega) (by omega))).mp c_12; omega⟩
        obtain ⟨ho, ho12⟩ := hO t (by omega)
        refine lv_aload_n hx hb dX1_add_15 rfl (lv_at hl 2 rfl) ?_
        refine va_get (D := (dC, dI)) (ci := 1) (v := .ref aE) (C := RX1) (T := TX1) (N := 7) hx hb hts (by decide +kernel) hown hK hP 0 rfl rfl 5 (by decide) (hts (.fieldLink RX1 24 "CapacityRound$Queue" "exits" "[I") (by decide +kernel)) (fun _ h9 => h9) rfl dX1_add_16 ?_
        refine lv_aload_n hx hb dX1_add_19 rfl (lv_at hl 2 rfl) ?_
        refine va_get (D := (dC, dI)) (ci := 1) (v := .ref aO) (C := RX1) (T := TX1) (N := 7) hx hb hts (by decide +kernel) hown hK hP 0 rfl rfl 3 (by decide) (hts (.fieldLink RX1 21 "CapacityRound$Queue" "order" "[I") (by decide +kernel)) (fun _ h9 => h9) rfl dX1_add_20 ?_
        refine lv_iload hx hb dX1_add_23 (lv_at hl 0 rfl) ?_
        refine lv_iconst (v := 1) hx hb dX1_add_25 (by decide) ?_
        refine lv_isub hx hb dX1_add_26 ?_
        refine q_iald hx hb hK hP 4 0 rfl rfl t (by rw [ex6, ht]; exact nI_pred t) (by omega) (by decide) dX1_add_27 ?_
        refine lv_topi (fun v_1 ev_1 => ?_)
        obtain rfl : v_1 = nI (o t) := ev_1.trans ((z_shl (by omega)).trans ho)
        refine q_iald hx hb hK hP 5 0 rfl rfl (o t) (rfl) (ho12) (by decide) dX1_add_28 ?_
        refine lv_iload_n hx hb dX1_add_29 rfl (lv_at hl 5 rfl) ?_
        refine lv_icmp_le (tgt := 55) hx hb dX1_add_30 (by decide) (fun c_30 => ?_) (fun c_30 => ?_)
        · have hf : n - k = z_pl fE ex o n := by rw [hpl, ht, z_pl, if_neg (z_nlt.mpr c_30)]
          refine lv_aload_n hx hb dX1_add_55 rfl (lv_at hl 2 rfl) ?_
          refine va_get (D := (dC, dI)) (ci := 1) (v := .ref aO) (C := RX1) (T := TX1) (N := 7) hx hb hts (by decide +kernel) hown hK hP 0 rfl rfl 3 (by decide) (hts (.fieldLink RX1 21 "CapacityRound$Queue" "order" "[I") (by decide +kernel)) (fun _ h9 => h9) rfl dX1_add_56 ?_
          refine lv_iload hx hb dX1_add_59 (lv_at hl 0 rfl) ?_
          refine lv_iload hx hb dX1_add_61 (lv_at hl 1 rfl) ?_
          refine q_iast hx hb hK hP hD hS 4 0 rfl rfl (n - k) (ex6) (by omega) (by decide) dX1_add_63 (fun H locs hP hD hS => ?_)
          rw [show upd (z_sh fO n k) (n - k) (nI n) = z_ord fO n (z_pl fE ex o n) from by unfold z_ord; rw [← hf, show n - (n - k) = k by omega]] at hP hD
          have hP : va_P (dC, dI) vwCl [(aq, .inr (1, [.ref aP, .ref aA, .ref aT, .ref aO, .int (nI n), .ref aE, .ref aI])), (aP, .inl (cI, 12, .inl fP)), (aA, .inl (cI, 12, .inl fA)), (aT, .inl (cI, 12, .inl fT)), (aO, .inl (cI, 12, .inl (z_ord fO n (z_pl fE ex o n)))), (aE, .inl (cI, 12, .inl fE)), (aI, .inl (cZ, 12, .inl fI))] H := hP
          have hD : va_D A [(aq, .inr (1, [.ref aP, .ref aA, .ref aT, .ref aO, .int (nI n), .ref aE, .ref aI])), (aP, .inl (cI, 12, .inl fP)), (aA, .inl (cI, 12, .inl fA)), (aT, .inl (cI, 12, .inl fT)), (aO, .inl (cI, 12, .inl (z_ord fO n (z_pl fE ex o n)))), (aE, .inl (cI, 12, .inl fE)), (aI, .inl (cZ, 12, .inl fI))] := hD
          refine lv_aload_n hx hb dX1_add_64 rfl (lv_at hl 2 rfl) ?_
          refine va_get (D := (dC, dI)) (ci := 1) (v := .ref aP) (C := RX1) (T := TX1) (N := 7) hx hb hts (by decide +kernel) hown hK hP 0 rfl rfl 0 (by decide) (hts (.fieldLink RX1 11 "CapacityRound$Queue" "parties" "[I") (by decide +kernel)) (fun _ h9 => h9) rfl dX1_add_65 ?_
          refine lv_iload hx hb dX1_add_68 (lv_at hl 1 rfl) ?_
          refine lv_iload_n hx hb dX1_add_70 rfl (lv_at hl 3 rfl) ?_
          refine q_iast hx hb hK hP hD hS 1 0 rfl rfl n (rfl) (hn) (by decide) dX1_add_71 (fun H locs hP hD hS => ?_)
          have hP : va_P (dC, dI) vwCl [(aq, .inr (1, [.ref aP, .ref aA, .ref aT, .ref aO, .int (nI n), .ref aE, .ref aI])), (aP, .inl (cI, 12, .inl (upd fP n pa))), (aA, .inl (cI, 12, .inl fA)), (aT, .inl (cI, 12, .inl fT)), (aO, .inl (cI, 12, .inl (z_ord fO n (z_pl fE ex o n)))), (aE, .inl (cI, 12, .inl fE)), (aI, .inl (cZ, 12, .inl fI))] H := hP
          have hD : va_D A [(aq, .inr (1, [.ref aP, .ref aA, .ref aT, .ref aO, .int (nI n), .ref aE, .ref aI])), (aP, .inl (cI, 12, .inl (upd fP n pa))), (aA, .inl (cI, 12, .inl fA)), (aT, .inl (cI, 12, .inl fT)), (aO, .inl (cI, 12, .inl (z_ord fO n (z_pl fE ex o n)))), (aE, .inl (cI, 12, .inl fE)), (aI, .inl (cZ, 12, .inl fI))] := hD
          refine lv_aload_n hx hb dX1_add_72 rfl (lv_at hl 2 rfl) ?_
          refine va_get (D := (dC, dI)) (ci := 1) (v := .ref aA) (C := RX1) (T := TX1) (N := 7) hx hb hts (by decide +kernel) hown hK hP 0 rfl rfl 1 (by decide) (hts (.fieldLink RX1 15 "CapacityRound$Queue" "amounts" "[I") (by decide +kernel)) (fun _ h9 => h9) rfl dX1_add_73 ?_
          refine lv_iload hx hb dX1_add_76 (lv_at hl 1 rfl) ?_
          refine lv_iload_n hx hb dX1_add_78 rfl (lv_at hl 4 rfl) ?_
          refine q_iast hx hb hK hP hD hS 2 0 rfl rfl n (rfl) (hn) (by decide) dX1_add_79 (fun H locs hP hD hS => ?_)
          have hP : va_P (dC, dI) vwCl [(aq, .inr (1, [.ref aP, .ref aA, .ref aT, .ref aO, .int (nI n), .ref aE, .ref aI])), (aP, .inl (cI, 12, .inl (upd fP n pa))), (aA, .inl (cI, 12, .inl (upd fA n am))), (aT, .inl (cI, 12, .inl fT)), (aO, .inl (cI, 12, .inl (z_ord fO n (z_pl fE ex o n)))), (aE, .inl (cI, 12, .inl fE)), (aI, .inl (cZ, 12, .inl fI))] H := hP
          have hD : va_D A [(aq, .inr (1, [.ref aP, .ref aA, .ref aT, .ref aO, .int (nI n), .ref aE, .ref aI])), (aP, .inl (cI, 12, .inl (upd fP n pa))), (aA, .inl (cI, 12, .inl (upd fA n am))), (aT, .inl (cI, 12, .inl fT)), (aO, .inl (cI, 12, .inl (z_ord fO n (z_pl fE ex o n)))), (aE, .inl (cI, 12, .inl fE)), (aI, .inl (cZ, 12, .inl fI))] := hD
          refine lv_aload_n hx hb dX1_add_80 rfl (lv_at hl 2 rfl) ?_
          refine va_get (D := (dC, dI)) (ci := 1) (v := .ref aE) (C := RX1) (T := TX1) (N := 7) hx hb hts (by decide +kernel) hown hK hP 0 rfl rfl 5 (by decide) (hts (.fieldLink RX1 24 "CapacityRound$Queue" "exits" "[I") (by decide +kernel)) (fun _ h9 => h9) rfl dX1_add_81 ?_
          refine lv_iload hx hb dX1_add_84 (lv_at hl 1 rfl) ?_
          refine lv_iload_n hx hb dX1_add_86 rfl (lv_at hl 5 rfl) ?_
          refine q_iast hx hb hK hP hD hS 5 0 rfl rfl n (rfl) (hn) (by decide) dX1_add_87 (fun H locs hP hD hS => ?_)
          have hP : va_P (dC, dI) vwCl [(aq, .inr (1, [.ref aP, .ref aA, .ref aT, .ref aO, .int (nI n), .ref aE, .ref aI])), (aP, .inl (cI, 12, .inl (upd fP n pa))), (aA, .inl (cI, 12, .inl (upd fA n am))), (aT, .inl (cI, 12, .inl fT)), (aO, .inl (cI, 12, .inl (z_ord fO n (z_pl fE ex o n)))), (aE, .inl (cI, 12, .inl (upd fE n ex))), (aI, .inl (cZ, 12, .inl fI))] H := hP
          have hD : va_D A [(aq, .inr (1, [.ref aP, .ref aA, .ref aT, .ref aO, .int (nI n), .ref aE, .ref aI])), (aP, .inl (cI, 12, .inl (upd fP n pa))), (aA, .inl (cI, 12, .inl (upd fA n am))), (aT, .inl (cI, 12, .inl fT)), (aO, .inl (cI, 12, .inl (z_ord fO n (z_pl fE ex o n)))), (aE, .inl (cI, 12, .inl (upd fE n ex))), (aI, .inl (cZ, 12, .inl fI))] := hD
          refine lv_aload_n hx hb dX1_add_88 rfl (lv_at hl 2 rfl) ?_
          refine va_get (D := (dC, dI)) (ci := 1) (v := .ref aT) (C := RX1) (T := TX1) (N := 7) hx hb hts (by decide +kernel) hown hK hP 0 rfl rfl 2 (by decide) (hts (.fieldLink RX1 18 "CapacityRound$Queue" "terms" "[I") (by decide +kernel)) (fun _ h9 => h9) rfl dX1_add_89 ?_
          refine lv_iload hx hb dX1_add_92 (lv_at hl 1 rfl) ?_
          refine lv_iload hx hb dX1_add_94 (lv_at hl 6 rfl) ?_
          refine q_iast hx hb hK hP hD hS 3 0 rfl rfl n (rfl) (hn) (by decide) dX1_add_96 (fun H locs hP hD hS => ?_)
          have hP : va_P (dC, dI) vwCl [(aq, .inr (1, [.ref aP, .ref aA, .ref aT, .ref aO, .int (nI n), .ref aE, .ref aI])), (aP, .inl (cI, 12, .inl (upd fP n pa))), (aA, .inl (cI, 12, .inl (upd fA n am))), (aT, .inl (cI, 12, .inl (upd fT n te))), (aO, .inl (cI, 12, .inl (z_ord fO n (z_pl fE ex o n)))), (aE, .inl (cI, 12, .inl (upd fE n ex))), (aI, .inl (cZ, 12, .inl fI))] H := hP
          have hD : va_D A [(aq, .inr (1, [.ref aP, .ref aA, .ref aT, .ref aO, .int (nI n), .ref aE, .ref aI])), (aP, .inl (cI, 12, .inl (upd fP n pa))), (aA, .inl (cI, 12, .inl (upd fA n am))), (aT, .inl (cI, 12, .inl (upd fT n te))), (aO, .inl (cI, 12, .inl (z_ord fO n (z_pl fE ex o n)))), (aE, .inl (cI, 12, .inl (upd fE n ex))), (aI, .inl (cZ, 12, .inl fI))] := hD
          refine lv_aload_n hx hb dX1_add_97 rfl (lv_at hl 2 rfl) ?_
          refine lv_dup hx hb dX1_add_98 rfl ?_
          refine va_get (D := (dC, dI)) (ci := 1) (v := .int (nI n)) (C := RX1) (T := TX1) (N := 7) hx hb hts (by decide +kernel) hown hK hP 0 rfl rfl 4 (by decide) (hts (.fieldLink RX1 31 "CapacityRound$Queue" "count" "I") (by decide +kernel)) (fun _ h9 => h9) rfl dX1_add_99 ?_
          refine lv_iconst (v := 1) hx hb dX1_add_102 (by decide) ?_
          refine lv_iadd hx hb dX1_add_103 ?_
          refine va_put (D := (dC, dI)) (ci := 1) (v := .int ((nI n) + 1)) (ty := .int) (C := RX1) (T := TX1) (N := 7) hx hb hts (by decide +kernel) tyX1 tyX1_ok nmX1 hown hK hP hD hS 0 rfl rfl 4 (by decide) (hts (.fieldLink RX1 31 "CapacityRound$Queue" "count" "I") (by decide +kernel)) (fun _ h9 => h9) rfl (by decide +kernel) rfl rfl (Nat.le_of_ble_eq_true rfl) dX1_add_104 (fun H locs hP hD hS => ?_)
          have hP : va_P (dC, dI) vwCl [(aq, .inr (1, [.ref aP, .ref aA, .ref aT, .ref aO, .int ((nI n) + 1), .ref aE, .ref aI])), (aP, .inl (cI, 12, .inl (upd fP n pa))), (aA, .inl (cI, 12, .inl (upd fA n am))), (aT, .inl (cI, 12, .inl (upd fT n te))), (aO, .inl (cI, 12, .inl (z_ord fO n (z_pl fE ex o n)))), (aE, .inl (cI, 12, .inl (upd fE n ex))), (aI, .inl (cZ, 12, .inl fI))] H := hP
          have hD : va_D A [(aq, .inr (1, [.ref aP, .ref aA, .ref aT, .ref aO, .int ((nI n) + 1), .ref aE, .ref aI])), (aP, .inl (cI, 12, .inl (upd fP n pa))), (aA, .inl (cI, 12, .inl (upd fA n am))), (aT, .inl (cI, 12, .inl (upd fT n te))), (aO, .inl (cI, 12, .inl (z_ord fO n (z_pl fE ex o n)))), (aE, .inl (cI, 12, .inl (upd fE n ex))), (aI, .inl (cZ, 12, .inl fI))] := hD
          refine lv_iload hx hb dX1_add_107 (lv_at hl 1 rfl) ?_
          exact W.iret (v := nI n) hx hb hr (fun tS htS hWS => ⟨congrArg (fun z => Outcome.returned (some (Value.int z))) (rfl : nI n = nI n), by rw [htS]; exact hP, hS.F htS⟩) hS.2.2 dX1_add_109
        · have h9 := c_30
          refine lv_aload_n hx hb dX1_add_33 rfl (lv_at hl 2 rfl) ?_
          refine va_get (D := (dC, dI)) (ci := 1) (v := .ref aO) (C := RX1) (T := TX1) (N := 7) hx hb hts (by decide +kernel) hown hK hP 0 rfl rfl 3 (by decide) (hts (.fieldLink RX1 21 "CapacityRound$Queue" "order" "[I") (by decide +kernel)) (fun _ h9 => h9) rfl dX1_add_34 ?_
          refine lv_iload hx hb dX1_add_37 (lv_at hl 0 rfl) ?_
          refine lv_aload_n hx hb dX1_add_39 rfl (lv_at hl 2 rfl) ?_
          refine va_get (D := (dC, dI)) (ci := 1) (v := .ref aO) (C := RX1) (T := TX1) (N := 7) hx hb hts (by decide +kernel) hown hK hP 0 rfl rfl 3 (by decide) (hts (.fieldLink RX1 21 "CapacityRound$Queue" "order" "[I") (by decide +kernel)) (fun _ h9 => h9) rfl dX1_add_40 ?_
          refine lv_iload hx hb dX1_add_43 (lv_at hl 0 rfl) ?_
          refine lv_iconst (v := 1) hx hb dX1_add_45 (by decide) ?_
          refine lv_isub hx hb dX1_add_46 ?_
          refine q_iald hx hb hK hP 4 0 rfl rfl t (by rw [ex6, ht]; exact nI_pred t) (by omega) (by decide) dX1_add_47 ?_
          refine lv_topi (fun v_2 ev_2 => ?_)
          obtain rfl : v_2 = nI (o t) := ev_2.trans ((z_shl (by omega)).trans ho)
          refine q_iast hx hb hK hP hD hS 4 0 rfl rfl (t + 1) (by rw [ex6, ht]) (by omega) (by decide) dX1_add_48 (fun H locs hP hD hS => ?_)
          have hP : va_P (dC, dI) vwCl [(aq, .inr (1, [.ref aP, .ref aA, .ref aT, .ref aO, .int (nI n), .ref aE, .ref aI])), (aP, .inl (cI, 12, .inl fP)), (aA, .inl (cI, 12, .inl fA)), (aT, .inl (cI, 12, .inl fT)), (aO, .inl (cI, 12, .inl (upd (z_sh fO n k) (t + 1) (nI (o t))))), (aE, .inl (cI, 12, .inl fE)), (aI, .inl (cZ, 12, .inl fI))] H := hP
          have hD : va_D A [(aq, .inr (1, [.ref aP, .ref aA, .ref aT, .ref aO, .int (nI n), .ref aE, .ref aI])), (aP, .inl (cI, 12, .inl fP)), (aA, .inl (cI, 12, .inl fA)), (aT, .inl (cI, 12, .inl fT)), (aO, .inl (cI, 12, .inl (upd (z_sh fO n k) (t + 1) (nI (o t))))), (aE, .inl (cI, 12, .inl fE)), (aI, .inl (cZ, 12, .inl fI))] := hD
          refine lv_iinc (v := x6 + (-1)) (lv' := [(6, .int (x6 + (-1))), (5, .int (nI n)), (0, .ref aq), (1, .int pa), (2, .int am), (3, .int ex), (4, .int te)]) hx hb dX1_add_49 hl (k := 0) rfl rfl (by decide) rfl (fun ls hl => ?_)
          refine lv_goto (tgt := 10) hx hb dX1_add_52 (by decide) ?_
          exact ih_k (k + 1) (x6 + (-1)) (by omega) (by omega) (by rw [ex6, ht, pk_m1, show n - (k + 1) = t by omega]) (by rw [hpl, ht, z_pl, if_pos (z_nle.mp c_30), show n - (k + 1) = t by omega]) _ _ (by rw [← z_shs ht ho]; exact hP) (by rw [← z_shs ht ho]; exact hD) hS ls (lv_sub hl [0, 1, 2, 3, 4, 5, 6] rfl)
  exact lp_10 (n + 1) 0 (nI n) (by omega) (by omega) (rfl) (rfl) _ _ (by rw [z_sh0]; exact hP) (by rw [z_sh0]; exact hD) hS ls (lv_sub hl [0, 1, 2, 3, 4, 5, 6] rfl)
set_option maxHeartbeats 4000000 in
set_option maxRecDepth 100000 in
theorem c_X1_amountUpTo (l : Launch) (dC : Nat → ClassId) (dI : Nat → Nat → Nat) (cI cZ cJ : ClassId) (aq aP aA aT aO aE aI n : Nat) (fP fA fT fO fE fI : Nat → Int32) (pr : Int32) (hn : n ≤ 12) : Met l yX1_amountUpTo wsX1_amountUpTo ({ frames := 0, cells := 0, slots := 0, locals := 0 }) (va_Pc [.ref aq, .int pr] (q_R (dC, dI) vwCl (q_T cI cZ cJ) [(aq, .inr (1, [.ref aP, .ref aA, .ref aT, .ref aO, .int (nI n), .ref aE, .ref aI])), (aP, .inl (cI, 12, .inl fP)), (aA, .inl (cI, 12, .inl fA)), (aT, .inl (cI, 12, .inl fT)), (aO, .inl (cI, 12, .inl fO)), (aE, .inl (cI, 12, .inl fE)), (aI, .inl (cZ, 12, .inl fI))])) (QcRead (z_su fA fE pr n)) 0 0 (fun _ => False) := by
  refine Met.ofW (cc := cX1_amountUpTo) (maxL := 4) (ret := (some .int)) (by decide) rfl ?_
  intro p e s m args below meth c s₁ B hml hv
  obtain ⟨rfl, hP, hK⟩ := hv
  have hx := B.exec
  have hb := B.bytes
  have hr := B.returns
  have hts := atoms_spec (ws := wsX1_amountUpTo) B.pre
  have hown : s.vm.findClass RX1 = some m.cls := findClass_of_methodNamed B.named
  have hlocks := B.notSynchronized
  have hP : va_P (dC, dI) vwCl [(aq, .inr (1, [.ref aP, .ref aA, .ref aT, .ref aO, .int (nI n), .ref aE, .ref aI])), (aP, .inl (cI, 12, .inl fP)), (aA, .inl (cI, 12, .inl fA)), (aT, .inl (cI, 12, .inl fT)), (aO, .inl (cI, 12, .inl fO)), (aE, .inl (cI, 12, .inl fE)), (aI, .inl (cZ, 12, .inl fI))] s.heap := hP
  have hl := lv_entry ([.ref aq, .int pr]) (n := 4) (Nat.le_of_ble_eq_true rfl)
  rw [lg_entry_eq]
  generalize (lg_sl ([.ref aq, .int pr]) ++ List.replicate (4 - (lg_sl ([.ref aq, .int pr])).length) Slot.unset).toArray = ls at hl ⊢
  have hl : lv_has ls 4 [(0, .ref aq), (1, .int pr)] := hl
  refine lv_iconst (v := 0) hx hb dX1_amountUpTo_0 (by decide) ?_
  refine lv_istore_n (lv' := [(2, .int 0), (0, .ref aq), (1, .int pr)]) hx hb dX1_amountUpTo_1 rfl hl (by decide) rfl (fun ls hl => ?_)
  refine lv_iconst (v := 0) hx hb dX1_amountUpTo_2 (by decide) ?_
  refine lv_istore_n (lv' := [(3, .int 0), (2, .int 0), (0, .ref aq), (1, .int pr)]) hx hb dX1_amountUpTo_3 rfl hl (by decide) rfl (fun ls hl => ?_)
  have lp_4 : ∀ (wk k : Nat) (x2 : Int32) (x3 : Int32), k ≤ n → n < k + wk → x2 = z_su fA fE pr k → x3 = nI k → ∀ (ls : Array Slot), lv_has ls 4 [(2, .int x2), (3, .int x3), (0, .ref aq), (1, .int pr)] → W p l e (headSpec wsX1_amountUpTo ({ frames := 0, cells := 0, slots := 0, locals := 0 })).room s m [.ref aq, .int pr].toArray below meth c s.heap [] 0 0 (MQ below (QcRead (z_su fA fE pr n)) [.ref aq, .int pr].toArray s 0 0 (fun _ => False)) (F0 m 4 ls []) := by
    intro wk
    induction wk with
    | zero => intro k x2 x3 hk_k hw_k; exact absurd hw_k (by omega)
    | succ wk ih_k =>
      intro k x2 x3 hk_k hw_k ex2 ex3   ls hl
      refine lv_iload_n hx hb dX1_amountUpTo_4 rfl (lv_at hl 1 rfl) ?_
      refine lv_aload_n hx hb dX1_amountUpTo_5 rfl (lv_at hl 2 rfl) ?_
      refine va_get (D := (dC, dI)) (ci := 1) (v := .int (nI n)) (C := RX1) (T := TX1) (N := 7) hx hb hts (by decide +kernel) hown hK hP 0 rfl rfl 4 (by decide) (hts (.fieldLink RX1 31 "CapacityRound$Queue" "count" "I") (by decide +kernel)) (fun _ h9 => h9) rfl dX1_amountUpTo_6 ?_
      refine lv_icmp_ge (tgt := 37) hx hb dX1_amountUpTo_9 (by decide) (fun c_9 => ?_) (fun c_9 => ?_)
      · have hkn : k = n := q_ex ex3 hk_k (by omega) c_9
        refine lv_iload_n hx hb dX1_amountUpTo_37 rfl (lv_at hl 0 rfl) ?_
        exact W.iret (v := x2) hx hb hr (fun tS htS hWS => ⟨congrArg (fun z => Outcome.returned (some (Value.int z))) (ex2.trans (by rw [hkn]) : x2 = z_su fA fE pr n), htS⟩) (fun _ h => nomatch h) dX1_amountUpTo_38
      · have hkn : k < n := q_lt ex3 hk_k (by omega) c_9
        refine lv_aload_n hx hb dX1_amountUpTo_12 rfl (lv_at hl 2 rfl) ?_
        refine va_get (D := (dC, dI)) (ci := 1) (v := .ref aE) (C := RX1) (T := TX1) (N := 7) hx hb hts (by decide +kernel) hown hK hP 0 rfl rfl 5 (by decide) (hts (.fieldLink RX1 24 "CapacityRound$Queue" "exits" "[I") (by decide +kernel)) (fun _ h9 => h9) rfl dX1_amountUpTo_13 ?_
        refine lv_iload_n hx hb dX1_amountUpTo_16 rfl (lv_at hl 1 rfl) ?_
        refine q_iald hx hb hK hP 5 0 rfl rfl k (ex3) (by omega) (by decide) dX1_amountUpTo_17 ?_
        refine lv_iload_n hx hb dX1_amountUpTo_18 rfl (lv_at hl 3 rfl) ?_
        refine lv_icmp_gt (tgt := 31) hx hb dX1_amountUpTo_19 (by decide) (fun c_19 => ?_) (fun c_19 => ?_)
        · have hs : x2 = z_su fA fE pr (k + 1) := by rw [z_su, if_neg (z_nle.mpr c_19), ← ex2, Int32.add_zero]
          refine lv_iinc (v := x3 + 1) (lv' := [(3, .int (x3 + 1)), (2, .int x2), (0, .ref aq), (1, .int pr)]) hx hb dX1_amountUpTo_31 hl (k := 1) rfl rfl (by decide) rfl (fun ls hl => ?_)
          refine lv_goto (tgt := 4) hx hb dX1_amountUpTo_34 (by decide) ?_
          exact ih_k (k + 1) x2 (x3 + 1) (by omega) (by omega) (hs) (q_s1 ex3)   ls (lv_sub hl [1, 0, 2, 3] rfl)
        · have hs : x2 + fA k = z_su fA fE pr (k + 1) := by rw [z_su, if_pos (z_nlt.mp c_19), ← ex2]
          refine lv_iload_n hx hb dX1_amountUpTo_22 rfl (lv_at hl 0 rfl) ?_
          refine lv_aload_n hx hb dX1_amountUpTo_23 rfl (lv_at hl 2 rfl) ?_
          refine va_get (D := (dC, dI)) (ci := 1) (v := .ref aA) (C := RX1) (T := TX1) (N := 7) hx hb hts (by decide +kernel) hown hK hP 0 rfl rfl 1 (by decide) (hts (.fieldLink RX1 15 "CapacityRound$Queue" "amounts" "[I") (by decide +kernel)) (fun _ h9 => h9) rfl dX1_amountUpTo_24 ?_
          refine lv_iload_n hx hb dX1_amountUpTo_27 rfl (lv_at hl 1 rfl) ?_
          refine q_iald hx hb hK hP 2 0 rfl rfl k (ex3) (by omega) (by decide) dX1_amountUpTo_28 ?_
          refine lv_iadd hx hb dX1_amountUpTo_29 ?_
          refine lv_istore_n (lv' := [(2, .int (x2 + (fA k))), (3, .int x3), (0, .ref aq), (1, .int pr)]) hx hb dX1_amountUpTo_30 rfl hl (by decide) rfl (fun ls hl => ?_)
          refine lv_iinc (v := x3 + 1) (lv' := [(3, .int (x3 + 1)), (2, .int (x2 + (fA k))), (0, .ref aq), (1, .int pr)]) hx hb dX1_amountUpTo_31 hl (k := 1) rfl rfl (by decide) rfl (fun ls hl => ?_)
          refine lv_goto (tgt := 4) hx hb dX1_amountUpTo_34 (by decide) ?_
          exact ih_k (k + 1) (x2 + (fA k)) (x3 + 1) (by omega) (by omega) (hs) (q_s1 ex3)   ls (lv_sub hl [1, 0, 2, 3] rfl)
  exact lp_4 (n + 1) 0 0 0 (by omega) (by omega) (rfl) (rfl)   ls (lv_sub hl [1, 0, 2, 3] rfl)
set_option maxHeartbeats 4000000 in
set_option maxRecDepth 100000 in
theorem c_X1_priceOfFirst (l : Launch) (dC : Nat → ClassId) (dI : Nat → Nat → Nat) (cI cZ cJ : ClassId) (aq aP aA aT aO aE aI n : Nat) (fP fA fT fO fE fI : Nat → Int32) (tk : Int32) (t : Nat) (o : Nat → Nat) (hn : n ≤ 12) (ht : tk = nI t) (htn : t ≤ n) (hO : ∀ k, k < n → fO k = nI (o k) ∧ o k < 12) : Met l yX1_priceOfFirst wsX1_priceOfFirst ({ frames := 0, cells := 0, slots := 0, locals := 0 }) (va_Pc [.ref aq, .int tk] (q_R (dC, dI) vwCl (q_T cI cZ cJ) [(aq, .inr (1, [.ref aP, .ref aA, .ref aT, .ref aO, .int (nI n), .ref aE, .ref aI])), (aP, .inl (cI, 12, .inl fP)), (aA, .inl (cI, 12, .inl fA)), (aT, .inl (cI, 12, .inl fT)), (aO, .inl (cI, 12, .inl fO)), (aE, .inl (cI, 12, .inl fE)), (aI, .inl (cZ, 12, .inl fI))])) (QcRead (z_po fE o t)) 0 0 (fun _ => False) := by
  refine Met.ofW (cc := cX1_priceOfFirst) (maxL := 2) (ret := (some .int)) (by decide) rfl ?_
  intro p e s m args below meth c s₁ B hml hv
  obtain ⟨rfl, hP, hK⟩ := hv
  have hx := B.exec
  have hb := B.bytes
  have hr := B.returns
  have hts := atoms_spec (ws := wsX1_priceOfFirst) B.pre
  have hown : s.vm.findClass RX1 = some m.cls := findClass_of_methodNamed B.named
  have hlocks := B.notSynchronized
  have hP : va_P (dC, dI) vwCl [(aq, .inr (1, [.ref aP, .ref aA, .ref aT, .ref aO, .int (nI n), .ref aE, .ref aI])), (aP, .inl (cI, 12, .inl fP)), (aA, .inl (cI, 12, .inl fA)), (aT, .inl (cI, 12, .inl fT)), (aO, .inl (cI, 12, .inl fO)), (aE, .inl (cI, 12, .inl fE)), (aI, .inl (cZ, 12, .inl fI))] s.heap := hP
  have hl := lv_entry ([.ref aq, .int tk]) (n := 2) (Nat.le_of_ble_eq_true rfl)
  rw [lg_entry_eq]
  generalize (lg_sl ([.ref aq, .int tk]) ++ List.replicate (2 - (lg_sl ([.ref aq, .int tk])).length) Slot.unset).toArray = ls at hl ⊢
  have hl : lv_has ls 2 [(0, .ref aq), (1, .int tk)] := hl
  refine lv_iload_n hx hb dX1_priceOfFirst_0 rfl (lv_at hl 1 rfl) ?_
  refine lv_iconst (v := 1) hx hb dX1_priceOfFirst_1 (by decide) ?_
  refine lv_icmp_lt (tgt := 13) hx hb dX1_priceOfFirst_2 (by decide) (fun c_2 => ?_) (fun c_2 => ?_)
  · have h0 : t = 0 := by have h9 := (q_cgt (y := tk) (x := 1) (k := 1) ht rfl (by omega) (by omega)).mp c_2; omega
    have hz : (0 : Int32) = z_po fE o t := by rw [h0]; rfl
    refine lv_iconst (v := 0) hx hb dX1_priceOfFirst_13 (by decide) ?_
    refine lv_goto (tgt := 30) hx hb dX1_priceOfFirst_14 (by decide) ?_
    exact W.iret (v := 0) hx hb hr (fun tS htS hWS => ⟨congrArg (fun z => Outcome.returned (some (Value.int z))) (hz : 0 = z_po fE o t), htS⟩) (fun _ h => nomatch h) dX1_priceOfFirst_30
  · obtain ⟨j, hj⟩ : ∃ j, t = j + 1 := ⟨t - 1, by have h9 := (not_congr (q_cgt (y := tk) (x := 1) (k := 1) ht rfl (by omega) (by omega))).mp c_2; omega⟩
    obtain ⟨ho, ho12⟩ := hO j (by omega)
    refine lv_iload_n hx hb dX1_priceOfFirst_5 rfl (lv_at hl 1 rfl) ?_
    refine lv_aload_n hx hb dX1_priceOfFirst_6 rfl (lv_at hl 0 rfl) ?_
    refine va_get (D := (dC, dI)) (ci := 1) (v := .int (nI n)) (C := RX1) (T := TX1) (N := 7) hx hb hts (by decide +kernel) hown hK hP 0 rfl rfl 4 (by decide) (hts (.fieldLink RX1 31 "CapacityRound$Queue" "count" "I") (by decide +kernel)) (fun _ h9 => h9) rfl dX1_priceOfFirst_7 ?_
    refine lv_icmp_le (tgt := 17) hx hb dX1_priceOfFirst_10 (by decide) (fun c_10 => ?_) (fun c_10 => ?_)
    · have hz : fE (o j) = z_po fE o t := by rw [hj]; rfl
      refine lv_aload_n hx hb dX1_priceOfFirst_17 rfl (lv_at hl 0 rfl) ?_
      refine va_get (D := (dC, dI)) (ci := 1) (v := .ref aE) (C := RX1) (T := TX1) (N := 7) hx hb hts (by decide +kernel) hown hK hP 0 rfl rfl 5 (by decide) (hts (.fieldLink RX1 24 "CapacityRound$Queue" "exits" "[I") (by decide +kernel)) (fun _ h9 => h9) rfl dX1_priceOfFirst_18 ?_
      refine lv_aload_n hx hb dX1_priceOfFirst_21 rfl (lv_at hl 0 rfl) ?_
      refine va_get (D := (dC, dI)) (ci := 1) (v := .ref aO) (C := RX1) (T := TX1) (N := 7) hx hb hts (by decide +kernel) hown hK hP 0 rfl rfl 3 (by decide) (hts (.fieldLink RX1 21 "CapacityRound$Queue" "order" "[I") (by decide +kernel)) (fun _ h9 => h9) rfl dX1_priceOfFirst_22 ?_
      refine lv_iload_n hx hb dX1_priceOfFirst_25 rfl (lv_at hl 1 rfl) ?_
      refine lv_iconst (v := 1) hx hb dX1_priceOfFirst_26 (by decide) ?_
      refine lv_isub hx hb dX1_priceOfFirst_27 ?_
      refine q_iald hx hb hK hP 4 0 rfl rfl j (by rw [ht, hj]; exact nI_pred j) (by omega) (by decide) dX1_priceOfFirst_28 ?_
      refine lv_topi (fun v_1 ev_1 => ?_)
      obtain rfl : v_1 = nI (o j) := ev_1.trans (ho)
      refine q_iald hx hb hK hP 5 0 rfl rfl (o j) (rfl) (ho12) (by decide) dX1_priceOfFirst_29 ?_
      exact W.iret (v := fE (o j)) hx hb hr (fun tS htS hWS => ⟨congrArg (fun z => Outcome.returned (some (Value.int z))) (hz : fE (o j) = z_po fE o t), htS⟩) (fun _ h => nomatch h) dX1_priceOfFirst_30
    · exact absurd ((q_cge (y := tk) (x := nI n) ht rfl (by omega) (by omega)).mpr htn) c_10
set_option maxHeartbeats 4000000 in
set_option maxRecDepth 100000 in
theorem c_X1_isAmongFirst (l : Launch) (dC : Nat → ClassId) (dI : Nat → Nat → Nat) (cI cZ cJ : ClassId) (aq aP aA aT aO aE aI n : Nat) (fP fA fT fO fE fI : Nat → Int32) (wo tk : Int32) (w t : Nat) (o : Nat → Nat) (hn : n ≤ 12) (hw : wo = nI w) (hw12 : w < 12) (ht : tk = nI t) (htn : t ≤ n) (hO : ∀ k, k < n → fO k = nI (o k) ∧ o k < 12) : Met l yX1_isAmongFirst wsX1_isAmongFirst ({ frames := 0, cells := 0, slots := 0, locals := 0 }) (va_Pc [.ref aq, .int wo, .int tk] (q_R (dC, dI) vwCl (q_T cI cZ cJ) [(aq, .inr (1, [.ref aP, .ref aA, .ref aT, .ref aO, .int (nI n), .ref aE, .ref aI])), (aP, .inl (cI, 12, .inl fP)), (aA, .inl (cI, 12, .inl fA)), (aT, .inl (cI, 12, .inl fT)), (aO, .inl (cI, 12, .inl fO)), (aE, .inl (cI, 12, .inl fE)), (aI, .inl (cZ, 12, .inl fI))])) (QcRead (z_b (z_mem o w t))) 0 0 (fun _ => False) := by
  refine Met.ofW (cc := cX1_isAmongFirst) (maxL := 4) (ret := (some .boolean)) (by decide) rfl ?_
  intro p e s m args below meth c s₁ B hml hv
  obtain ⟨rfl, hP, hK⟩ := hv
  have hx := B.exec
  have hb := B.bytes
  have hr := B.returns
  have hts := atoms_spec (ws := wsX1_isAmongFirst) B.pre
  have hown : s.vm.findClass RX1 = some m.cls := findClass_of_methodNamed B.named
  have hlocks := B.notSynchronized
  have hP : va_P (dC, dI) vwCl [(aq, .inr (1, [.ref aP, .ref aA, .ref aT, .ref aO, .int (nI n), .ref aE, .ref aI])), (aP, .inl (cI, 12, .inl fP)), (aA, .inl (cI, 12, .inl fA)), (aT, .inl (cI, 12, .inl fT)), (aO, .inl (cI, 12, .inl fO)), (aE, .inl (cI, 12, .inl fE)), (aI, .inl (cZ, 12, .inl fI))] s.heap := hP
  have hl := lv_entry ([.ref aq, .int wo, .int tk]) (n := 4) (Nat.le_of_ble_eq_true rfl)
  rw [lg_entry_eq]
  generalize (lg_sl ([.ref aq, .int wo, .int tk]) ++ List.replicate (4 - (lg_sl ([.ref aq, .int wo, .int tk])).length) Slot.unset).toArray = ls at hl ⊢
  have hl : lv_has ls 4 [(0, .ref aq), (1, .int wo), (2, .int tk)] := hl
  refine lv_iconst (v := 0) hx hb dX1_isAmongFirst_0 (by decide) ?_
  refine lv_istore_n (lv' := [(3, .int 0), (0, .ref aq), (1, .int wo), (2, .int tk)]) hx hb dX1_isAmongFirst_1 rfl hl (by decide) rfl (fun ls hl => ?_)
  have lp_2 : ∀ (wk k : Nat) (x3 : Int32), k ≤ t → t < k + wk → x3 = nI k → (z_mem o w k = false) → ∀ (ls : Array Slot), lv_has ls 4 [(3, .int x3), (0, .ref aq), (1, .int wo), (2, .int tk)] → W p l e (headSpec wsX1_isAmongFirst ({ frames := 0, cells := 0, slots := 0, locals := 0 })).room s m [.ref aq, .int wo, .int tk].toArray below meth c s.heap [] 0 0 (MQ below (QcRead (z_b (z_mem o w t))) [.ref aq, .int wo, .int tk].toArray s 0 0 (fun _ => False)) (F0 m 2 ls []) := by
    intro wk
    induction wk with
    | zero => intro k x3 hk_k hw_k; exact absurd hw_k (by omega)
    | succ wk ih_k =>
      intro k x3 hk_k hw_k ex3 hm  ls hl
      refine lv_iload_n hx hb dX1_isAmongFirst_2 rfl (lv_at hl 0 rfl) ?_
      refine lv_iload_n hx hb dX1_isAmongFirst_3 rfl (lv_at hl 3 rfl) ?_
      refine lv_icmp_ge (tgt := 33) hx hb dX1_isAmongFirst_4 (by decide) (fun c_4 => ?_) (fun c_4 => ?_)
      · have hkn : k = t := q_ex ex3 hk_k (by omega) (by rw [← ht]; exact c_4)
        refine lv_iconst (v := 0) hx hb dX1_isAmongFirst_33 (by decide) ?_
        exact W.zret (v := 0) (ty := .boolean) hx hb hr (rfl) (fun tS htS hWS => ⟨congrArg (fun z => Outcome.returned (some (Value.int z))) (by rw [← hkn, hm]; rfl : 0 = z_b (z_mem o w t)), htS⟩) (fun _ h => nomatch h) dX1_isAmongFirst_34
      · have hkn : k < t := q_lt ex3 hk_k (by omega) (by rw [← ht]; exact c_4)
        obtain ⟨ho, ho12⟩ := hO k (by omega)
        refine lv_iload_n hx hb dX1_isAmongFirst_7 rfl (lv_at hl 0 rfl) ?_
        refine lv_aload_n hx hb dX1_isAmongFirst_8 rfl (lv_at hl 1 rfl) ?_
        refine va_get (D := (dC, dI)) (ci := 1) (v := .int (nI n)) (C := RX1) (T := TX1) (N := 7) hx hb hts (by decide +kernel) hown hK hP 0 rfl rfl 4 (by decide) (hts (.fieldLink RX1 31 "CapacityRound$Queue" "count" "I") (by decide +kernel)) (fun _ h9 => h9) rfl dX1_isAmongFirst_9 ?_
        refine lv_icmp_ge (tgt := 33) hx hb dX1_isAmongFirst_12 (by decide) (fun c_12 => ?_) (fun c_12 => ?_)
        · exact absurd (q_ex ex3 (by omega) (by omega) c_12) (by omega)
        · have h9 := c_12
          refine lv_aload_n hx hb dX1_isAmongFirst_15 rfl (lv_at hl 1 rfl) ?_
          refine va_get (D := (dC, dI)) (ci := 1) (v := .ref aO) (C := RX1) (T := TX1) (N := 7) hx hb hts (by decide +kernel) hown hK hP 0 rfl rfl 3 (by decide) (hts (.fieldLink RX1 21 "CapacityRound$Queue" "order" "[I") (by decide +kernel)) (fun _ h9 => h9) rfl dX1_isAmongFirst_16 ?_
          refine lv_iload_n hx hb dX1_isAmongFirst_19 rfl (lv_at hl 0 rfl) ?_
          refine q_iald hx hb hK hP 4 0 rfl rfl k (ex3) (by omega) (by decide) dX1_isAmongFirst_20 ?_
          refine lv_topi (fun v_1 ev_1 => ?_)
          obtain rfl : v_1 = nI (o k) := ev_1.trans (ho)
          refine lv_iload_n hx hb dX1_isAmongFirst_21 rfl (lv_at hl 2 rfl) ?_
          refine lv_icmp_ne (tgt := 27) hx hb dX1_isAmongFirst_22 (by decide) (fun c_22 => ?_) (fun c_22 => ?_)
          · have hne : ¬ o k = w := fun q => c_22 (by rw [hw, q])
            refine lv_iinc (v := x3 + 1) (lv' := [(3, .int (x3 + 1)), (0, .ref aq), (1, .int wo), (2, .int tk)]) hx hb dX1_isAmongFirst_27 hl (k := 0) rfl rfl (by decide) rfl (fun ls hl => ?_)
            refine lv_goto (tgt := 2) hx hb dX1_isAmongFirst_30 (by decide) ?_
            exact ih_k (k + 1) (x3 + 1) (by omega) (by omega) (q_s1 ex3) (z_mems hm hne)  ls (lv_sub hl [0, 1, 2, 3] rfl)
          · have heq : o k = w := (q_ceq (y := nI (o k)) rfl hw (by omega) (by omega)).mp c_22
            refine lv_iconst (v := 1) hx hb dX1_isAmongFirst_25 (by decide) ?_
            exact W.zret (v := 1) (ty := .boolean) hx hb hr (rfl) (fun tS htS hWS => ⟨congrArg (fun z => Outcome.returned (some (Value.int z))) (by rw [z_memt hkn heq]; rfl : 1 = z_b (z_mem o w t)), htS⟩) (fun _ h => nomatch h) dX1_isAmongFirst_26
  exact lp_2 (t + 1) 0 0 (by omega) (by omega) (rfl) (rfl)  ls (lv_sub hl [0, 1, 2, 3] rfl)
set_option maxHeartbeats 4000000 in
set_option maxRecDepth 100000 in
theorem c_X1_dearestIn (l : Launch) (dC : Nat → ClassId) (dI : Nat → Nat → Nat) (cI cZ cJ : ClassId) (aq aP aA aT aO aE aI n : Nat) (fP fA fT fO fE fI : Nat → Int32) (hn : n ≤ 12) : Met l yX1_dearestIn wsX1_dearestIn ({ frames := 0, cells := 0, slots := 0, locals := 0 }) (va_Pc [.ref aq] (q_R (dC, dI) vwCl (q_T cI cZ cJ) [(aq, .inr (1, [.ref aP, .ref aA, .ref aT, .ref aO, .int (nI n), .ref aE, .ref aI])), (aP, .inl (cI, 12, .inl fP)), (aA, .inl (cI, 12, .inl fA)), (aT, .inl (cI, 12, .inl fT)), (aO, .inl (cI, 12, .inl fO)), (aE, .inl (cI, 12, .inl fE)), (aI, .inl (cZ, 12, .inl fI))])) (QcRead (z_de fI fE n)) 0 0 (fun _ => False) := by
  refine Met.ofW (cc := cX1_dearestIn) (maxL := 3) (ret := (some .int)) (by decide) rfl ?_
  intro p e s m args below meth c s₁ B hml hv
  obtain ⟨rfl, hP, hK⟩ := hv
  have hx := B.exec
  have hb := B.bytes
  have hr := B.returns
  have hts := atoms_spec (ws := wsX1_dearestIn) B.pre
  have hown : s.vm.findClass RX1 = some m.cls := findClass_of_methodNamed B.named
  have hlocks := B.notSynchronized
  have hP : va_P (dC, dI) vwCl [(aq, .inr (1, [.ref aP, .ref aA, .ref aT, .ref aO, .int (nI n), .ref aE, .ref aI])), (aP, .inl (cI, 12, .inl fP)), (aA, .inl (cI, 12, .inl fA)), (aT, .inl (cI, 12, .inl fT)), (aO, .inl (cI, 12, .inl fO)), (aE, .inl (cI, 12, .inl fE)), (aI, .inl (cZ, 12, .inl fI))] s.heap := hP
  have hl := lv_entry ([.ref aq]) (n := 3) (Nat.le_of_ble_eq_true rfl)
  rw [lg_entry_eq]
  generalize (lg_sl ([.ref aq]) ++ List.replicate (3 - (lg_sl ([.ref aq])).length) Slot.unset).toArray = ls at hl ⊢
  have hl : lv_has ls 3 [(0, .ref aq)] := hl
  refine lv_iconst (v := (-1)) hx hb dX1_dearestIn_0 (by decide) ?_
  refine lv_istore_n (lv' := [(1, .int (-1)), (0, .ref aq)]) hx hb dX1_dearestIn_1 rfl hl (by decide) rfl (fun ls hl => ?_)
  refine lv_iconst (v := 0) hx hb dX1_dearestIn_2 (by decide) ?_
  refine lv_istore_n (lv' := [(2, .int 0), (1, .int (-1)), (0, .ref aq)]) hx hb dX1_dearestIn_3 rfl hl (by decide) rfl (fun ls hl => ?_)
  have lp_4 : ∀ (wk k : Nat) (x1 : Int32) (x2 : Int32), k ≤ n → n < k + wk → x1 = z_de fI fE k → x2 = nI k → ∀ (ls : Array Slot), lv_has ls 3 [(1, .int x1), (2, .int x2), (0, .ref aq)] → W p l e (headSpec wsX1_dearestIn ({ frames := 0, cells := 0, slots := 0, locals := 0 })).room s m [.ref aq].toArray below meth c s.heap [] 0 0 (MQ below (QcRead (z_de fI fE n)) [.ref aq].toArray s 0 0 (fun _ => False)) (F0 m 4 ls []) := by
    intro wk
    induction wk with
    | zero => intro k x1 x2 hk_k hw_k; exact absurd hw_k (by omega)
    | succ wk ih_k =>
      intro k x1 x2 hk_k hw_k ex1 ex2   ls hl
      refine lv_iload_n hx hb dX1_dearestIn_4 rfl (lv_at hl 1 rfl) ?_
      refine lv_aload_n hx hb dX1_dearestIn_5 rfl (lv_at hl 2 rfl) ?_
      refine va_get (D := (dC, dI)) (ci := 1) (v := .int (nI n)) (C := RX1) (T := TX1) (N := 7) hx hb hts (by decide +kernel) hown hK hP 0 rfl rfl 4 (by decide) (hts (.fieldLink RX1 31 "CapacityRound$Queue" "count" "I") (by decide +kernel)) (fun _ h9 => h9) rfl dX1_dearestIn_6 ?_
      refine lv_icmp_ge (tgt := 49) hx hb dX1_dearestIn_9 (by decide) (fun c_9 => ?_) (fun c_9 => ?_)
      · have hkn : k = n := q_ex ex2 hk_k (by omega) c_9
        refine lv_iload_n hx hb dX1_dearestIn_49 rfl (lv_at hl 0 rfl) ?_
        exact W.iret (v := x1) hx hb hr (fun tS htS hWS => ⟨congrArg (fun z => Outcome.returned (some (Value.int z))) (ex1.trans (by rw [hkn]) : x1 = z_de fI fE n), htS⟩) (fun _ h => nomatch h) dX1_dearestIn_50
      · have hkn : k < n := q_lt ex2 hk_k (by omega) c_9
        refine lv_aload_n hx hb dX1_dearestIn_12 rfl (lv_at hl 2 rfl) ?_
        refine va_get (D := (dC, dI)) (ci := 1) (v := .ref aI) (C := RX1) (T := TX1) (N := 7) hx hb hts (by decide +kernel) hown hK hP 0 rfl rfl 6 (by decide) (hts (.fieldLink RX1 27 "CapacityRound$Queue" "in" "[Z") (by decide +kernel)) (fun _ h9 => h9) rfl dX1_dearestIn_13 ?_
        refine lv_iload_n hx hb dX1_dearestIn_16 rfl (lv_at hl 1 rfl) ?_
        refine q_zald hx hb hK hP 6 1 rfl rfl k (ex2) (by omega) (by decide) dX1_dearestIn_17 ?_
        refine lv_if_eq (tgt := 43) hx hb dX1_dearestIn_18 (by decide) (fun c_18 => ?_) (fun c_18 => ?_)
        · have hs : x1 = z_de fI fE (k + 1) := by rw [z_de1 c_18]; exact ex1
          refine lv_iinc (v := x2 + 1) (lv' := [(2, .int (x2 + 1)), (1, .int x1), (0, .ref aq)]) hx hb dX1_dearestIn_43 hl (k := 1) rfl rfl (by decide) rfl (fun ls hl => ?_)
          refine lv_goto (tgt := 4) hx hb dX1_dearestIn_46 (by decide) ?_
          exact ih_k (k + 1) x1 (x2 + 1) (by omega) (by omega) (hs) (q_s1 ex2)   ls (lv_sub hl [1, 0, 2] rfl)
        · have h9 := c_18
          refine lv_iload_n hx hb dX1_dearestIn_21 rfl (lv_at hl 0 rfl) ?_
          refine lv_iconst (v := (-1)) hx hb dX1_dearestIn_22 (by decide) ?_
          refine lv_icmp_eq (tgt := 41) hx hb dX1_dearestIn_23 (by decide) (fun c_23 => ?_) (fun c_23 => ?_)
          · have hs : x2 = z_de fI fE (k + 1) := by rw [z_de2 c_18 (by rw [← ex1]; exact c_23)]; exact ex2
            refine lv_iload_n hx hb dX1_dearestIn_41 rfl (lv_at hl 1 rfl) ?_
            refine lv_istore_n (lv' := [(1, .int x2), (2, .int x2), (0, .ref aq)]) hx hb dX1_dearestIn_42 rfl hl (by decide) rfl (fun ls hl => ?_)
            refine lv_iinc (v := x2 + 1) (lv' := [(2, .int (x2 + 1)), (1, .int x2), (0, .ref aq)]) hx hb dX1_dearestIn_43 hl (k := 1) rfl rfl (by decide) rfl (fun ls hl => ?_)
            refine lv_goto (tgt := 4) hx hb dX1_dearestIn_46 (by decide) ?_
            exact ih_k (k + 1) x2 (x2 + 1) (by omega) (by omega) (hs) (q_s1 ex2)   ls (lv_sub hl [1, 0, 2] rfl)
          · have h1 : ¬ z_de fI fE k = -1 := by rw [← ex1]; exact c_23
            obtain ⟨j1, j2⟩ := (z_dein fI fE k (by omega)).resolve_left h1
            refine lv_aload_n hx hb dX1_dearestIn_26 rfl (lv_at hl 2 rfl) ?_
            refine va_get (D := (dC, dI)) (ci := 1) (v := .ref aE) (C := RX1) (T := TX1) (N := 7) hx hb hts (by decide +kernel) hown hK hP 0 rfl rfl 5 (by decide) (hts (.fieldLink RX1 24 "CapacityRound$Queue" "exits" "[I") (by decide +kernel)) (fun _ h9 => h9) rfl dX1_dearestIn_27 ?_
            refine lv_iload_n hx hb dX1_dearestIn_30 rfl (lv_at hl 1 rfl) ?_
            refine q_iald hx hb hK hP 5 0 rfl rfl k (ex2) (by omega) (by decide) dX1_dearestIn_31 ?_
            refine lv_aload_n hx hb dX1_dearestIn_32 rfl (lv_at hl 2 rfl) ?_
            refine va_get (D := (dC, dI)) (ci := 1) (v := .ref aE) (C := RX1) (T := TX1) (N := 7) hx hb hts (by decide +kernel) hown hK hP 0 rfl rfl 5 (by decide) (hts (.fieldLink RX1 24 "CapacityRound$Queue" "exits" "[I") (by decide +kernel)) (fun _ h9 => h9) rfl dX1_dearestIn_33 ?_
            refine lv_iload_n hx hb dX1_dearestIn_36 rfl (lv_at hl 0 rfl) ?_
            refine q_iald hx hb hK hP 5 0 rfl rfl (z_n (z_de fI fE k)) (ex1.trans j1) (by omega) (by decide) dX1_dearestIn_37 ?_
            refine lv_icmp_lt (tgt := 43) hx hb dX1_dearestIn_38 (by decide) (fun c_38 => ?_) (fun c_38 => ?_)
            · have hs : x1 = z_de fI fE (k + 1) := by rw [z_de4 c_18 h1 (z_nle.mpr c_38)]; exact ex1
              refine lv_iinc (v := x2 + 1) (lv' := [(2, .int (x2 + 1)), (1, .int x1), (0, .ref aq)]) hx hb dX1_dearestIn_43 hl (k := 1) rfl rfl (by decide) rfl (fun ls hl => ?_)
              refine lv_goto (tgt := 4) hx hb dX1_dearestIn_46 (by decide) ?_
              exact ih_k (k + 1) x1 (x2 + 1) (by omega) (by omega) (hs) (q_s1 ex2)   ls (lv_sub hl [1, 0, 2] rfl)
            · have hs : x2 = z_de fI fE (k + 1) := by rw [z_de3 c_18 h1 (z_nlt.mp c_38)]; exact ex2
              refine lv_iload_n hx hb dX1_dearestIn_41 rfl (lv_at hl 1 rfl) ?_
              refine lv_istore_n (lv' := [(1, .int x2), (2, .int x2), (0, .ref aq)]) hx hb dX1_dearestIn_42 rfl hl (by decide) rfl (fun ls hl => ?_)
              refine lv_iinc (v := x2 + 1) (lv' := [(2, .int (x2 + 1)), (1, .int x2), (0, .ref aq)]) hx hb dX1_dearestIn_43 hl (k := 1) rfl rfl (by decide) rfl (fun ls hl => ?_)
              refine lv_goto (tgt := 4) hx hb dX1_dearestIn_46 (by decide) ?_
              exact ih_k (k + 1) x2 (x2 + 1) (by omega) (by omega) (hs) (q_s1 ex2)   ls (lv_sub hl [1, 0, 2] rfl)
  exact lp_4 (n + 1) 0 (-1) 0 (by omega) (by omega) (rfl) (rfl)   ls (lv_sub hl [1, 0, 2] rfl)
set_option maxHeartbeats 4000000 in
set_option maxRecDepth 100000 in
theorem c_X1_exitOf (l : Launch) (dC : Nat → ClassId) (dI : Nat → Nat → Nat) (cI cZ cJ : ClassId) (aq aP aA aT aO aE aI n : Nat) (fP fA fT fO fE fI : Nat → Int32) (w : Int32) (hw : w = -1 ∨ (w = nI (z_n w) ∧ z_n w < 12)) : Met l yX1_exitOf wsX1_exitOf ({ frames := 0, cells := 0, slots := 0, locals := 0 }) (va_Pc [.ref aq, .int w] (q_R (dC, dI) vwCl (q_T cI cZ cJ) [(aq, .inr (1, [.ref aP, .ref aA, .ref aT, .ref aO, .int (nI n), .ref aE, .ref aI])), (aP, .inl (cI, 12, .inl fP)), (aA, .inl (cI, 12, .inl fA)), (aT, .inl (cI, 12, .inl fT)), (aO, .inl (cI, 12, .inl fO)), (aE, .inl (cI, 12, .inl fE)), (aI, .inl (cZ, 12, .inl fI))])) (QcRead (z_xo fE w)) 0 0 (fun _ => False) := by
  refine Met.ofW (cc := cX1_exitOf) (maxL := 2) (ret := (some .int)) (by decide) rfl ?_
  intro p e s m args below meth c s₁ B hml hv
  obtain ⟨rfl, hP, hK⟩ := hv
  have hx := B.exec
  have hb := B.bytes
  have hr := B.returns
  have hts := atoms_spec (ws := wsX1_exitOf) B.pre
  have hown : s.vm.findClass RX1 = some m.cls := findClass_of_methodNamed B.named
  have hlocks := B.notSynchronized
  have hP : va_P (dC, dI) vwCl [(aq, .inr (1, [.ref aP, .ref aA, .ref aT, .ref aO, .int (nI n), .ref aE, .ref aI])), (aP, .inl (cI, 12, .inl fP)), (aA, .inl (cI, 12, .inl fA)), (aT, .inl (cI, 12, .inl fT)), (aO, .inl (cI, 12, .inl fO)), (aE, .inl (cI, 12, .inl fE)), (aI, .inl (cZ, 12, .inl fI))] s.heap := hP
  have hl := lv_entry ([.ref aq, .int w]) (n := 2) (Nat.le_of_ble_eq_true rfl)
  rw [lg_entry_eq]
  generalize (lg_sl ([.ref aq, .int w]) ++ List.replicate (2 - (lg_sl ([.ref aq, .int w])).length) Slot.unset).toArray = ls at hl ⊢
  have hl : lv_has ls 2 [(0, .ref aq), (1, .int w)] := hl
  refine lv_iload_n hx hb dX1_exitOf_0 rfl (lv_at hl 1 rfl) ?_
  refine lv_iconst (v := (-1)) hx hb dX1_exitOf_1 (by decide) ?_
  refine lv_icmp_ne (tgt := 9) hx hb dX1_exitOf_2 (by decide) (fun c_2 => ?_) (fun c_2 => ?_)
  · have hz : fE (z_n w) = z_xo fE w := by unfold z_xo; rw [if_neg c_2]
    obtain ⟨j1, j2⟩ := hw.resolve_left c_2
    refine lv_aload_n hx hb dX1_exitOf_9 rfl (lv_at hl 0 rfl) ?_
    refine va_get (D := (dC, dI)) (ci := 1) (v := .ref aE) (C := RX1) (T := TX1) (N := 7) hx hb hts (by decide +kernel) hown hK hP 0 rfl rfl 5 (by decide) (hts (.fieldLink RX1 24 "CapacityRound$Queue" "exits" "[I") (by decide +kernel)) (fun _ h9 => h9) rfl dX1_exitOf_10 ?_
    refine lv_iload_n hx hb dX1_exitOf_13 rfl (lv_at hl 1 rfl) ?_
    refine q_iald hx hb hK hP 5 0 rfl rfl (z_n w) (j1) (j2) (by decide) dX1_exitOf_14 ?_
    exact W.iret (v := fE (z_n w)) hx hb hr (fun tS htS hWS => ⟨congrArg (fun z => Outcome.returned (some (Value.int z))) (hz : fE (z_n w) = z_xo fE w), htS⟩) (fun _ h => nomatch h) dX1_exitOf_15
  · have hz : 0 = z_xo fE w := by unfold z_xo; rw [if_pos c_2]
    refine lv_iconst (v := 0) hx hb dX1_exitOf_5 (by decide) ?_
    refine lv_goto (tgt := 15) hx hb dX1_exitOf_6 (by decide) ?_
    exact W.iret (v := 0) hx hb hr (fun tS htS hWS => ⟨congrArg (fun z => Outcome.returned (some (Value.int z))) (hz : 0 = z_xo fE w), htS⟩) (fun _ h => nomatch h) dX1_exitOf_15
end
section
set_option maxHeartbeats 4000000 in
set_option maxRecDepth 100000 in
theorem c_X1_priceByClock (l : Launch) (dC : Nat → ClassId) (dI : Nat → Nat → Nat) (cI cZ cJ : ClassId) (aq aP aA aT aO aE aI n : Nat) (fP fA fT fO fE fI : Nat → Int32) (ad aw : Nat) (lo up tp : Int32) (fW : Nat → Int32) (b : Int32) (hn : n ≤ 12) (hlv : ∀ i, i < n → ¬ z_kl fI fE n i = -1) : Met l yX1_priceByClock wsX1_priceByClock ({ frames := 2, cells := 0, slots := 0, locals := 44 }) (va_Pc [.ref aq, .ref ad, .int b] (q_M (dC, dI) vwCl (q_T cI cZ cJ) [(aq, .inr (1, [.ref aP, .ref aA, .ref aT, .ref aO, .int (nI n), .ref aE, .ref aI])), (aP, .inl (cI, 12, .inl fP)), (aA, .inl (cI, 12, .inl fA)), (aT, .inl (cI, 12, .inl fT)), (aO, .inl (cI, 12, .inl fO)), (aE, .inl (cI, 12, .inl fE)), (aI, .inl (cZ, 12, .inl fI)), (ad, .inr (0, [.ref aw, .int lo, .int up, .int tp])), (aw, .inl (cI, 1002, .inl fW))])) (q_W (some (.int ((z_kb fI fE n (z_kw fI fE n fW b fA) n).2))) (dC, dI) vwCl [(aq, .inr (1, [.ref aP, .ref aA, .ref aT, .ref aO, .int (nI n), .ref aE, .ref aI])), (aP, .inl (cI, 12, .inl fP)), (aA, .inl (cI, 12, .inl fA)), (aT, .inl (cI, 12, .inl fT)), (aO, .inl (cI, 12, .inl fO)), (aE, .inl (cI, 12, .inl fE)), (aI, .inl (cZ, 12, .inl (z_kI fI fE n n))), (ad, .inr (0, [.ref aw, .int lo, .int up, .int tp])), (aw, .inl (cI, 1002, .inl fW))] (q_B [(aq, .inr (1, [.ref aP, .ref aA, .ref aT, .ref aO, .int (nI n), .ref aE, .ref aI])), (aP, .inl (cI, 12, .inl fP)), (aA, .inl (cI, 12, .inl fA)), (aT, .inl (cI, 12, .inl fT)), (aO, .inl (cI, 12, .inl fO)), (aE, .inl (cI, 12, .inl fE)), (aI, .inl (cZ, 12, .inl fI)), (ad, .inr (0, [.ref aw, .int lo, .int up, .int tp])), (aw, .inl (cI, 1002, .inl fW))])) 0 0 (q_B [(aq, .inr (1, [.ref aP, .ref aA, .ref aT, .ref aO, .int (nI n), .ref aE, .ref aI])), (aP, .inl (cI, 12, .inl fP)), (aA, .inl (cI, 12, .inl fA)), (aT, .inl (cI, 12, .inl fT)), (aO, .inl (cI, 12, .inl fO)), (aE, .inl (cI, 12, .inl fE)), (aI, .inl (cZ, 12, .inl fI)), (ad, .inr (0, [.ref aw, .int lo, .int up, .int tp])), (aw, .inl (cI, 1002, .inl fW))]) := by
  refine Met.ofW (cc := cX1_priceByClock) (maxL := 10) (ret := (some .int)) (by decide) rfl ?_
  intro p e s m args below meth c s₁ B hml hv
  obtain ⟨rfl, hP, hK, hD0⟩ := hv
  have hx := B.exec
  have hb := B.bytes
  have hr := B.returns
  have hts := atoms_spec (ws := wsX1_priceByClock) B.pre
  have hown : s.vm.findClass RX1 = some m.cls := findClass_of_methodNamed B.named
  have hlocks := B.notSynchronized
  have hD := q_Bself hD0
  generalize hAe : q_B [(aq, .inr (1, [.ref aP, .ref aA, .ref aT, .ref aO, .int (nI n), .ref aE, .ref aI])), (aP, .inl (cI, 12, .inl fP)), (aA, .inl (cI, 12, .inl fA)), (aT, .inl (cI, 12, .inl fT)), (aO, .inl (cI, 12, .inl fO)), (aE, .inl (cI, 12, .inl fE)), (aI, .inl (cZ, 12, .inl fI)), (ad, .inr (0, [.ref aw, .int lo, .int up, .int tp])), (aw, .inl (cI, 1002, .inl fW))] = A at hD ⊢
  have hS : va_S A s.heap s.heap [] := va_S.rf
  have hP : va_P (dC, dI) vwCl [(aq, .inr (1, [.ref aP, .ref aA, .ref aT, .ref aO, .int (nI n), .ref aE, .ref aI])), (aP, .inl (cI, 12, .inl fP)), (aA, .inl (cI, 12, .inl fA)), (aT, .inl (cI, 12, .inl fT)), (aO, .inl (cI, 12, .inl fO)), (aE, .inl (cI, 12, .inl fE)), (aI, .inl (cZ, 12, .inl fI)), (ad, .inr (0, [.ref aw, .int lo, .int up, .int tp])), (aw, .inl (cI, 1002, .inl fW))] s.heap := hP
  have hl := lv_entry ([.ref aq, .ref ad, .int b]) (n := 10) (Nat.le_of_ble_eq_true rfl)
  rw [lg_entry_eq]
  generalize (lg_sl ([.ref aq, .ref ad, .int b]) ++ List.replicate (10 - (lg_sl ([.ref aq, .ref ad, .int b])).length) Slot.unset).toArray = ls at hl ⊢
  have hl : lv_has ls 10 [(0, .ref aq), (1, .ref ad), (2, .int b)] := hl
  refine lv_iload_n hx hb dX1_priceByClock_0 rfl (lv_at hl 2 rfl) ?_
  refine lv_istore_n (lv' := [(3, .int b), (0, .ref aq), (1, .ref ad), (2, .int b)]) hx hb dX1_priceByClock_1 rfl hl (by decide) rfl (fun ls hl => ?_)
  refine lv_iconst (v := 0) hx hb dX1_priceByClock_2 (by decide) ?_
  refine lv_istore (lv' := [(4, .int 0), (3, .int b), (0, .ref aq), (1, .ref ad), (2, .int b)]) hx hb dX1_priceByClock_3 hl (by decide) rfl (fun ls hl => ?_)
  refine lv_iconst (v := 0) hx hb dX1_priceByClock_5 (by decide) ?_
  refine lv_istore (lv' := [(5, .int 0), (4, .int 0), (3, .int b), (0, .ref aq), (1, .ref ad), (2, .int b)]) hx hb dX1_priceByClock_6 hl (by decide) rfl (fun ls hl => ?_)
  have lp_8 : ∀ (wk k : Nat) (x3 : Int32) (x4 : Int32) (x5 : Int32), k ≤ n → n < k + wk → x3 = z_am b fA (fun j => j) k → x4 = z_co fA fE (fun j => j) k → x5 = nI k → ∀ (H : Heap) (locs : List Loc), va_P (dC, dI) vwCl [(aq, .inr (1, [.ref aP, .ref aA, .ref aT, .ref aO, .int (nI n), .ref aE, .ref aI])), (aP, .inl (cI, 12, .inl fP)), (aA, .inl (cI, 12, .inl fA)), (aT, .inl (cI, 12, .inl fT)), (aO, .inl (cI, 12, .inl fO)), (aE, .inl (cI, 12, .inl fE)), (aI, .inl (cZ, 12, .inl (z_one fI k))), (ad, .inr (0, [.ref aw, .int lo, .int up, .int tp])), (aw, .inl (cI, 1002, .inl fW))] H → va_D A [(aq, .inr (1, [.ref aP, .ref aA, .ref aT, .ref aO, .int (nI n), .ref aE, .ref aI])), (aP, .inl (cI, 12, .inl fP)), (aA, .inl (cI, 12, .inl fA)), (aT, .inl (cI, 12, .inl fT)), (aO, .inl (cI, 12, .inl fO)), (aE, .inl (cI, 12, .inl fE)), (aI, .inl (cZ, 12, .inl (z_one fI k))), (ad, .inr (0, [.ref aw, .int lo, .int up, .int tp])), (aw, .inl (cI, 1002, .inl fW))] → va_S A s.heap H locs → ∀ (ls : Array Slot), lv_has ls 10 [(3, .int x3), (4, .int x4), (5, .int x5), (0, .ref aq), (1, .ref ad), (2, .int b)] → W p l e (headSpec wsX1_priceByClock ({ frames := 2, cells := 0, slots := 0, locals := 44 })).room s m [.ref aq, .ref ad, .int b].toArray below meth c H locs 0 0 (MQ below (q_W (some (.int ((z_kb fI fE n (z_kw fI fE n fW b fA) n).2))) (dC, dI) vwCl [(aq, .inr (1, [.ref aP, .ref aA, .ref aT, .ref aO, .int (nI n), .ref aE, .ref aI])), (aP, .inl (cI, 12, .inl fP)), (aA, .inl (cI, 12, .inl fA)), (aT, .inl (cI, 12, .inl fT)), (aO, .inl (cI, 12, .inl fO)), (aE, .inl (cI, 12, .inl fE)), (aI, .inl (cZ, 12, .inl (z_kI fI fE n n))), (ad, .inr (0, [.ref aw, .int lo, .int up, .int tp])), (aw, .inl (cI, 1002, .inl fW))] A) [.ref aq, .ref ad, .int b].toArray s 0 0 A) (F0 m 8 ls []) := by
    intro wk
    induction wk with
    | zero => intro k x3 x4 x5 hk_k hw_k; exact absurd hw_k (by omega)
    | succ wk ih_k =>
      intro k x3 x4 x5 hk_k hw_k ex3 ex4 ex5  H locs hP hD hS ls hl
      refine lv_iload hx hb dX1_priceByClock_8 (lv_at hl 2 rfl) ?_
      refine lv_aload_n hx hb dX1_priceByClock_10 rfl (lv_at hl 3 rfl) ?_
      refine va_get (D := (dC, dI)) (ci := 1) (v := .int (nI n)) (C := RX1) (T := TX1) (N := 7) hx hb hts (by decide +kernel) hown hK hP 0 rfl rfl 4 (by decide) (hts (.fieldLink RX1 31 "CapacityRound$Queue" "count" "I") (by decide +kernel)) (fun _ h9 => h9) rfl dX1_priceByClock_11 ?_
      refine lv_icmp_ge (tgt := 61) hx hb dX1_priceByClock_14 (by decide) (fun c_14 => ?_) (fun c_14 => ?_)
      · have hkn : k = n := q_ex ex5 hk_k (by omega) c_14
        rw [hkn] at hP hD ex3 ex4
        have hP : va_P (dC, dI) vwCl [(aq, .inr (1, [.ref aP, .ref aA, .ref aT, .ref aO, .int (nI n), .ref aE, .ref aI])), (aP, .inl (cI, 12, .inl fP)), (aA, .inl (cI, 12, .inl fA)), (aT, .inl (cI, 12, .inl fT)), (aO, .inl (cI, 12, .inl fO)), (aE, .inl (cI, 12, .inl fE)), (aI, .inl (cZ, 12, .inl (z_kI fI fE n 0))), (ad, .inr (0, [.ref aw, .int lo, .int up, .int tp])), (aw, .inl (cI, 1002, .inl fW))] H := hP
        have hD : va_D A [(aq, .inr (1, [.ref aP, .ref aA, .ref aT, .ref aO, .int (nI n), .ref aE, .ref aI])), (aP, .inl (cI, 12, .inl fP)), (aA, .inl (cI, 12, .inl fA)), (aT, .inl (cI, 12, .inl fT)), (aO, .inl (cI, 12, .inl fO)), (aE, .inl (cI, 12, .inl fE)), (aI, .inl (cZ, 12, .inl (z_kI fI fE n 0))), (ad, .inr (0, [.ref aw, .int lo, .int up, .int tp])), (aw, .inl (cI, 1002, .inl fW))] := hD
        refine lv_aload_n hx hb dX1_priceByClock_61 rfl (lv_at hl 4 rfl) ?_
        refine lv_iload_n hx hb dX1_priceByClock_62 rfl (lv_at hl 0 rfl) ?_
        refine q_rV (wc := [(ad, .inr (0, [.ref aw, .int lo, .int up, .int tp])), (aw, .inl (cI, 1002, .inl fW))]) (r := (fW (z_wi x3))) (As := [.int x3]) (rest := []) ⟨hx, hb, hml, hown, hts⟩ (c_X0_worthOf l dC dI cI cZ cJ ad aw lo up tp fW x3) (cwV 1 hts gX1_priceByClock_X0_worthOf rfl rfl rfl (by decide +kernel) ⟨Nat.le_of_ble_eq_true rfl, Nat.le_of_ble_eq_true rfl⟩) hK (hP.sub [7, 8] rfl) 0 0 rfl rfl rfl rfl hl.1 rfl (Nat.le_of_ble_eq_true rfl) dX1_priceByClock_63 ⟨Nat.zero_le _, Nat.zero_le _⟩ ?_
        refine lv_iload hx hb dX1_priceByClock_66 (lv_at hl 1 rfl) ?_
        refine lv_isub hx hb dX1_priceByClock_68 ?_
        refine lv_istore (lv' := [(5, .int ((fW (z_wi x3)) - x4)), (3, .int x3), (4, .int x4), (0, .ref aq), (1, .ref ad), (2, .int b)]) hx hb dX1_priceByClock_69 hl (by decide) rfl (fun ls hl => ?_)
        refine lv_aload_n hx hb dX1_priceByClock_71 rfl (lv_at hl 3 rfl) ?_
        refine q_rV (wc := [(aq, .inr (1, [.ref aP, .ref aA, .ref aT, .ref aO, .int (nI n), .ref aE, .ref aI])), (aP, .inl (cI, 12, .inl fP)), (aA, .inl (cI, 12, .inl fA)), (aT, .inl (cI, 12, .inl fT)), (aO, .inl (cI, 12, .inl fO)), (aE, .inl (cI, 12, .inl fE)), (aI, .inl (cZ, 12, .inl (z_kI fI fE n 0)))]) (r := (z_kl fI fE n 0)) (As := []) (rest := []) ⟨hx, hb, hml, hown, hts⟩ (c_X1_dearestIn l dC dI cI cZ cJ aq aP aA aT aO aE aI n fP fA fT fO fE (z_kI fI fE n 0) hn) (cwV 0 hts gX1_priceByClock_X1_dearestIn rfl rfl rfl (by decide +kernel) ⟨Nat.le_of_ble_eq_true rfl, Nat.le_of_ble_eq_true rfl⟩) hK (hP.sub [0, 1, 2, 3, 4, 5, 6] rfl) 1 0 rfl rfl rfl rfl hl.1 rfl (Nat.le_of_ble_eq_true rfl) dX1_priceByClock_72 ⟨Nat.zero_le _, Nat.zero_le _⟩ ?_
        refine lv_istore (lv' := [(6, .int (z_kl fI fE n 0)), (5, .int ((fW (z_wi x3)) - x4)), (3, .int x3), (4, .int x4), (0, .ref aq), (1, .ref ad), (2, .int b)]) hx hb dX1_priceByClock_75 hl (by decide) rfl (fun ls hl => ?_)
        refine lv_aload_n hx hb dX1_priceByClock_77 rfl (lv_at hl 4 rfl) ?_
        refine lv_iload hx hb dX1_priceByClock_78 (lv_at hl 0 rfl) ?_
        refine q_rV (wc := [(aq, .inr (1, [.ref aP, .ref aA, .ref aT, .ref aO, .int (nI n), .ref aE, .ref aI])), (aP, .inl (cI, 12, .inl fP)), (aA, .inl (cI, 12, .inl fA)), (aT, .inl (cI, 12, .inl fT)), (aO, .inl (cI, 12, .inl fO)), (aE, .inl (cI, 12, .inl fE)), (aI, .inl (cZ, 12, .inl (z_kI fI fE n 0)))]) (r := (z_xo fE (z_kl fI fE n 0))) (As := [.int (z_kl fI fE n 0)]) (rest := []) ⟨hx, hb, hml, hown, hts⟩ (c_X1_exitOf l dC dI cI cZ cJ aq aP aA aT aO aE aI n fP fA fT fO fE (z_kI fI fE n 0) (z_kl fI fE n 0) ((z_klin fI fE n 0 (by omega)).imp id (fun q => ⟨q.1, by omega⟩))) (cwV 1 hts gX1_priceByClock_X1_exitOf rfl rfl rfl (by decide +kernel) ⟨Nat.le_of_ble_eq_true rfl, Nat.le_of_ble_eq_true rfl⟩) hK (hP.sub [0, 1, 2, 3, 4, 5, 6] rfl) 1 0 rfl rfl rfl rfl hl.1 rfl (Nat.le_of_ble_eq_true rfl) dX1_priceByClock_80 ⟨Nat.zero_le _, Nat.zero_le _⟩ ?_
        refine lv_istore (lv' := [(7, .int (z_xo fE (z_kl fI fE n 0))), (6, .int (z_kl fI fE n 0)), (5, .int ((fW (z_wi x3)) - x4)), (3, .int x3), (4, .int x4), (0, .ref aq), (1, .ref ad), (2, .int b)]) hx hb dX1_priceByClock_83 hl (by decide) rfl (fun ls hl => ?_)
        refine lv_aload_n hx hb dX1_priceByClock_85 rfl (lv_at hl 5 rfl) ?_
        refine va_get (D := (dC, dI)) (ci := 1) (v := .int (nI n)) (C := RX1) (T := TX1) (N := 7) hx hb hts (by decide +kernel) hown hK hP 0 rfl rfl 4 (by decide) (hts (.fieldLink RX1 31 "CapacityRound$Queue" "count" "I") (by decide +kernel)) (fun _ h9 => h9) rfl dX1_priceByClock_86 ?_
        refine lv_istore (lv' := [(8, .int (nI n)), (7, .int (z_xo fE (z_kl fI fE n 0))), (6, .int (z_kl fI fE n 0)), (5, .int ((fW (z_wi x3)) - x4)), (3, .int x3), (4, .int x4), (0, .ref aq), (1, .ref ad), (2, .int b)]) hx hb dX1_priceByClock_89 hl (by decide) rfl (fun ls hl => ?_)
        have lp_91 : ∀ (wi i : Nat) (y3 : Int32) (y4 : Int32) (y5 : Int32) (y6 : Int32) (y7 : Int32) (y8 : Int32), i ≤ n → n < i + wi → y3 = z_ka fI fE n b fA i → y4 = z_kc fI fE n fA i → y5 = (z_kb fI fE n (z_kw fI fE n fW b fA) i).1 → y6 = z_kl fI fE n i → y7 = (z_kb fI fE n (z_kw fI fE n fW b fA) i).2 → y8 = nI (n - i) → ∀ (H : Heap) (locs : List Loc), va_P (dC, dI) vwCl [(aq, .inr (1, [.ref aP, .ref aA, .ref aT, .ref aO, .int (nI n), .ref aE, .ref aI])), (aP, .inl (cI, 12, .inl fP)), (aA, .inl (cI, 12, .inl fA)), (aT, .inl (cI, 12, .inl fT)), (aO, .inl (cI, 12, .inl fO)), (aE, .inl (cI, 12, .inl fE)), (aI, .inl (cZ, 12, .inl (z_kI fI fE n i))), (ad, .inr (0, [.ref aw, .int lo, .int up, .int tp])), (aw, .inl (cI, 1002, .inl fW))] H → va_D A [(aq, .inr (1, [.ref aP, .ref aA, .ref aT, .ref aO, .int (nI n), .ref aE, .ref aI])), (aP, .inl (cI, 12, .inl fP)), (aA, .inl (cI, 12, .inl fA)), (aT, .inl (cI, 12, .inl fT)), (aO, .inl (cI, 12, .inl fO)), (aE, .inl (cI, 12, .inl fE)), (aI, .inl (cZ, 12, .inl (z_kI fI fE n i))), (ad, .inr (0, [.ref aw, .int lo, .int up, .int tp])), (aw, .inl (cI, 1002, .inl fW))] → va_S A s.heap H locs → ∀ (ls : Array Slot), lv_has ls 10 [(3, .int y3), (4, .int y4), (5, .int y5), (6, .int y6), (7, .int y7), (8, .int y8), (0, .ref aq), (1, .ref ad), (2, .int b)] → W p l e (headSpec wsX1_priceByClock ({ frames := 2, cells := 0, slots := 0, locals := 44 })).room s m [.ref aq, .ref ad, .int b].toArray below meth c H locs 0 0 (MQ below (q_W (some (.int ((z_kb fI fE n (z_kw fI fE n fW b fA) n).2))) (dC, dI) vwCl [(aq, .inr (1, [.ref aP, .ref aA, .ref aT, .ref aO, .int (nI n), .ref aE, .ref aI])), (aP, .inl (cI, 12, .inl fP)), (aA, .inl (cI, 12, .inl fA)), (aT, .inl (cI, 12, .inl fT)), (aO, .inl (cI, 12, .inl fO)), (aE, .inl (cI, 12, .inl fE)), (aI, .inl (cZ, 12, .inl (z_kI fI fE n n))), (ad, .inr (0, [.ref aw, .int lo, .int up, .int tp])), (aw, .inl (cI, 1002, .inl fW))] A) [.ref aq, .ref ad, .int b].toArray s 0 0 A) (F0 m 91 ls []) := by
          intro wi
          induction wi with
          | zero => intro i y3 y4 y5 y6 y7 y8 hk_i hw_i; exact absurd hw_i (by omega)
          | succ wi ih_i =>
            intro i y3 y4 y5 y6 y7 y8 hk_i hw_i ey3 ey4 ey5 ey6 ey7 ey8  H locs hP hD hS ls hl
            refine lv_iload hx hb dX1_priceByClock_91 (lv_at hl 5 rfl) ?_
            refine lv_if_le (tgt := 181) hx hb dX1_priceByClock_93 (by decide) (fun c_93 => ?_) (fun c_93 => ?_)
            · have hin : i = n := by have h9 := (q_cge (y := y8) (x := 0) (k := 0) ey8 rfl (by omega) (by omega)).mp c_93; omega
              refine lv_iload hx hb dX1_priceByClock_181 (lv_at hl 4 rfl) ?_
              have hP : va_P (dC, dI) vwCl [(aq, .inr (1, [.ref aP, .ref aA, .ref aT, .ref aO, .int (nI n), .ref aE, .ref aI])), (aP, .inl (cI, 12, .inl fP)), (aA, .inl (cI, 12, .inl fA)), (aT, .inl (cI, 12, .inl fT)), (aO, .inl (cI, 12, .inl fO)), (aE, .inl (cI, 12, .inl fE)), (aI, .inl (cZ, 12, .inl (z_kI fI fE n n))), (ad, .inr (0, [.ref aw, .int lo, .int up, .int tp])), (aw, .inl (cI, 1002, .inl fW))] H := (by rw [hin] at hP; exact hP)
              exact W.iret (v := y7) hx hb hr (fun tS htS hWS => ⟨congrArg (fun z => Outcome.returned (some (Value.int z))) (ey7.trans (by rw [hin]) : y7 = (z_kb fI fE n (z_kw fI fE n fW b fA) n).2), by rw [htS]; exact hP, hS.F htS⟩) hS.2.2 dX1_priceByClock_183
            · obtain ⟨t, ht⟩ : ∃ t, n - i = t + 1 := ⟨n - i - 1, by have h9 := (not_congr (q_cge (y := y8) (x := 0) (k := 0) ey8 rfl (by omega) (by omega))).mp c_93; omega⟩
              obtain ⟨j1, j2⟩ := (z_klin fI fE n i (by omega)).resolve_left (hlv i (by omega))
              refine lv_iload hx hb dX1_priceByClock_96 (lv_at hl 3 rfl) ?_
              refine lv_iconst (v := (-1)) hx hb dX1_priceByClock_98 (by decide) ?_
              refine lv_icmp_eq (tgt := 181) hx hb dX1_priceByClock_99 (by decide) (fun c_99 => ?_) (fun c_99 => ?_)
              · exact absurd (ey6.symm.trans c_99) (hlv i (by omega))
              · have h9 := c_99
                refine lv_aload_n hx hb dX1_priceByClock_102 rfl (lv_at hl 6 rfl) ?_
                refine va_get (D := (dC, dI)) (ci := 1) (v := .ref aI) (C := RX1) (T := TX1) (N := 7) hx hb hts (by decide +kernel) hown hK hP 0 rfl rfl 6 (by decide) (hts (.fieldLink RX1 27 "CapacityRound$Queue" "in" "[Z") (by decide +kernel)) (fun _ h9 => h9) rfl dX1_priceByClock_103 ?_
                refine lv_iload hx hb dX1_priceByClock_106 (lv_at hl 3 rfl) ?_
                refine lv_iconst (v := 0) hx hb dX1_priceByClock_108 (by decide) ?_
                refine q_zast hx hb hK hP hD hS 6 1 rfl rfl (z_n (z_kl fI fE n i)) (ey6.trans j1) (by omega) (by decide) (rfl) dX1_priceByClock_109 (fun H locs hP hD hS => ?_)
                have hP : va_P (dC, dI) vwCl [(aq, .inr (1, [.ref aP, .ref aA, .ref aT, .ref aO, .int (nI n), .ref aE, .ref aI])), (aP, .inl (cI, 12, .inl fP)), (aA, .inl (cI, 12, .inl fA)), (aT, .inl (cI, 12, .inl fT)), (aO, .inl (cI, 12, .inl fO)), (aE, .inl (cI, 12, .inl fE)), (aI, .inl (cZ, 12, .inl (upd (z_kI fI fE n i) (z_n (z_kl fI fE n i)) 0))), (ad, .inr (0, [.ref aw, .int lo, .int up, .int tp])), (aw, .inl (cI, 1002, .inl fW))] H := hP
                have hD : va_D A [(aq, .inr (1, [.ref aP, .ref aA, .ref aT, .ref aO, .int (nI n), .ref aE, .ref aI])), (aP, .inl (cI, 12, .inl fP)), (aA, .inl (cI, 12, .inl fA)), (aT, .inl (cI, 12, .inl fT)), (aO, .inl (cI, 12, .inl fO)), (aE, .inl (cI, 12, .inl fE)), (aI, .inl (cZ, 12, .inl (upd (z_kI fI fE n i) (z_n (z_kl fI fE n i)) 0))), (ad, .inr (0, [.ref aw, .int lo, .int up, .int tp])), (aw, .inl (cI, 1002, .inl fW))] := hD
                refine lv_iload_n hx hb dX1_priceByClock_110 rfl (lv_at hl 0 rfl) ?_
                refine lv_aload_n hx hb dX1_priceByClock_111 rfl (lv_at hl 6 rfl) ?_
                refine va_get (D := (dC, dI)) (ci := 1) (v := .ref aA) (C := RX1) (T := TX1) (N := 7) hx hb hts (by decide +kernel) hown hK hP 0 rfl rfl 1 (by decide) (hts (.fieldLink RX1 15 "CapacityRound$Queue" "amounts" "[I") (by decide +kernel)) (fun _ h9 => h9) rfl dX1_priceByClock_112 ?_
                refine lv_iload hx hb dX1_priceByClock_115 (lv_at hl 3 rfl) ?_
                refine q_iald hx hb hK hP 2 0 rfl rfl (z_n (z_kl fI fE n i)) (ey6.trans j1) (by omega) (by decide) dX1_priceByClock_117 ?_
                refine lv_isub hx hb dX1_priceByClock_118 ?_
                refine lv_istore_n (lv' := [(3, .int (y3 - (fA (z_n (z_kl fI fE n i))))), (4, .int y4), (5, .int y5), (6, .int y6), (7, .int y7), (8, .int y8), (0, .ref aq), (1, .ref ad), (2, .int b)]) hx hb dX1_priceByClock_119 rfl hl (by decide) rfl (fun ls hl => ?_)
                refine lv_iload hx hb dX1_priceByClock_120 (lv_at hl 1 rfl) ?_
                refine lv_aload_n hx hb dX1_priceByClock_122 rfl (lv_at hl 6 rfl) ?_
                refine va_get (D := (dC, dI)) (ci := 1) (v := .ref aA) (C := RX1) (T := TX1) (N := 7) hx hb hts (by decide +kernel) hown hK hP 0 rfl rfl 1 (by decide) (hts (.fieldLink RX1 15 "CapacityRound$Queue" "amounts" "[I") (by decide +kernel)) (fun _ h9 => h9) rfl dX1_priceByClock_123 ?_
                refine lv_iload hx hb dX1_priceByClock_126 (lv_at hl 3 rfl) ?_
                refine q_iald hx hb hK hP 2 0 rfl rfl (z_n (z_kl fI fE n i)) (ey6.trans j1) (by omega) (by decide) dX1_priceByClock_128 ?_
                refine lv_aload_n hx hb dX1_priceByClock_129 rfl (lv_at hl 6 rfl) ?_
                refine va_get (D := (dC, dI)) (ci := 1) (v := .ref aE) (C := RX1) (T := TX1) (N := 7) hx hb hts (by decide +kernel) hown hK hP 0 rfl rfl 5 (by decide) (hts (.fieldLink RX1 24 "CapacityRound$Queue" "exits" "[I") (by decide +kernel)) (fun _ h9 => h9) rfl dX1_priceByClock_130 ?_
                refine lv_iload hx hb dX1_priceByClock_133 (lv_at hl 3 rfl) ?_
                refine q_iald hx hb hK hP 5 0 rfl rfl (z_n (z_kl fI fE n i)) (ey6.trans j1) (by omega) (by decide) dX1_priceByClock_135 ?_
                refine lv_imul hx hb dX1_priceByClock_136 ?_
                refine lv_isub hx hb dX1_priceByClock_137 ?_
                refine lv_istore (lv' := [(4, .int (y4 - ((fA (z_n (z_kl fI fE n i))) * (fE (z_n (z_kl fI fE n i)))))), (3, .int (y3 - (fA (z_n (z_kl fI fE n i))))), (5, .int y5), (6, .int y6), (7, .int y7), (8, .int y8), (0, .ref aq), (1, .ref ad), (2, .int b)]) hx hb dX1_priceByClock_138 hl (by decide) rfl (fun ls hl => ?_)
                have hP : va_P (dC, dI) vwCl [(aq, .inr (1, [.ref aP, .ref aA, .ref aT, .ref aO, .int (nI n), .ref aE, .ref aI])), (aP, .inl (cI, 12, .inl fP)), (aA, .inl (cI, 12, .inl fA)), (aT, .inl (cI, 12, .inl fT)), (aO, .inl (cI, 12, .inl fO)), (aE, .inl (cI, 12, .inl fE)), (aI, .inl (cZ, 12, .inl (z_kI fI fE n (i + 1)))), (ad, .inr (0, [.ref aw, .int lo, .int up, .int tp])), (aw, .inl (cI, 1002, .inl fW))] H := hP
                have hD : va_D A [(aq, .inr (1, [.ref aP, .ref aA, .ref aT, .ref aO, .int (nI n), .ref aE, .ref aI])), (aP, .inl (cI, 12, .inl fP)), (aA, .inl (cI, 12, .inl fA)), (aT, .inl (cI, 12, .inl fT)), (aO, .inl (cI, 12, .inl fO)), (aE, .inl (cI, 12, .inl fE)), (aI, .inl (cZ, 12, .inl (z_kI fI fE n (i + 1)))), (ad, .inr (0, [.ref aw, .int lo, .int up, .int tp])), (aw, .inl (cI, 1002, .inl fW))] := hD
                refine lv_aload_n hx hb dX1_priceByClock_140 rfl (lv_at hl 6 rfl) ?_
                refine q_rV (wc := [(aq, .inr (1, [.ref aP, .ref aA, .ref aT, .ref aO, .int (nI n), .ref aE, .ref aI])), (aP, .inl (cI, 12, .inl fP)), (aA, .inl (cI, 12, .inl fA)), (aT, .inl (cI, 12, .inl fT)), (aO, .inl (cI, 12, .inl fO)), (aE, .inl (cI, 12, .inl fE)), (aI, .inl (cZ, 12, .inl (z_kI fI fE n (i + 1))))]) (r := (z_kl fI fE n (i + 1))) (As := []) (rest := []) ⟨hx, hb, hml, hown, hts⟩ (c_X1_dearestIn l dC dI cI cZ cJ aq aP aA aT aO aE aI n fP fA fT fO fE (z_kI fI fE n (i + 1)) hn) (cwV 0 hts gX1_priceByClock_X1_dearestIn rfl rfl rfl (by decide +kernel) ⟨Nat.le_of_ble_eq_true rfl, Nat.le_of_ble_eq_true rfl⟩) hK (hP.sub [0, 1, 2, 3, 4, 5, 6] rfl) 1 0 rfl rfl rfl rfl hl.1 rfl (Nat.le_of_ble_eq_true rfl) dX1_priceByClock_141 ⟨Nat.zero_le _, Nat.zero_le _⟩ ?_
                refine lv_istore (lv' := [(6, .int (z_kl fI fE n (i + 1))), (4, .int (y4 - ((fA (z_n (z_kl fI fE n i))) * (fE (z_n (z_kl fI fE n i)))))), (3, .int (y3 - (fA (z_n (z_kl fI fE n i))))), (5, .int y5), (7, .int y7), (8, .int y8), (0, .ref aq), (1, .ref ad), (2, .int b)]) hx hb dX1_priceByClock_144 hl (by decide) rfl (fun ls hl => ?_)
                refine lv_aload_n hx hb dX1_priceByClock_146 rfl (lv_at hl 7 rfl) ?_
                refine lv_iload_n hx hb dX1_priceByClock_147 rfl (lv_at hl 2 rfl) ?_
                refine q_rV (wc := [(ad, .inr (0, [.ref aw, .int lo, .int up, .int tp])), (aw, .inl (cI, 1002, .inl fW))]) (r := (fW (z_wi (y3 - fA (z_n (z_kl fI fE n i)))))) (As := [.int (y3 - (fA (z_n (z_kl fI fE n i))))]) (rest := []) ⟨hx, hb, hml, hown, hts⟩ (c_X0_worthOf l dC dI cI cZ cJ ad aw lo up tp fW (y3 - fA (z_n (z_kl fI fE n i)))) (cwV 1 hts gX1_priceByClock_X0_worthOf rfl rfl rfl (by decide +kernel) ⟨Nat.le_of_ble_eq_true rfl, Nat.le_of_ble_eq_true rfl⟩) hK (hP.sub [7, 8] rfl) 0 0 rfl rfl rfl rfl hl.1 rfl (Nat.le_of_ble_eq_true rfl) dX1_priceByClock_148 ⟨Nat.zero_le _, Nat.zero_le _⟩ ?_
                refine lv_iload hx hb dX1_priceByClock_151 (lv_at hl 1 rfl) ?_
                refine lv_isub hx hb dX1_priceByClock_153 ?_
                have hw : fW (z_wi (y3 - fA (z_n (z_kl fI fE n i)))) - (y4 - fA (z_n (z_kl fI fE n i)) * fE (z_n (z_kl fI fE n i))) = (z_kw fI fE n fW b fA) (i + 1) := by rw [ey3, ey4]; rfl
                refine lv_istore (lv' := [(9, .int ((fW (z_wi (y3 - fA (z_n (z_kl fI fE n i))))) - (y4 - ((fA (z_n (z_kl fI fE n i))) * (fE (z_n (z_kl fI fE n i))))))), (6, .int (z_kl fI fE n (i + 1))), (4, .int (y4 - ((fA (z_n (z_kl fI fE n i))) * (fE (z_n (z_kl fI fE n i)))))), (3, .int (y3 - (fA (z_n (z_kl fI fE n i))))), (5, .int y5), (7, .int y7), (8, .int y8), (0, .ref aq), (1, .ref ad), (2, .int b)]) hx hb dX1_priceByClock_154 hl (by decide) rfl (fun ls hl => ?_)
                refine lv_iload hx hb dX1_priceByClock_156 (lv_at hl 0 rfl) ?_
                refine lv_iload hx hb dX1_priceByClock_158 (lv_at hl 4 rfl) ?_
                refine lv_icmp_lt (tgt := 175) hx hb dX1_priceByClock_160 (by decide) (fun c_160 => ?_) (fun c_160 => ?_)
                · have hg := z_kby (f := fI) (E := fE) (n := n) (w := (z_kw fI fE n fW b fA)) (i := i) (by rw [← hw, ← ey5]; exact c_160)
                  have h5 : y5 = (z_kb fI fE n (z_kw fI fE n fW b fA) (i + 1)).1 := by rw [hg]; exact ey5
                  have h7 : y7 = (z_kb fI fE n (z_kw fI fE n fW b fA) (i + 1)).2 := by rw [hg]; exact ey7
                  refine lv_iinc (v := y8 + (-1)) (lv' := [(8, .int (y8 + (-1))), (9, .int ((fW (z_wi (y3 - fA (z_n (z_kl fI fE n i))))) - (y4 - ((fA (z_n (z_kl fI fE n i))) * (fE (z_n (z_kl fI fE n i))))))), (6, .int (z_kl fI fE n (i + 1))), (4, .int (y4 - ((fA (z_n (z_kl fI fE n i))) * (fE (z_n (z_kl fI fE n i)))))), (3, .int (y3 - (fA (z_n (z_kl fI fE n i))))), (5, .int y5), (7, .int y7), (0, .ref aq), (1, .ref ad), (2, .int b)]) hx hb dX1_priceByClock_175 hl (k := 6) rfl rfl (by decide) rfl (fun ls hl => ?_)
                  refine lv_goto (tgt := 91) hx hb dX1_priceByClock_178 (by decide) ?_
                  exact ih_i (i + 1) (y3 - (fA (z_n (z_kl fI fE n i)))) (y4 - ((fA (z_n (z_kl fI fE n i))) * (fE (z_n (z_kl fI fE n i))))) y5 (z_kl fI fE n (i + 1)) y7 (y8 + (-1)) (by omega) (by omega) (by rw [ey3]; rfl) (by rw [ey4]; rfl) (h5) (rfl) (h7) (by rw [ey8, ht, pk_m1, show n - (i + 1) = t by omega])  _ _ hP hD hS ls (lv_sub hl [4, 3, 5, 2, 6, 0, 7, 8, 9] rfl)
                · have hg := z_kbn (f := fI) (E := fE) (n := n) (w := (z_kw fI fE n fW b fA)) (i := i) (by rw [← hw, ← ey5]; exact c_160)
                  have h5 : fW (z_wi (y3 - fA (z_n (z_kl fI fE n i)))) - (y4 - fA (z_n (z_kl fI fE n i)) * fE (z_n (z_kl fI fE n i))) = (z_kb fI fE n (z_kw fI fE n fW b fA) (i + 1)).1 := by rw [hg]; exact hw
                  have h7 : z_xo fE (z_kl fI fE n (i + 1)) = (z_kb fI fE n (z_kw fI fE n fW b fA) (i + 1)).2 := by rw [hg]
                  refine lv_iload hx hb dX1_priceByClock_163 (lv_at hl 0 rfl) ?_
                  refine lv_istore (lv' := [(5, .int ((fW (z_wi (y3 - fA (z_n (z_kl fI fE n i))))) - (y4 - ((fA (z_n (z_kl fI fE n i))) * (fE (z_n (z_kl fI fE n i))))))), (9, .int ((fW (z_wi (y3 - fA (z_n (z_kl fI fE n i))))) - (y4 - ((fA (z_n (z_kl fI fE n i))) * (fE (z_n (z_kl fI fE n i))))))), (6, .int (z_kl fI fE n (i + 1))), (4, .int (y4 - ((fA (z_n (z_kl fI fE n i))) * (fE (z_n (z_kl fI fE n i)))))), (3, .int (y3 - (fA (z_n (z_kl fI fE n i))))), (7, .int y7), (8, .int y8), (0, .ref aq), (1, .ref ad), (2, .int b)]) hx hb dX1_priceByClock_165 hl (by decide) rfl (fun ls hl => ?_)
                  refine lv_aload_n hx hb dX1_priceByClock_167 rfl (lv_at hl 7 rfl) ?_
                  refine lv_iload hx hb dX1_priceByClock_168 (lv_at hl 2 rfl) ?_
                  refine q_rV (wc := [(aq, .inr (1, [.ref aP, .ref aA, .ref aT, .ref aO, .int (nI n), .ref aE, .ref aI])), (aP, .inl (cI, 12, .inl fP)), (aA, .inl (cI, 12, .inl fA)), (aT, .inl (cI, 12, .inl fT)), (aO, .inl (cI, 12, .inl fO)), (aE, .inl (cI, 12, .inl fE)), (aI, .inl (cZ, 12, .inl (z_kI fI fE n (i + 1))))]) (r := (z_xo fE (z_kl fI fE n (i + 1)))) (As := [.int (z_kl fI fE n (i + 1))]) (rest := []) ⟨hx, hb, hml, hown, hts⟩ (c_X1_exitOf l dC dI cI cZ cJ aq aP aA aT aO aE aI n fP fA fT fO fE (z_kI fI fE n (i + 1)) (z_kl fI fE n (i + 1)) ((z_klin fI fE n (i + 1) (by omega)).imp id (fun q => ⟨q.1, by omega⟩))) (cwV 1 hts gX1_priceByClock_X1_exitOf rfl rfl rfl (by decide +kernel) ⟨Nat.le_of_ble_eq_true rfl, Nat.le_of_ble_eq_true rfl⟩) hK (hP.sub [0, 1, 2, 3, 4, 5, 6] rfl) 1 0 rfl rfl rfl rfl hl.1 rfl (Nat.le_of_ble_eq_true rfl) dX1_priceByClock_170 ⟨Nat.zero_le _, Nat.zero_le _⟩ ?_
                  refine lv_istore (lv' := [(7, .int (z_xo fE (z_kl fI fE n (i + 1)))), (5, .int ((fW (z_wi (y3 - fA (z_n (z_kl fI fE n i))))) - (y4 - ((fA (z_n (z_kl fI fE n i))) * (fE (z_n (z_kl fI fE n i))))))), (9, .int ((fW (z_wi (y3 - fA (z_n (z_kl fI fE n i))))) - (y4 - ((fA (z_n (z_kl fI fE n i))) * (fE (z_n (z_kl fI fE n i))))))), (6, .int (z_kl fI fE n (i + 1))), (4, .int (y4 - ((fA (z_n (z_kl fI fE n i))) * (fE (z_n (z_kl fI fE n i)))))), (3, .int (y3 - (fA (z_n (z_kl fI fE n i))))), (8, .int y8), (0, .ref aq), (1, .ref ad), (2, .int b)]) hx hb dX1_priceByClock_173 hl (by decide) rfl (fun ls hl => ?_)
                  refine lv_iinc (v := y8 + (-1)) (lv' := [(8, .int (y8 + (-1))), (7, .int (z_xo fE (z_kl fI fE n (i + 1)))), (5, .int ((fW (z_wi (y3 - fA (z_n (z_kl fI fE n i))))) - (y4 - ((fA (z_n (z_kl fI fE n i))) * (fE (z_n (z_kl fI fE n i))))))), (9, .int ((fW (z_wi (y3 - fA (z_n (z_kl fI fE n i))))) - (y4 - ((fA (z_n (z_kl fI fE n i))) * (fE (z_n (z_kl fI fE n i))))))), (6, .int (z_kl fI fE n (i + 1))), (4, .int (y4 - ((fA (z_n (z_kl fI fE n i))) * (fE (z_n (z_kl fI fE n i)))))), (3, .int (y3 - (fA (z_n (z_kl fI fE n i))))), (0, .ref aq), (1, .ref ad), (2, .int b)]) hx hb dX1_priceByClock_175 hl (k := 6) rfl rfl (by decide) rfl (fun ls hl => ?_)
                  refine lv_goto (tgt := 91) hx hb dX1_priceByClock_178 (by decide) ?_
                  exact ih_i (i + 1) (y3 - (fA (z_n (z_kl fI fE n i)))) (y4 - ((fA (z_n (z_kl fI fE n i))) * (fE (z_n (z_kl fI fE n i))))) ((fW (z_wi (y3 - fA (z_n (z_kl fI fE n i))))) - (y4 - ((fA (z_n (z_kl fI fE n i))) * (fE (z_n (z_kl fI fE n i)))))) (z_kl fI fE n (i + 1)) (z_xo fE (z_kl fI fE n (i + 1))) (y8 + (-1)) (by omega) (by omega) (by rw [ey3]; rfl) (by rw [ey4]; rfl) (h5) (rfl) (h7) (by rw [ey8, ht, pk_m1, show n - (i + 1) = t by omega])  _ _ hP hD hS ls (lv_sub hl [6, 5, 2, 4, 1, 0, 7, 8, 9] rfl)
        exact lp_91 (n + 1) 0 x3 x4 ((fW (z_wi x3)) - x4) (z_kl fI fE n 0) (z_xo fE (z_kl fI fE n 0)) (nI n) (by omega) (by omega) (ex3) (ex4) (by rw [ex3, ex4]; rfl) (rfl) (rfl) (rfl)  _ _ hP hD hS ls (lv_sub hl [4, 5, 3, 2, 1, 0, 6, 7, 8] rfl)
      · have hkn : k < n := q_lt ex5 hk_k (by omega) c_14
        refine lv_aload_n hx hb dX1_priceByClock_17 rfl (lv_at hl 3 rfl) ?_
        refine va_get (D := (dC, dI)) (ci := 1) (v := .ref aI) (C := RX1) (T := TX1) (N := 7) hx hb hts (by decide +kernel) hown hK hP 0 rfl rfl 6 (by decide) (hts (.fieldLink RX1 27 "CapacityRound$Queue" "in" "[Z") (by decide +kernel)) (fun _ h9 => h9) rfl dX1_priceByClock_18 ?_
        refine lv_iload hx hb dX1_priceByClock_21 (lv_at hl 2 rfl) ?_
        refine lv_iconst (v := 1) hx hb dX1_priceByClock_23 (by decide) ?_
        refine q_zast hx hb hK hP hD hS 6 1 rfl rfl k (ex5) (by omega) (by decide) (rfl) dX1_priceByClock_24 (fun H locs hP hD hS => ?_)
        have hP : va_P (dC, dI) vwCl [(aq, .inr (1, [.ref aP, .ref aA, .ref aT, .ref aO, .int (nI n), .ref aE, .ref aI])), (aP, .inl (cI, 12, .inl fP)), (aA, .inl (cI, 12, .inl fA)), (aT, .inl (cI, 12, .inl fT)), (aO, .inl (cI, 12, .inl fO)), (aE, .inl (cI, 12, .inl fE)), (aI, .inl (cZ, 12, .inl (upd (z_one fI k) k 1))), (ad, .inr (0, [.ref aw, .int lo, .int up, .int tp])), (aw, .inl (cI, 1002, .inl fW))] H := hP
        have hD : va_D A [(aq, .inr (1, [.ref aP, .ref aA, .ref aT, .ref aO, .int (nI n), .ref aE, .ref aI])), (aP, .inl (cI, 12, .inl fP)), (aA, .inl (cI, 12, .inl fA)), (aT, .inl (cI, 12, .inl fT)), (aO, .inl (cI, 12, .inl fO)), (aE, .inl (cI, 12, .inl fE)), (aI, .inl (cZ, 12, .inl (upd (z_one fI k) k 1))), (ad, .inr (0, [.ref aw, .int lo, .int up, .int tp])), (aw, .inl (cI, 1002, .inl fW))] := hD
        refine lv_iload_n hx hb dX1_priceByClock_25 rfl (lv_at hl 0 rfl) ?_
        refine lv_aload_n hx hb dX1_priceByClock_26 rfl (lv_at hl 3 rfl) ?_
        refine va_get (D := (dC, dI)) (ci := 1) (v := .ref aA) (C := RX1) (T := TX1) (N := 7) hx hb hts (by decide +kernel) hown hK hP 0 rfl rfl 1 (by decide) (hts (.fieldLink RX1 15 "CapacityRound$Queue" "amounts" "[I") (by decide +kernel)) (fun _ h9 => h9) rfl dX1_priceByClock_27 ?_
        refine lv_iload hx hb dX1_priceByClock_30 (lv_at hl 2 rfl) ?_
        refine q_iald hx hb hK hP 2 0 rfl rfl k (ex5) (by omega) (by decide) dX1_priceByClock_32 ?_
        refine lv_iadd hx hb dX1_priceByClock_33 ?_
        refine lv_istore_n (lv' := [(3, .int (x3 + (fA k))), (4, .int x4), (5, .int x5), (0, .ref aq), (1, .ref ad), (2, .int b)]) hx hb dX1_priceByClock_34 rfl hl (by decide) rfl (fun ls hl => ?_)
        refine lv_iload hx hb dX1_priceByClock_35 (lv_at hl 1 rfl) ?_
        refine lv_aload_n hx hb dX1_priceByClock_37 rfl (lv_at hl 3 rfl) ?_
        refine va_get (D := (dC, dI)) (ci := 1) (v := .ref aA) (C := RX1) (T := TX1) (N := 7) hx hb hts (by decide +kernel) hown hK hP 0 rfl rfl 1 (by decide) (hts (.fieldLink RX1 15 "CapacityRound$Queue" "amounts" "[I") (by decide +kernel)) (fun _ h9 => h9) rfl dX1_priceByClock_38 ?_
        refine lv_iload hx hb dX1_priceByClock_41 (lv_at hl 2 rfl) ?_
        refine q_iald hx hb hK hP 2 0 rfl rfl k (ex5) (by omega) (by decide) dX1_priceByClock_43 ?_
        refine lv_aload_n hx hb dX1_priceByClock_44 rfl (lv_at hl 3 rfl) ?_
        refine va_get (D := (dC, dI)) (ci := 1) (v := .ref aE) (C := RX1) (T := TX1) (N := 7) hx hb hts (by decide +kernel) hown hK hP 0 rfl rfl 5 (by decide) (hts (.fieldLink RX1 24 "CapacityRound$Queue" "exits" "[I") (by decide +kernel)) (fun _ h9 => h9) rfl dX1_priceByClock_45 ?_
        refine lv_iload hx hb dX1_priceByClock_48 (lv_at hl 2 rfl) ?_
        refine q_iald hx hb hK hP 5 0 rfl rfl k (ex5) (by omega) (by decide) dX1_priceByClock_50 ?_
        refine lv_imul hx hb dX1_priceByClock_51 ?_
        refine lv_iadd hx hb dX1_priceByClock_52 ?_
        refine lv_istore (lv' := [(4, .int (x4 + ((fA k) * (fE k)))), (3, .int (x3 + (fA k))), (5, .int x5), (0, .ref aq), (1, .ref ad), (2, .int b)]) hx hb dX1_priceByClock_53 hl (by decide) rfl (fun ls hl => ?_)
        refine lv_iinc (v := x5 + 1) (lv' := [(5, .int (x5 + 1)), (4, .int (x4 + ((fA k) * (fE k)))), (3, .int (x3 + (fA k))), (0, .ref aq), (1, .ref ad), (2, .int b)]) hx hb dX1_priceByClock_55 hl (k := 2) rfl rfl (by decide) rfl (fun ls hl => ?_)
        refine lv_goto (tgt := 8) hx hb dX1_priceByClock_58 (by decide) ?_
        exact ih_k (k + 1) (x3 + (fA k)) (x4 + ((fA k) * (fE k))) (x5 + 1) (by omega) (by omega) (by rw [ex3]; rfl) (by rw [ex4]; rfl) (q_s1 ex5)  _ _ (by rw [← z_ones]; exact hP) (by rw [← z_ones]; exact hD) hS ls (lv_sub hl [2, 1, 0, 3, 4, 5] rfl)
  exact lp_8 (n + 1) 0 b 0 0 (by omega) (by omega) (rfl) (rfl) (rfl)  _ _ (by rw [z_one0]; exact hP) (by rw [z_one0]; exact hD) hS ls (lv_sub hl [2, 1, 0, 3, 4, 5] rfl)
end
section
set_option maxHeartbeats 4000000 in
set_option maxRecDepth 100000 in
theorem c_X2_take (l : Launch) (dC : Nat → ClassId) (dI : Nat → Nat → Nat) (cI cZ cJ : ClassId) (ax aB aN aY aU aS : Nat) (tr ra ca : Int32) (fB fN fY fU fS : Nat → Int32) (ad aw : Nat) (lo up tp : Int32) (fW : Nat → Int32) (aq aP aA aT aO aE aI n : Nat) (fP fA fT fO fE fI : Nat → Int32) (jo fy0 pr : Int32) (j pn y T : Nat) (hj : jo = nI j) (hj12 : j < 12) (hp : fP j = nI pn) (hp5 : pn < 5) (hy : fy0 = nI y) (hy8 : y < 8) (hT : fT j = nI T) (hT4 : T ≤ 4) : Met l yX2_take wsX2_take ({ frames := 2, cells := 0, slots := 0, locals := 43 }) (va_Pc [.ref ax, .int jo, .int fy0, .int pr] (q_M (dC, dI) vwCl (q_T cI cZ cJ) [(ax, .inr (2, [.ref ad, .ref aq, .ref aB, .ref aN, .ref aY, .ref aU, .ref aS, .int tr, .int ra, .int ca])), (ad, .inr (0, [.ref aw, .int lo, .int up, .int tp])), (aw, .inl (cI, 1002, .inl fW)), (aq, .inr (1, [.ref aP, .ref aA, .ref aT, .ref aO, .int (nI n), .ref aE, .ref aI])), (aP, .inl (cI, 12, .inl fP)), (aA, .inl (cI, 12, .inl fA)), (aT, .inl (cI, 12, .inl fT)), (aO, .inl (cI, 12, .inl fO)), (aE, .inl (cI, 12, .inl fE)), (aI, .inl (cZ, 12, .inl fI)), (aB, .inl (cI, 8, .inl fB)), (aN, .inl (cI, 40, .inl fN)), (aY, .inl (cI, 480, .inl fY)), (aU, .inl (cI, 480, .inl fU)), (aS, .inl (cZ, 96, .inl fS))])) (q_W none (dC, dI) vwCl [(ax, .inr (2, [.ref ad, .ref aq, .ref aB, .ref aN, .ref aY, .ref aU, .ref aS, .int tr, .int ra, .int ca])), (ad, .inr (0, [.ref aw, .int lo, .int up, .int tp])), (aw, .inl (cI, 1002, .inl fW)), (aq, .inr (1, [.ref aP, .ref aA, .ref aT, .ref aO, .int (nI n), .ref aE, .ref aI])), (aP, .inl (cI, 12, .inl fP)), (aA, .inl (cI, 12, .inl fA)), (aT, .inl (cI, 12, .inl fT)), (aO, .inl (cI, 12, .inl fO)), (aE, .inl (cI, 12, .inl fE)), (aI, .inl (cZ, 12, .inl fI)), (aB, .inl (cI, 8, .inl (z_ad fB y (min (y + T) 8) (fA j)))), (aN, .inl (cI, 40, .inl (z_ad fN (pn * 8 + y) (pn * 8 + (min (y + T) 8)) (fA j * pr)))), (aY, .inl (cI, 480, .inl (z_ad fY ((pn * 8 + y) * 12) ((pn * 8 + (min (y + T) 8)) * 12) (fA j)))), (aU, .inl (cI, 480, .inl fU)), (aS, .inl (cZ, 96, .inl fS))] (q_B [(ax, .inr (2, [.ref ad, .ref aq, .ref aB, .ref aN, .ref aY, .ref aU, .ref aS, .int tr, .int ra, .int ca])), (ad, .inr (0, [.ref aw, .int lo, .int up, .int tp])), (aw, .inl (cI, 1002, .inl fW)), (aq, .inr (1, [.ref aP, .ref aA, .ref aT, .ref aO, .int (nI n), .ref aE, .ref aI])), (aP, .inl (cI, 12, .inl fP)), (aA, .inl (cI, 12, .inl fA)), (aT, .inl (cI, 12, .inl fT)), (aO, .inl (cI, 12, .inl fO)), (aE, .inl (cI, 12, .inl fE)), (aI, .inl (cZ, 12, .inl fI)), (aB, .inl (cI, 8, .inl fB)), (aN, .inl (cI, 40, .inl fN)), (aY, .inl (cI, 480, .inl fY)), (aU, .inl (cI, 480, .inl fU)), (aS, .inl (cZ, 96, .inl fS))])) 0 0 (q_B [(ax, .inr (2, [.ref ad, .ref aq, .ref aB, .ref aN, .ref aY, .ref aU, .ref aS, .int tr, .int ra, .int ca])), (ad, .inr (0, [.ref aw, .int lo, .int up, .int tp])), (aw, .inl (cI, 1002, .inl fW)), (aq, .inr (1, [.ref aP, .ref aA, .ref aT, .ref aO, .int (nI n), .ref aE, .ref aI])), (aP, .inl (cI, 12, .inl fP)), (aA, .inl (cI, 12, .inl fA)), (aT, .inl (cI, 12, .inl fT)), (aO, .inl (cI, 12, .inl fO)), (aE, .inl (cI, 12, .inl fE)), (aI, .inl (cZ, 12, .inl fI)), (aB, .inl (cI, 8, .inl fB)), (aN, .inl (cI, 40, .inl fN)), (aY, .inl (cI, 480, .inl fY)), (aU, .inl (cI, 480, .inl fU)), (aS, .inl (cZ, 96, .inl fS))]) := by
  refine Met.ofW (cc := cX2_take) (maxL := 9) (ret := none) (by decide) rfl ?_
  intro p e s m args below meth c s₁ B hml hv
  obtain ⟨rfl, hP, hK, hD0⟩ := hv
  have hx := B.exec
  have hb := B.bytes
  have hr := B.returns
  have hts := atoms_spec (ws := wsX2_take) B.pre
  have hown : s.vm.findClass RX2 = some m.cls := findClass_of_methodNamed B.named
  have hlocks := B.notSynchronized
  have hD := q_Bself hD0
  generalize hAe : q_B [(ax, .inr (2, [.ref ad, .ref aq, .ref aB, .ref aN, .ref aY, .ref aU, .ref aS, .int tr, .int ra, .int ca])), (ad, .inr (0, [.ref aw, .int lo, .int up, .int tp])), (aw, .inl (cI, 1002, .inl fW)), (aq, .inr (1, [.ref aP, .ref aA, .ref aT, .ref aO, .int (nI n), .ref aE, .ref aI])), (aP, .inl (cI, 12, .inl fP)), (aA, .inl (cI, 12, .inl fA)), (aT, .inl (cI, 12, .inl fT)), (aO, .inl (cI, 12, .inl fO)), (aE, .inl (cI, 12, .inl fE)), (aI, .inl (cZ, 12, .inl fI)), (aB, .inl (cI, 8, .inl fB)), (aN, .inl (cI, 40, .inl fN)), (aY, .inl (cI, 480, .inl fY)), (aU, .inl (cI, 480, .inl fU)), (aS, .inl (cZ, 96, .inl fS))] = A at hD ⊢
  have hS : va_S A s.heap s.heap [] := va_S.rf
  have hP : va_P (dC, dI) vwCl [(ax, .inr (2, [.ref ad, .ref aq, .ref aB, .ref aN, .ref aY, .ref aU, .ref aS, .int tr, .int ra, .int ca])), (ad, .inr (0, [.ref aw, .int lo, .int up, .int tp])), (aw, .inl (cI, 1002, .inl fW)), (aq, .inr (1, [.ref aP, .ref aA, .ref aT, .ref aO, .int (nI n), .ref aE, .ref aI])), (aP, .inl (cI, 12, .inl fP)), (aA, .inl (cI, 12, .inl fA)), (aT, .inl (cI, 12, .inl fT)), (aO, .inl (cI, 12, .inl fO)), (aE, .inl (cI, 12, .inl fE)), (aI, .inl (cZ, 12, .inl fI)), (aB, .inl (cI, 8, .inl fB)), (aN, .inl (cI, 40, .inl fN)), (aY, .inl (cI, 480, .inl fY)), (aU, .inl (cI, 480, .inl fU)), (aS, .inl (cZ, 96, .inl fS))] s.heap := hP
  have hl := lv_entry ([.ref ax, .int jo, .int fy0, .int pr]) (n := 9) (Nat.le_of_ble_eq_true rfl)
  rw [lg_entry_eq]
  generalize (lg_sl ([.ref ax, .int jo, .int fy0, .int pr]) ++ List.replicate (9 - (lg_sl ([.ref ax, .int jo, .int fy0, .int pr])).length) Slot.unset).toArray = ls at hl ⊢
  have hl : lv_has ls 9 [(0, .ref ax), (1, .int jo), (2, .int fy0), (3, .int pr)] := hl
  refine lv_aload_n hx hb dX2_take_0 rfl (lv_at hl 0 rfl) ?_
  refine va_get (D := (dC, dI)) (ci := 2) (v := .ref aq) (C := RX2) (T := TX2) (N := 10) hx hb hts (by decide +kernel) hown hK hP 0 rfl rfl 1 (by decide) (hts (.fieldLink RX2 19 "CapacityRound" "queue" "LCapacityRound$Queue;") (by decide +kernel)) (fun _ h9 => h9) rfl dX2_take_1 ?_
  refine va_get (D := (dC, dI)) (ci := 1) (v := .ref aP) (C := RX1) (T := TX1) (N := 7) hx hb hts (by decide +kernel) hown hK hP 3 rfl rfl 0 (by decide) (hts (.fieldLink RX2 177 "CapacityRound$Queue" "parties" "[I") (by decide +kernel)) (fun _ h9 => h9) rfl dX2_take_4 ?_
  refine lv_iload_n hx hb dX2_take_7 rfl (lv_at hl 1 rfl) ?_
  refine q_iald hx hb hK hP 4 0 rfl rfl j (hj) (hj12) (by decide) dX2_take_8 ?_
  refine lv_topi (fun v_1 ev_1 => ?_)
  obtain rfl : v_1 = nI pn := ev_1.trans (hp)
  refine lv_istore (lv' := [(4, .int (nI pn)), (0, .ref ax), (1, .int jo), (2, .int fy0), (3, .int pr)]) hx hb dX2_take_9 hl (by decide) rfl (fun ls hl => ?_)
  refine lv_aload_n hx hb dX2_take_11 rfl (lv_at hl 1 rfl) ?_
  refine va_get (D := (dC, dI)) (ci := 2) (v := .ref aq) (C := RX2) (T := TX2) (N := 10) hx hb hts (by decide +kernel) hown hK hP 0 rfl rfl 1 (by decide) (hts (.fieldLink RX2 19 "CapacityRound" "queue" "LCapacityRound$Queue;") (by decide +kernel)) (fun _ h9 => h9) rfl dX2_take_12 ?_
  refine va_get (D := (dC, dI)) (ci := 1) (v := .ref aA) (C := RX1) (T := TX1) (N := 7) hx hb hts (by decide +kernel) hown hK hP 3 rfl rfl 1 (by decide) (hts (.fieldLink RX2 180 "CapacityRound$Queue" "amounts" "[I") (by decide +kernel)) (fun _ h9 => h9) rfl dX2_take_15 ?_
  refine lv_iload_n hx hb dX2_take_18 rfl (lv_at hl 2 rfl) ?_
  refine q_iald hx hb hK hP 5 0 rfl rfl j (hj) (hj12) (by decide) dX2_take_19 ?_
  refine lv_istore (lv' := [(5, .int (fA j)), (4, .int (nI pn)), (0, .ref ax), (1, .int jo), (2, .int fy0), (3, .int pr)]) hx hb dX2_take_20 hl (by decide) rfl (fun ls hl => ?_)
  refine lv_iload_n hx hb dX2_take_22 rfl (lv_at hl 4 rfl) ?_
  refine lv_aload_n hx hb dX2_take_23 rfl (lv_at hl 2 rfl) ?_
  refine va_get (D := (dC, dI)) (ci := 2) (v := .ref aq) (C := RX2) (T := TX2) (N := 10) hx hb hts (by decide +kernel) hown hK hP 0 rfl rfl 1 (by decide) (hts (.fieldLink RX2 19 "CapacityRound" "queue" "LCapacityRound$Queue;") (by decide +kernel)) (fun _ h9 => h9) rfl dX2_take_24 ?_
  refine va_get (D := (dC, dI)) (ci := 1) (v := .ref aT) (C := RX1) (T := TX1) (N := 7) hx hb hts (by decide +kernel) hown hK hP 3 rfl rfl 2 (by decide) (hts (.fieldLink RX2 183 "CapacityRound$Queue" "terms" "[I") (by decide +kernel)) (fun _ h9 => h9) rfl dX2_take_27 ?_
  refine lv_iload_n hx hb dX2_take_30 rfl (lv_at hl 3 rfl) ?_
  refine q_iald hx hb hK hP 6 0 rfl rfl j (hj) (hj12) (by decide) dX2_take_31 ?_
  refine lv_topi (fun v_2 ev_2 => ?_)
  obtain rfl : v_2 = nI T := ev_2.trans (hT)
  refine lv_iadd hx hb dX2_take_32 ?_
  refine lv_bipush (v := 8) hx hb dX2_take_33 (by decide) ?_
  refine va_mmin hx hb (by rw [hml]; exact hl.1.symm) hown (hts (.methodLink RX2 186 Lib.Math.min.name) (by decide +kernel)) (hts (.static Lib.Math.min.name) (by decide +kernel)) (hts (.initialized "java/lang/Math") (by decide +kernel)) (hts (.code Lib.Math.min.name Lib.Math.min.code 2 (some .int)) (by decide +kernel)) (Nat.le_of_ble_eq_true rfl) (Nat.le_of_ble_eq_true rfl) (Nat.zero_le _) (Nat.zero_le _) dX2_take_35 ?_
  refine lv_topi (fun v_3 ev_3 => ?_)
  obtain rfl : v_3 = nI (min (y + T) 8) := ev_3.trans (z_mn hy hy8 hT4)
  refine lv_istore (lv' := [(6, .int (nI (min (y + T) 8))), (5, .int (fA j)), (4, .int (nI pn)), (0, .ref ax), (1, .int jo), (2, .int fy0), (3, .int pr)]) hx hb dX2_take_38 hl (by decide) rfl (fun ls hl => ?_)
  refine lv_iload_n hx hb dX2_take_40 rfl (lv_at hl 5 rfl) ?_
  refine lv_istore (lv' := [(7, .int fy0), (6, .int (nI (min (y + T) 8))), (5, .int (fA j)), (4, .int (nI pn)), (0, .ref ax), (1, .int jo), (2, .int fy0), (3, .int pr)]) hx hb dX2_take_41 hl (by decide) rfl (fun ls hl => ?_)
  have lp_43 : ∀ (wk k : Nat) (x7 : Int32), y ≤ k → k ≤ min (y + T) 8 → min (y + T) 8 < k + wk → x7 = nI k → ∀ (H : Heap) (locs : List Loc), va_P (dC, dI) vwCl [(ax, .inr (2, [.ref ad, .ref aq, .ref aB, .ref aN, .ref aY, .ref aU, .ref aS, .int tr, .int ra, .int ca])), (ad, .inr (0, [.ref aw, .int lo, .int up, .int tp])), (aw, .inl (cI, 1002, .inl fW)), (aq, .inr (1, [.ref aP, .ref aA, .ref aT, .ref aO, .int (nI n), .ref aE, .ref aI])), (aP, .inl (cI, 12, .inl fP)), (aA, .inl (cI, 12, .inl fA)), (aT, .inl (cI, 12, .inl fT)), (aO, .inl (cI, 12, .inl fO)), (aE, .inl (cI, 12, .inl fE)), (aI, .inl (cZ, 12, .inl fI)), (aB, .inl (cI, 8, .inl (z_ad fB y k (fA j)))), (aN, .inl (cI, 40, .inl (z_ad fN (pn * 8 + y) (pn * 8 + k) (fA j * pr)))), (aY, .inl (cI, 480, .inl (z_ad fY ((pn * 8 + y) * 12) ((pn * 8 + k) * 12) (fA j)))), (aU, .inl (cI, 480, .inl fU)), (aS, .inl (cZ, 96, .inl fS))] H → va_D A [(ax, .inr (2, [.ref ad, .ref aq, .ref aB, .ref aN, .ref aY, .ref aU, .ref aS, .int tr, .int ra, .int ca])), (ad, .inr (0, [.ref aw, .int lo, .int up, .int tp])), (aw, .inl (cI, 1002, .inl fW)), (aq, .inr (1, [.ref aP, .ref aA, .ref aT, .ref aO, .int (nI n), .ref aE, .ref aI])), (aP, .inl (cI, 12, .inl fP)), (aA, .inl (cI, 12, .inl fA)), (aT, .inl (cI, 12, .inl fT)), (aO, .inl (cI, 12, .inl fO)), (aE, .inl (cI, 12, .inl fE)), (aI, .inl (cZ, 12, .inl fI)), (aB, .inl (cI, 8, .inl (z_ad fB y k (fA j)))), (aN, .inl (cI, 40, .inl (z_ad fN (pn * 8 + y) (pn * 8 + k) (fA j * pr)))), (aY, .inl (cI, 480, .inl (z_ad fY ((pn * 8 + y) * 12) ((pn * 8 + k) * 12) (fA j)))), (aU, .inl (cI, 480, .inl fU)), (aS, .inl (cZ, 96, .inl fS))] → va_S A s.heap H locs → ∀ (ls : Array Slot), lv_has ls 9 [(7, .int x7), (6, .int (nI (min (y + T) 8))), (5, .int (fA j)), (4, .int (nI pn)), (0, .ref ax), (1, .int jo), (2, .int fy0), (3, .int pr)] → W p l e (headSpec wsX2_take ({ frames := 2, cells := 0, slots := 0, locals := 43 })).room s m [.ref ax, .int jo, .int fy0, .int pr].toArray below meth c H locs 0 0 (MQ below (q_W none (dC, dI) vwCl [(ax, .inr (2, [.ref ad, .ref aq, .ref aB, .ref aN, .ref aY, .ref aU, .ref aS, .int tr, .int ra, .int ca])), (ad, .inr (0, [.ref aw, .int lo, .int up, .int tp])), (aw, .inl (cI, 1002, .inl fW)), (aq, .inr (1, [.ref aP, .ref aA, .ref aT, .ref aO, .int (nI n), .ref aE, .ref aI])), (aP, .inl (cI, 12, .inl fP)), (aA, .inl (cI, 12, .inl fA)), (aT, .inl (cI, 12, .inl fT)), (aO, .inl (cI, 12, .inl fO)), (aE, .inl (cI, 12, .inl fE)), (aI, .inl (cZ, 12, .inl fI)), (aB, .inl (cI, 8, .inl (z_ad fB y (min (y + T) 8) (fA j)))), (aN, .inl (cI, 40, .inl (z_ad fN (pn * 8 + y) (pn * 8 + (min (y + T) 8)) (fA j * pr)))), (aY, .inl (cI, 480, .inl (z_ad fY ((pn * 8 + y) * 12) ((pn * 8 + (min (y + T) 8)) * 12) (fA j)))), (aU, .inl (cI, 480, .inl fU)), (aS, .inl (cZ, 96, .inl fS))] A) [.ref ax, .int jo, .int fy0, .int pr].toArray s 0 0 A) (F0 m 43 ls []) := by
    intro wk
    induction wk with
    | zero => intro k x7 hlo_k hk_k hw_k; exact absurd hw_k (by omega)
    | succ wk ih_k =>
      intro k x7 hlo_k hk_k hw_k ex7  H locs hP hD hS ls hl
      refine lv_iload hx hb dX2_take_43 (lv_at hl 0 rfl) ?_
      refine lv_iload hx hb dX2_take_45 (lv_at hl 1 rfl) ?_
      refine lv_icmp_ge (tgt := 122) hx hb dX2_take_47 (by decide) (fun c_47 => ?_) (fun c_47 => ?_)
      · have hkn : k = min (y + T) 8 := q_ex ex7 hk_k (by omega) c_47
        have hP : va_P (dC, dI) vwCl [(ax, .inr (2, [.ref ad, .ref aq, .ref aB, .ref aN, .ref aY, .ref aU, .ref aS, .int tr, .int ra, .int ca])), (ad, .inr (0, [.ref aw, .int lo, .int up, .int tp])), (aw, .inl (cI, 1002, .inl fW)), (aq, .inr (1, [.ref aP, .ref aA, .ref aT, .ref aO, .int (nI n), .ref aE, .ref aI])), (aP, .inl (cI, 12, .inl fP)), (aA, .inl (cI, 12, .inl fA)), (aT, .inl (cI, 12, .inl fT)), (aO, .inl (cI, 12, .inl fO)), (aE, .inl (cI, 12, .inl fE)), (aI, .inl (cZ, 12, .inl fI)), (aB, .inl (cI, 8, .inl (z_ad fB y (min (y + T) 8) (fA j)))), (aN, .inl (cI, 40, .inl (z_ad fN (pn * 8 + y) (pn * 8 + (min (y + T) 8)) (fA j * pr)))), (aY, .inl (cI, 480, .inl (z_ad fY ((pn * 8 + y) * 12) ((pn * 8 + (min (y + T) 8)) * 12) (fA j)))), (aU, .inl (cI, 480, .inl fU)), (aS, .inl (cZ, 96, .inl fS))] H := (by rw [hkn] at hP; exact hP)
        exact W.vret hx hb hr (fun tS htS hWS => ⟨rfl, by rw [htS]; exact hP, hS.F htS⟩) hS.2.2 dX2_take_122
      · have hkn : k < min (y + T) 8 := q_lt ex7 hk_k (by omega) c_47
        refine lv_aload_n hx hb dX2_take_50 rfl (lv_at hl 4 rfl) ?_
        refine va_get (D := (dC, dI)) (ci := 2) (v := .ref aB) (C := RX2) (T := TX2) (N := 10) hx hb hts (by decide +kernel) hown hK hP 0 rfl rfl 2 (by decide) (hts (.fieldLink RX2 23 "CapacityRound" "boughtByYear" "[I") (by decide +kernel)) (fun _ h9 => h9) rfl dX2_take_51 ?_
        refine lv_iload hx hb dX2_take_54 (lv_at hl 0 rfl) ?_
        refine lv_dup2_11 hx hb dX2_take_56 rfl rfl ?_
        refine q_iald hx hb hK hP 10 0 rfl rfl k (ex7) (by omega) (by decide) dX2_take_57 ?_
        refine lv_iload hx hb dX2_take_58 (lv_at hl 2 rfl) ?_
        refine lv_iadd hx hb dX2_take_60 ?_
        refine q_iast hx hb hK hP hD hS 10 0 rfl rfl k (ex7) (by omega) (by decide) dX2_take_61 (fun H locs hP hD hS => ?_)
        rw [show upd (z_ad fB y k (fA j)) k ((z_ad fB y k (fA j)) k + fA j) = z_ad fB y (k + 1) (fA j) from z_ads hlo_k] at hP hD
        have hP : va_P (dC, dI) vwCl [(ax, .inr (2, [.ref ad, .ref aq, .ref aB, .ref aN, .ref aY, .ref aU, .ref aS, .int tr, .int ra, .int ca])), (ad, .inr (0, [.ref aw, .int lo, .int up, .int tp])), (aw, .inl (cI, 1002, .inl fW)), (aq, .inr (1, [.ref aP, .ref aA, .ref aT, .ref aO, .int (nI n), .ref aE, .ref aI])), (aP, .inl (cI, 12, .inl fP)), (aA, .inl (cI, 12, .inl fA)), (aT, .inl (cI, 12, .inl fT)), (aO, .inl (cI, 12, .inl fO)), (aE, .inl (cI, 12, .inl fE)), (aI, .inl (cZ, 12, .inl fI)), (aB, .inl (cI, 8, .inl (z_ad fB y (k + 1) (fA j)))), (aN, .inl (cI, 40, .inl (z_ad fN (pn * 8 + y) (pn * 8 + k) (fA j * pr)))), (aY, .inl (cI, 480, .inl (z_ad fY ((pn * 8 + y) * 12) ((pn * 8 + k) * 12) (fA j)))), (aU, .inl (cI, 480, .inl fU)), (aS, .inl (cZ, 96, .inl fS))] H := hP
        have hD : va_D A [(ax, .inr (2, [.ref ad, .ref aq, .ref aB, .ref aN, .ref aY, .ref aU, .ref aS, .int tr, .int ra, .int ca])), (ad, .inr (0, [.ref aw, .int lo, .int up, .int tp])), (aw, .inl (cI, 1002, .inl fW)), (aq, .inr (1, [.ref aP, .ref aA, .ref aT, .ref aO, .int (nI n), .ref aE, .ref aI])), (aP, .inl (cI, 12, .inl fP)), (aA, .inl (cI, 12, .inl fA)), (aT, .inl (cI, 12, .inl fT)), (aO, .inl (cI, 12, .inl fO)), (aE, .inl (cI, 12, .inl fE)), (aI, .inl (cZ, 12, .inl fI)), (aB, .inl (cI, 8, .inl (z_ad fB y (k + 1) (fA j)))), (aN, .inl (cI, 40, .inl (z_ad fN (pn * 8 + y) (pn * 8 + k) (fA j * pr)))), (aY, .inl (cI, 480, .inl (z_ad fY ((pn * 8 + y) * 12) ((pn * 8 + k) * 12) (fA j)))), (aU, .inl (cI, 480, .inl fU)), (aS, .inl (cZ, 96, .inl fS))] := hD
        refine lv_aload_n hx hb dX2_take_62 rfl (lv_at hl 4 rfl) ?_
        refine va_get (D := (dC, dI)) (ci := 2) (v := .ref aN) (C := RX2) (T := TX2) (N := 10) hx hb hts (by decide +kernel) hown hK hP 0 rfl rfl 3 (by decide) (hts (.fieldLink RX2 27 "CapacityRound" "incomes" "[I") (by decide +kernel)) (fun _ h9 => h9) rfl dX2_take_63 ?_
        refine lv_iload hx hb dX2_take_66 (lv_at hl 3 rfl) ?_
        refine lv_iload hx hb dX2_take_68 (lv_at hl 0 rfl) ?_
        refine q_rS (wc := []) (r := (nI pn * 8 + x7)) (As := [.int (nI pn), .int x7]) (rest := [.ref aN]) ⟨hx, hb, hml, hown, hts⟩ (c_X2_yearCell l dC dI cI cZ cJ (nI pn) x7) (va_cwS 2 hts gX2_take_X2_yearCell rfl rfl rfl (by decide +kernel) ⟨Nat.le_of_ble_eq_true rfl, Nat.le_of_ble_eq_true rfl⟩) hK (hP.sub [] rfl) rfl hl.1 rfl (Nat.le_of_ble_eq_true rfl) dX2_take_70 ⟨Nat.zero_le _, Nat.zero_le _⟩ ?_
        refine lv_dup2_11 hx hb dX2_take_73 rfl rfl ?_
        refine q_iald hx hb hK hP 11 0 rfl rfl (pn * 8 + k) (z_yc rfl ex7) (by omega) (by decide) dX2_take_74 ?_
        refine lv_iload hx hb dX2_take_75 (lv_at hl 2 rfl) ?_
        refine lv_iload_n hx hb dX2_take_77 rfl (lv_at hl 7 rfl) ?_
        refine lv_imul hx hb dX2_take_78 ?_
        refine lv_iadd hx hb dX2_take_79 ?_
        refine q_iast hx hb hK hP hD hS 11 0 rfl rfl (pn * 8 + k) (z_yc rfl ex7) (by omega) (by decide) dX2_take_80 (fun H locs hP hD hS => ?_)
        rw [show upd (z_ad fN (pn * 8 + y) (pn * 8 + k) (fA j * pr)) (pn * 8 + k) ((z_ad fN (pn * 8 + y) (pn * 8 + k) (fA j * pr)) (pn * 8 + k) + fA j * pr) = z_ad fN (pn * 8 + y) (pn * 8 + (k + 1)) (fA j * pr) from z_ads (by omega)] at hP hD
        have hP : va_P (dC, dI) vwCl [(ax, .inr (2, [.ref ad, .ref aq, .ref aB, .ref aN, .ref aY, .ref aU, .ref aS, .int tr, .int ra, .int ca])), (ad, .inr (0, [.ref aw, .int lo, .int up, .int tp])), (aw, .inl (cI, 1002, .inl fW)), (aq, .inr (1, [.ref aP, .ref aA, .ref aT, .ref aO, .int (nI n), .ref aE, .ref aI])), (aP, .inl (cI, 12, .inl fP)), (aA, .inl (cI, 12, .inl fA)), (aT, .inl (cI, 12, .inl fT)), (aO, .inl (cI, 12, .inl fO)), (aE, .inl (cI, 12, .inl fE)), (aI, .inl (cZ, 12, .inl fI)), (aB, .inl (cI, 8, .inl (z_ad fB y (k + 1) (fA j)))), (aN, .inl (cI, 40, .inl (z_ad fN (pn * 8 + y) (pn * 8 + (k + 1)) (fA j * pr)))), (aY, .inl (cI, 480, .inl (z_ad fY ((pn * 8 + y) * 12) ((pn * 8 + k) * 12) (fA j)))), (aU, .inl (cI, 480, .inl fU)), (aS, .inl (cZ, 96, .inl fS))] H := hP
        have hD : va_D A [(ax, .inr (2, [.ref ad, .ref aq, .ref aB, .ref aN, .ref aY, .ref aU, .ref aS, .int tr, .int ra, .int ca])), (ad, .inr (0, [.ref aw, .int lo, .int up, .int tp])), (aw, .inl (cI, 1002, .inl fW)), (aq, .inr (1, [.ref aP, .ref aA, .ref aT, .ref aO, .int (nI n), .ref aE, .ref aI])), (aP, .inl (cI, 12, .inl fP)), (aA, .inl (cI, 12, .inl fA)), (aT, .inl (cI, 12, .inl fT)), (aO, .inl (cI, 12, .inl fO)), (aE, .inl (cI, 12, .inl fE)), (aI, .inl (cZ, 12, .inl fI)), (aB, .inl (cI, 8, .inl (z_ad fB y (k + 1) (fA j)))), (aN, .inl (cI, 40, .inl (z_ad fN (pn * 8 + y) (pn * 8 + (k + 1)) (fA j * pr)))), (aY, .inl (cI, 480, .inl (z_ad fY ((pn * 8 + y) * 12) ((pn * 8 + k) * 12) (fA j)))), (aU, .inl (cI, 480, .inl fU)), (aS, .inl (cZ, 96, .inl fS))] := hD
        refine lv_iconst (v := 0) hx hb dX2_take_81 (by decide) ?_
        refine lv_istore (lv' := [(8, .int 0), (7, .int x7), (6, .int (nI (min (y + T) 8))), (5, .int (fA j)), (4, .int (nI pn)), (0, .ref ax), (1, .int jo), (2, .int fy0), (3, .int pr)]) hx hb dX2_take_82 hl (by decide) rfl (fun ls hl => ?_)
        have lp_84 : ∀ (wh h : Nat) (x8 : Int32), h ≤ 12 → 12 < h + wh → x8 = nI h → ∀ (H : Heap) (locs : List Loc), va_P (dC, dI) vwCl [(ax, .inr (2, [.ref ad, .ref aq, .ref aB, .ref aN, .ref aY, .ref aU, .ref aS, .int tr, .int ra, .int ca])), (ad, .inr (0, [.ref aw, .int lo, .int up, .int tp])), (aw, .inl (cI, 1002, .inl fW)), (aq, .inr (1, [.ref aP, .ref aA, .ref aT, .ref aO, .int (nI n), .ref aE, .ref aI])), (aP, .inl (cI, 12, .inl fP)), (aA, .inl (cI, 12, .inl fA)), (aT, .inl (cI, 12, .inl fT)), (aO, .inl (cI, 12, .inl fO)), (aE, .inl (cI, 12, .inl fE)), (aI, .inl (cZ, 12, .inl fI)), (aB, .inl (cI, 8, .inl (z_ad fB y (k + 1) (fA j)))), (aN, .inl (cI, 40, .inl (z_ad fN (pn * 8 + y) (pn * 8 + (k + 1)) (fA j * pr)))), (aY, .inl (cI, 480, .inl (z_ad fY ((pn * 8 + y) * 12) ((pn * 8 + k) * 12 + h) (fA j)))), (aU, .inl (cI, 480, .inl fU)), (aS, .inl (cZ, 96, .inl fS))] H → va_D A [(ax, .inr (2, [.ref ad, .ref aq, .ref aB, .ref aN, .ref aY, .ref aU, .ref aS, .int tr, .int ra, .int ca])), (ad, .inr (0, [.ref aw, .int lo, .int up, .int tp])), (aw, .inl (cI, 1002, .inl fW)), (aq, .inr (1, [.ref aP, .ref aA, .ref aT, .ref aO, .int (nI n), .ref aE, .ref aI])), (aP, .inl (cI, 12, .inl fP)), (aA, .inl (cI, 12, .inl fA)), (aT, .inl (cI, 12, .inl fT)), (aO, .inl (cI, 12, .inl fO)), (aE, .inl (cI, 12, .inl fE)), (aI, .inl (cZ, 12, .inl fI)), (aB, .inl (cI, 8, .inl (z_ad fB y (k + 1) (fA j)))), (aN, .inl (cI, 40, .inl (z_ad fN (pn * 8 + y) (pn * 8 + (k + 1)) (fA j * pr)))), (aY, .inl (cI, 480, .inl (z_ad fY ((pn * 8 + y) * 12) ((pn * 8 + k) * 12 + h) (fA j)))), (aU, .inl (cI, 480, .inl fU)), (aS, .inl (cZ, 96, .inl fS))] → va_S A s.heap H locs → ∀ (ls : Array Slot), lv_has ls 9 [(8, .int x8), (7, .int x7), (6, .int (nI (min (y + T) 8))), (5, .int (fA j)), (4, .int (nI pn)), (0, .ref ax), (1, .int jo), (2, .int fy0), (3, .int pr)] → W p l e (headSpec wsX2_take ({ frames := 2, cells := 0, slots := 0, locals := 43 })).room s m [.ref ax, .int jo, .int fy0, .int pr].toArray below meth c H locs 0 0 (MQ below (q_W none (dC, dI) vwCl [(ax, .inr (2, [.ref ad, .ref aq, .ref aB, .ref aN, .ref aY, .ref aU, .ref aS, .int tr, .int ra, .int ca])), (ad, .inr (0, [.ref aw, .int lo, .int up, .int tp])), (aw, .inl (cI, 1002, .inl fW)), (aq, .inr (1, [.ref aP, .ref aA, .ref aT, .ref aO, .int (nI n), .ref aE, .ref aI])), (aP, .inl (cI, 12, .inl fP)), (aA, .inl (cI, 12, .inl fA)), (aT, .inl (cI, 12, .inl fT)), (aO, .inl (cI, 12, .inl fO)), (aE, .inl (cI, 12, .inl fE)), (aI, .inl (cZ, 12, .inl fI)), (aB, .inl (cI, 8, .inl (z_ad fB y (min (y + T) 8) (fA j)))), (aN, .inl (cI, 40, .inl (z_ad fN (pn * 8 + y) (pn * 8 + (min (y + T) 8)) (fA j * pr)))), (aY, .inl (cI, 480, .inl (z_ad fY ((pn * 8 + y) * 12) ((pn * 8 + (min (y + T) 8)) * 12) (fA j)))), (aU, .inl (cI, 480, .inl fU)), (aS, .inl (cZ, 96, .inl fS))] A) [.ref ax, .int jo, .int fy0, .int pr].toArray s 0 0 A) (F0 m 84 ls []) := by
          intro wh
          induction wh with
          | zero => intro h x8 hk_h hw_h; exact absurd hw_h (by omega)
          | succ wh ih_h =>
            intro h x8 hk_h hw_h ex8  H locs hP hD hS ls hl
            refine lv_iload hx hb dX2_take_84 (lv_at hl 0 rfl) ?_
            refine lv_bipush (v := 12) hx hb dX2_take_86 (by decide) ?_
            refine lv_icmp_ge (tgt := 116) hx hb dX2_take_88 (by decide) (fun c_88 => ?_) (fun c_88 => ?_)
            · have hh : h = 12 := q_ex ex8 hk_h (by omega) c_88
              refine lv_iinc (v := x7 + 1) (lv' := [(7, .int (x7 + 1)), (8, .int x8), (6, .int (nI (min (y + T) 8))), (5, .int (fA j)), (4, .int (nI pn)), (0, .ref ax), (1, .int jo), (2, .int fy0), (3, .int pr)]) hx hb dX2_take_116 hl (k := 1) rfl rfl (by decide) rfl (fun ls hl => ?_)
              refine lv_goto (tgt := 43) hx hb dX2_take_119 (by decide) ?_
              exact ih_k (k + 1) (x7 + 1) (by omega) (by omega) (by omega) (q_s1 ex7)  _ _ (by rw [show (pn * 8 + (k + 1)) * 12 = (pn * 8 + k) * 12 + h by omega]; exact hP) (by rw [show (pn * 8 + (k + 1)) * 12 = (pn * 8 + k) * 12 + h by omega]; exact hD) hS ls (lv_sub hl [0, 2, 3, 4, 5, 6, 7, 8] rfl)
            · have hh : h < 12 := q_lt ex8 hk_h (by omega) c_88
              refine lv_aload_n hx hb dX2_take_91 rfl (lv_at hl 5 rfl) ?_
              refine va_get (D := (dC, dI)) (ci := 2) (v := .ref aY) (C := RX2) (T := TX2) (N := 10) hx hb hts (by decide +kernel) hown hK hP 0 rfl rfl 4 (by decide) (hts (.fieldLink RX2 30 "CapacityRound" "obligations" "[I") (by decide +kernel)) (fun _ h9 => h9) rfl dX2_take_92 ?_
              refine lv_iload hx hb dX2_take_95 (lv_at hl 4 rfl) ?_
              refine lv_iload hx hb dX2_take_97 (lv_at hl 1 rfl) ?_
              refine lv_iload hx hb dX2_take_99 (lv_at hl 0 rfl) ?_
              refine q_rS (wc := []) (r := ((nI pn * 8 + x7) * 12 + x8)) (As := [.int (nI pn), .int x7, .int x8]) (rest := [.ref aY]) ⟨hx, hb, hml, hown, hts⟩ (c_X2_hourCell l dC dI cI cZ cJ (nI pn) x7 x8) (va_cwS 3 hts gX2_take_X2_hourCell rfl rfl rfl (by decide +kernel) ⟨Nat.le_of_ble_eq_true rfl, Nat.le_of_ble_eq_true rfl⟩) hK (hP.sub [] rfl) rfl hl.1 rfl (Nat.le_of_ble_eq_true rfl) dX2_take_101 ⟨Nat.zero_le _, Nat.zero_le _⟩ ?_
              refine lv_dup2_11 hx hb dX2_take_104 rfl rfl ?_
              refine q_iald hx hb hK hP 12 0 rfl rfl ((pn * 8 + k) * 12 + h) (z_hc rfl ex7 ex8) (by omega) (by decide) dX2_take_105 ?_
              refine lv_iload hx hb dX2_take_106 (lv_at hl 3 rfl) ?_
              refine lv_iadd hx hb dX2_take_108 ?_
              refine q_iast hx hb hK hP hD hS 12 0 rfl rfl ((pn * 8 + k) * 12 + h) (z_hc rfl ex7 ex8) (by omega) (by decide) dX2_take_109 (fun H locs hP hD hS => ?_)
              rw [show upd (z_ad fY ((pn * 8 + y) * 12) ((pn * 8 + k) * 12 + h) (fA j)) ((pn * 8 + k) * 12 + h) ((z_ad fY ((pn * 8 + y) * 12) ((pn * 8 + k) * 12 + h) (fA j)) ((pn * 8 + k) * 12 + h) + fA j) = z_ad fY ((pn * 8 + y) * 12) ((pn * 8 + k) * 12 + (h + 1)) (fA j) from z_ads (by omega)] at hP hD
              have hP : va_P (dC, dI) vwCl [(ax, .inr (2, [.ref ad, .ref aq, .ref aB, .ref aN, .ref aY, .ref aU, .ref aS, .int tr, .int ra, .int ca])), (ad, .inr (0, [.ref aw, .int lo, .int up, .int tp])), (aw, .inl (cI, 1002, .inl fW)), (aq, .inr (1, [.ref aP, .ref aA, .ref aT, .ref aO, .int (nI n), .ref aE, .ref aI])), (aP, .inl (cI, 12, .inl fP)), (aA, .inl (cI, 12, .inl fA)), (aT, .inl (cI, 12, .inl fT)), (aO, .inl (cI, 12, .inl fO)), (aE, .inl (cI, 12, .inl fE)), (aI, .inl (cZ, 12, .inl fI)), (aB, .inl (cI, 8, .inl (z_ad fB y (k + 1) (fA j)))), (aN, .inl (cI, 40, .inl (z_ad fN (pn * 8 + y) (pn * 8 + (k + 1)) (fA j * pr)))), (aY, .inl (cI, 480, .inl (z_ad fY ((pn * 8 + y) * 12) ((pn * 8 + k) * 12 + (h + 1)) (fA j)))), (aU, .inl (cI, 480, .inl fU)), (aS, .inl (cZ, 96, .inl fS))] H := hP
              have hD : va_D A [(ax, .inr (2, [.ref ad, .ref aq, .ref aB, .ref aN, .ref aY, .ref aU, .ref aS, .int tr, .int ra, .int ca])), (ad, .inr (0, [.ref aw, .int lo, .int up, .int tp])), (aw, .inl (cI, 1002, .inl fW)), (aq, .inr (1, [.ref aP, .ref aA, .ref aT, .ref aO, .int (nI n), .ref aE, .ref aI])), (aP, .inl (cI, 12, .inl fP)), (aA, .inl (cI, 12, .inl fA)), (aT, .inl (cI, 12, .inl fT)), (aO, .inl (cI, 12, .inl fO)), (aE, .inl (cI, 12, .inl fE)), (aI, .inl (cZ, 12, .inl fI)), (aB, .inl (cI, 8, .inl (z_ad fB y (k + 1) (fA j)))), (aN, .inl (cI, 40, .inl (z_ad fN (pn * 8 + y) (pn * 8 + (k + 1)) (fA j * pr)))), (aY, .inl (cI, 480, .inl (z_ad fY ((pn * 8 + y) * 12) ((pn * 8 + k) * 12 + (h + 1)) (fA j)))), (aU, .inl (cI, 480, .inl fU)), (aS, .inl (cZ, 96, .inl fS))] := hD
              refine lv_iinc (v := x8 + 1) (lv' := [(8, .int (x8 + 1)), (7, .int x7), (6, .int (nI (min (y + T) 8))), (5, .int (fA j)), (4, .int (nI pn)), (0, .ref ax), (1, .int jo), (2, .int fy0), (3, .int pr)]) hx hb dX2_take_110 hl (k := 0) rfl rfl (by decide) rfl (fun ls hl => ?_)
              refine lv_goto (tgt := 84) hx hb dX2_take_113 (by decide) ?_
              exact ih_h (h + 1) (x8 + 1) (by omega) (by omega) (q_s1 ex8)  _ _ hP hD hS ls (lv_sub hl [0, 1, 2, 3, 4, 5, 6, 7, 8] rfl)
        exact lp_84 (12 + 1) 0 0 (by omega) (by omega) (rfl)  _ _ hP hD hS ls (lv_sub hl [0, 1, 2, 3, 4, 5, 6, 7, 8] rfl)
  exact lp_43 (min (y + T) 8 + 1) y fy0 (Nat.le_refl _) (by omega) (by omega) (hy)  _ _ (by simp only [z_ad0]; exact hP) (by simp only [z_ad0]; exact hD) hS ls (lv_sub hl [0, 1, 2, 3, 4, 5, 6, 7] rfl)
end
