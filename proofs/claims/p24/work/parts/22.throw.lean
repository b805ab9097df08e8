/-! What a class method needs to throw; how it throws before it writes. -/
abbrev q_IA : String := "java/lang/IllegalArgumentException"
abbrev q_IO : String := "java/lang/IndexOutOfBoundsException"
abbrev q_IS : String := "java/lang/IllegalStateException"
abbrev q_NS : List String := ["java/lang/RuntimeException", "java/lang/Exception"]
def q_xw : List Cond := (vx_atS RX2 58 q_IA q_NS ++ (vx_atS RX2 84 q_IO q_NS ++ vx_atS RX2 95 q_IS q_NS)).filter (fun w => !goodWord w)
def q_strs : List (Nat × String) := [(56, "lower, upper or top is out of range"), (65, "unit is out of range"), (71, "amount is out of range"), (82, "no such party"), (85, "capacity, derating, exit or term is out of range"), (93, "no room for another offer"), (103, "price is out of range"), (111, "no such year"), (126, "no such offer or year"), (132, "no offers wait"), (143, "no such party or year"), (152, "no such party, year or hour"), (158, "the same party, no hours, or amount is out of range"), (163, "the obligation is less than the amount"), (165, "no such year or hour"), (167, "output is out of range"), (169, "rate or cap is out of range")]
def q_XK (U : State) : Prop := (∀ w ∈ q_xw, w.before #[] U = true) ∧ vx_Zq Bundle.tN "UNASSIGNED_STACK" Bundle.steD (fun _ => False) U U.heap ∧ vx_Zq Bundle.tN "SUPPRESSED_SENTINEL" Bundle.listD (fun _ => False) U U.heap ∧ ∀ q ∈ q_strs, ∃ a : Nat, vk_R RX2 q.1 q.2 a U
def q_MX (D : va_G) (cl : List vw_C) (tys : List (ClassId × FieldType)) (ws : va_W) : State → Prop := fun U => q_M D cl tys ws U ∧ q_XK U
theorem q_xwot : ∀ w ∈ q_xw, vx_ot w = true := by decide +kernel
theorem q_XK.go {u U : State} (hW : u.WarmedH U.vm) (hvm : u.vm = U.vm) (hh : U.heap = u.heap) (h : q_XK u) : q_XK U := by
  obtain ⟨h1, h2, h3, h4⟩ := h
  refine ⟨fun w hw => vx_ot_at hW hvm (q_xwot w hw) (h1 w hw), ?_, ?_, fun q hq => ?_⟩
  · rw [hh]; exact vx_Zq.moved hW.alike h2
  · rw [hh]; exact vx_Zq.moved hW.alike h3
  · obtain ⟨a, ha⟩ := h4 q hq
    exact ⟨a, vk_R.same hvm.symm ha⟩
theorem q_MXb {D : va_G} {cl : List vw_C} {tys : List (ClassId × FieldType)} {ws : va_W} {av : List Value} : FrameBlind (va_Pc av (q_MX D cl tys ws)) := fun a U g mk q => ⟨q.1, ⟨q.2.1.1, va_K.moved (u := U) (U := U.calling g mk a) (Vm.Alike.refl U.vm) q.2.1.2.1, q.2.1.2.2⟩, q_XK.go (u := U) (U := U.calling g mk a) (State.WarmedH.refl U) rfl rfl q.2.2⟩
abbrev q_ec (xs : List String) (cd : Int32) : String → Prop := fun E => ∃ i : Nat, xs[i]? = some E ∧ cd = nI (i + 1)
theorem z_cd1 {a b c : Bool} (h : a = false) : z_cd a b c = nI 1 := by subst h; rfl
theorem z_cd2 {a b c : Bool} (h : a = true) (h2 : b = false) : z_cd a b c = nI 2 := by subst h; subst h2; rfl
theorem z_cd3 {a b c : Bool} (h : a = true) (h2 : b = true) (h3 : c = false) : z_cd a b c = nI 3 := by subst h; subst h2; subst h3; rfl
theorem z_cd0 {a b c : Bool} (h : a = true) (h2 : b = true) (h3 : c = true) : z_cd a b c = 0 := by subst h; subst h2; subst h3; rfl
section QTH
variable {p : Program} {l : Launch} {e : Env} {R : Room} {s : State} {m : MethodId} {args : Array Value} {below : List Frame} {meth : Method} {c : Code}
theorem q_thr {cc : ByteArray} {pc : Nat} (hexec : p.tables.exec = Jvm.exec) (hb : c.code = cc) (hl : l.stackTraces = false) {cls : String} {ik is ic nL : Nat} {q : Nat × String} {ls : Array Slot} {rest : List Value} {Qc : Array Value → State → Outcome → State → Prop} {px : String → Prop} {free : Addr → Prop}
    (hown : s.vm.findClass RX2 = some m.cls) (hcls : Bundle.fit cls = true) (hk : (Cond.classLink RX2 ik cls).before args s = true) (hini : (Cond.initialized cls).before args s = true) (hXK : q_XK s) (hq : q ∈ q_strs) (hqi : q.1 = is)
    (hat1 : ∀ w ∈ (vx_atS RX2 ic cls q_NS).filter goodWord, w.before args s = true) (hat2 : ∀ w ∈ (vx_atS RX2 ic cls q_NS).filter (fun w => !goodWord w), w ∈ q_xw)
    (hgood : ∀ w ∈ Cond.classLink RX2 ik cls :: Cond.initialized cls :: vx_atS RX2 ic cls q_NS, vx_ot w = true)
    (hsize : ls.size = nL) (hml : c.maxLocals = nL) (htab : ∀ x ∈ c.exceptionTable.toList, False) (hlocks : meth.locks = false)
    (d0 : decode cc pc = .ok (.new ik, 3)) (d3 : decode cc (pc + 3) = .ok (.dup, 1)) (d4 : decode cc (pc + 4) = .ok (.ldc is, 2)) (d6 : decode cc (pc + 6) = .ok (.invokespecial ic, 3)) (d9 : decode cc (pc + 9) = .ok (.athrow, 1))
    (hRf : 5 < R.frames) (hRl : (rest.map fun v => v.category).sum + 82 ≤ R.locals) (hRc : 1 ≤ R.cells) (hRs : 6 ≤ R.slots) (hpx : px cls) :
    W p l e R s m args below meth c s.heap [] 0 0 (vx_MQ below Qc (q_X px) args s 1 6 free) (F0 m pc ls rest) := by
  obtain ⟨h1, h2, h3, h4⟩ := hXK
  obtain ⟨sa, hsa⟩ := h4 q hq
  rw [hqi] at hsa
  refine vx_throwS (A := fun _ => False) (own := RX2) (cls := cls) (text := q.2) (names := q_NS) (ik := ik) (is := is) (ic := ic) (sa := sa) hexec hb hl hown hcls (by decide +kernel) hk hini hsa ?_ hgood h2 h3 va_S.rf (hsize.trans hml.symm) d0 d3 d4 d6 d9 (fun x hx => (htab x hx).elim) hRf ?_ (by omega) (by omega) hlocks ?_ (fun z hz => nomatch hz) (by omega) (by omega)
  · exact vx_hat hat1 hat2 (fun w hw => vx_ot_at (State.WarmedH.refl s) rfl (q_xwot w hw) (h1 w hw))
  · show _ + (13 * (2 + 1) + 43) ≤ _
    omega
  · intro t ht hz hk9
    exact ⟨hpx, hz, fun q hq _ => hk9 q hq⟩
theorem q_inIA : ∀ w ∈ (vx_atS RX2 58 q_IA q_NS).filter (fun w => !goodWord w), w ∈ q_xw := by decide +kernel
theorem q_inIO : ∀ w ∈ (vx_atS RX2 84 q_IO q_NS).filter (fun w => !goodWord w), w ∈ q_xw := by decide +kernel
theorem q_inIS : ∀ w ∈ (vx_atS RX2 95 q_IS q_NS).filter (fun w => !goodWord w), w ∈ q_xw := by decide +kernel
theorem q_gdIA : ∀ w ∈ Cond.classLink RX2 54 q_IA :: Cond.initialized q_IA :: vx_atS RX2 58 q_IA q_NS, vx_ot w = true := by decide +kernel
theorem q_gdIO : ∀ w ∈ Cond.classLink RX2 80 q_IO :: Cond.initialized q_IO :: vx_atS RX2 84 q_IO q_NS, vx_ot w = true := by decide +kernel
theorem q_gdIS : ∀ w ∈ Cond.classLink RX2 91 q_IS :: Cond.initialized q_IS :: vx_atS RX2 95 q_IS q_NS, vx_ot w = true := by decide +kernel
end QTH
