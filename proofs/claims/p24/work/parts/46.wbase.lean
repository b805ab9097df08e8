/-! The law's wrappers: a call of the class that may throw, caught. -/
def q_isC (w : Cond) : Bool := match w with
  | .castable _ _ => true
  | .declares _ => true
  | _ => false
theorem q_isCs {w : Cond} (h : q_isC w = true) : (∃ C T, w = Cond.castable C T) ∨ ∃ x, w = Cond.declares x := by
  cases w <;> first | exact Or.inl ⟨_, _, rfl⟩ | exact Or.inr ⟨_, rfl⟩ | exact absurd h (by simp [q_isC])
theorem q_xwc : ∀ w ∈ q_xw, q_isC w = true := by decide +kernel
theorem q_castmv {C T : String} {u U : State} (hvm : u.vm.Alike U.vm) (h : (Cond.castable C T).before #[] u = true) : (Cond.castable C T).before #[] U = true := by
  have e := Cond.onTables_vm (A := #[]) (A' := #[]) (U := u) (U' := U) U.vm (Cond.castable C T) rfl
  have hU : U.setVm U.vm = U := rfl
  rw [hU] at e
  rw [← e, Cond.castable_setVm hvm]
  exact h
theorem q_declmv {x : MethodName} {u U : State} (hvm : u.vm.Alike U.vm) (h : (Cond.declares x).before #[] u = true) : (Cond.declares x).before #[] U = true := by
  have e := Cond.onTables_vm (A := #[]) (A' := #[]) (U := u) (U' := U) U.vm (Cond.declares x) rfl
  have hU : U.setVm U.vm = U := rfl
  rw [hU] at e
  rw [← e, Cond.declares_setVm hvm]
  exact h
def q_XKH (s : State) (H : Heap) : Prop := (∀ w ∈ q_xw, w.before #[] s = true) ∧ vx_Zq Bundle.tN "UNASSIGNED_STACK" Bundle.steD (fun _ => False) s H ∧ vx_Zq Bundle.tN "SUPPRESSED_SENTINEL" Bundle.listD (fun _ => False) s H ∧ ∀ q ∈ q_strs, ∃ a : Nat, vk_R RX2 q.1 q.2 a s
theorem q_XKH.at {s U : State} {H : Heap} (h : q_XKH s H) (hU : U.heap = H) (hW : s.WarmedH U.vm) : q_XK U := by
  obtain ⟨h1, h2, h3, h4⟩ := h
  refine ⟨fun w hw => ?_, ?_, ?_, fun q hq => ?_⟩
  · have h9 := h1 w hw
    rcases q_isCs (q_xwc w hw) with ⟨C, T, rfl⟩ | ⟨x, rfl⟩
    · exact q_castmv hW.alike h9
    · exact q_declmv hW.alike h9
  · rw [hU]; exact vx_Zq.moved hW.alike h2
  · rw [hU]; exact vx_Zq.moved hW.alike h3
  · obtain ⟨a, ha⟩ := h4 q hq
    exact ⟨a, vk_R.warm hW ha⟩
def q_NC (U : State) : Prop := va_Nc q_IA q_IO U ∧ va_Nc q_IS q_IO U ∧ va_Nc q_IS q_IA U
theorem q_NC.moved {u U : State} (hvm : u.vm.Alike U.vm) (h : q_NC u) : q_NC U := ⟨va_Nc.moved hvm h.1, va_Nc.moved hvm h.2.1, va_Nc.moved hvm h.2.2⟩
def q_ML (D : va_G) (cl : List vw_C) (tys : List (ClassId × FieldType)) (ws : va_W) : State → Prop := fun U => q_M D cl tys ws U ∧ q_XK U ∧ q_NC U
theorem q_MLb {D : va_G} {cl : List vw_C} {tys : List (ClassId × FieldType)} {ws : va_W} {av : List Value} : FrameBlind (va_Pc av (q_ML D cl tys ws)) := fun a U g mk q => ⟨q.1, ⟨q.2.1.1, va_K.moved (u := U) (U := U.calling g mk a) (Vm.Alike.refl U.vm) q.2.1.2.1, q.2.1.2.2⟩, q_XK.go (u := U) (U := U.calling g mk a) (State.WarmedH.refl U) rfl rfl q.2.2.1, q_NC.moved (u := U) (U := U.calling g mk a) (Vm.Alike.refl U.vm) q.2.2.2⟩
theorem q_cst {s : State} (h : q_XK s) {E : String} (hE : Cond.castable E E ∈ q_xw) (args : Array Value) : (Cond.castable E E).before args s = true := vx_ot_at (State.WarmedH.refl s) rfl rfl (h.1 _ hE)
theorem q_cA : Cond.castable q_IA q_IA ∈ q_xw := by decide +kernel
theorem q_cO : Cond.castable q_IO q_IO ∈ q_xw := by decide +kernel
theorem q_cS : Cond.castable q_IS q_IS ∈ q_xw := by decide +kernel
theorem q_ec1 {a E : String} {cd : Int32} (h : q_ec [a] cd E) : E = a ∧ cd = 1 := by
  obtain ⟨i, h1, h2⟩ := h
  match i, h1, h2 with
  | 0, h1, h2 => exact ⟨(Option.some.inj h1).symm, h2⟩
  | i + 1, h1, _ => exact absurd h1 (by simp)
theorem q_ec2 {a b E : String} {cd : Int32} (h : q_ec [a, b] cd E) : (E = a ∧ cd = 1) ∨ (E = b ∧ cd = 2) := by
  obtain ⟨i, h1, h2⟩ := h
  match i, h1, h2 with
  | 0, h1, h2 => exact Or.inl ⟨(Option.some.inj h1).symm, h2⟩
  | 1, h1, h2 => exact Or.inr ⟨(Option.some.inj h1).symm, h2⟩
  | i + 2, h1, _ => exact absurd h1 (by simp)
theorem q_ec3 {a b d E : String} {cd : Int32} (h : q_ec [a, b, d] cd E) : (E = a ∧ cd = 1) ∨ (E = b ∧ cd = 2) ∨ (E = d ∧ cd = 3) := by
  obtain ⟨i, h1, h2⟩ := h
  match i, h1, h2 with
  | 0, h1, h2 => exact Or.inl ⟨(Option.some.inj h1).symm, h2⟩
  | 1, h1, h2 => exact Or.inr (Or.inl ⟨(Option.some.inj h1).symm, h2⟩)
  | 2, h1, h2 => exact Or.inr (Or.inr ⟨(Option.some.inj h1).symm, h2⟩)
  | i + 3, h1, _ => exact absurd h1 (by simp)
theorem q_ec0 {xs : List String} {E : String} {cd : Int32} (h : q_ec xs cd E) (hl : xs.length ≤ 3) (h0 : cd = 0) : False := by
  obtain ⟨i, h1, h2⟩ := h
  have hi : i < xs.length := (List.getElem?_eq_some_iff.mp h1).1
  rw [h0] at h2
  exact nI_ne0 (n := i + 1) (by omega) (by omega) h2.symm
def z_bl (x : Bool) : Int64 := if x then 1 else 0
section QXV
variable {p : Program} {l : Launch} {e : Env} {R : Room} {s : State} {m : MethodId} {args : Array Value} {below : List Frame} {meth : Method} {c : Code} {H : Heap} {locs : List Loc} {cells slots : Nat} {Q : State → Prop}
variable {pc : Nat} {ls : Array Slot} {rest st0 : List Value}
variable {y : MethodName} {bytes cc : ByteArray} {maxL nL n index : Nat} {ret : Option FieldType} {wsy : List Cond} {rm : Room} {Ts : List Cond} {own C : String} {b : Addr} {As : List Value}
variable {D : va_G} {cl : List vw_C} {tys : List (ClassId × FieldType)} {ws wc wc' ws' : va_W} {A A0 : Nat → Prop} {H0 : Heap}
theorem q_xV {v : Option Value} {cond : Prop} {px : String → Prop} (S : CallFix p m c cc nL s args Ts own) (hM : vx_Met l y wsy rm (va_Pc (.ref b :: As) (q_MX D cl tys wc)) (q_V cond v D cl wc' (q_B wc)) (q_X px) 1 6 (q_B wc)) (cw : CallW R s args own C index y bytes maxL ret wsy rm 1 6 n)
    (hK : va_K D cl tys s) (hX : q_XKH s H) (hP : va_P D cl ws H) (hD : va_D A0 ws) (hS : va_S A0 H0 H locs) (isC : List Nat) (hCs : isC.map (fun i => ws[i]?) = wc.map some) (hnd : va_nd isC = true)
    (src : List (Bool × Nat)) (h' : src.map (fun q => if q.1 then wc'[q.2]? else ws[q.2]?) = ws'.map some) (hsn : src.all (fun q => q.1 || !(isC.contains q.2)) = true) (ha : ws'.map Prod.fst = ws.map Prod.fst)
    (ci q0 : Nat) {q : vw_C} {fs : List Value} (hc : cl[ci]? = some q) (hC : q.1 = C) (he : wc[q0]? = some (b, .inr (ci, fs))) (hn : As.length = n) (hsize : ls.size = nL) (hst : st0 = As.reverse ++ .ref b :: rest)
    (hW : (rest.map fun v => v.category).sum ≤ 8) (hdg : decode cc pc = .ok (.invokevirtual index, 3)) (hf : cells + 1 ≤ R.cells ∧ slots + 6 ≤ R.slots)
    (kx : ∀ (E : String) (ce : Cell) (q9 : Addr) (H1 : Heap) (locs1 : List Loc), px E → va_P D cl ws H1 → va_D A0 ws → va_S A0 H0 H1 locs1 → H1[q9]? = some ce → ce.vm = .none → s.vm.findClass E = some ce.cls → vx_W p l e R s m args below meth c H1 locs1 (cells + 1) (slots + 6) Q (F0 m pc ls rest) q9)
    (kk : ∀ (H1 : Heap) (locs1 : List Loc), cond → va_P D cl ws' H1 → va_D A0 ws' → va_S A0 H0 H1 locs1 → W p l e R s m args below meth c H1 locs1 (cells + 1) (slots + 6) Q (F0 m (pc + 3) ls (v.toList ++ rest))) : W p l e R s m args below meth c H locs cells slots Q (F0 m pc ls st0) := by
  subst hC
  have hPc : va_P D cl wc H := by
    intro k z hz
    have h1 : (isC.map (fun i => ws[i]?))[k]? = some (some z) := by rw [hCs, List.getElem?_map, hz]; rfl
    rw [List.getElem?_map] at h1
    cases hi : isC[k]? with
    | none => rw [hi] at h1; cases h1
    | some i => rw [hi] at h1; exact hP i z (Option.some.inj h1)
  have hDc : va_D A0 wc := hD.sub isC hnd hCs
  have hin := q_Bin hD isC hCs
  have hr : vx_Run p l e R s m args below meth c H locs cells slots 1 6 (F0 m pc ls st0) rest (q_V cond v D cl wc' (q_B wc) (Value.ref b :: As).toArray) (q_X px) (q_B wc) := vx_runV S hM cw ⟨q_MXb, va_recv hK hPc hc he, fun U hU hW => ⟨rfl, ⟨by rw [hU]; exact hPc, va_K.moved hW.alike hK, q_Dall hDc⟩, hX.at hU hW⟩⟩ rfl hn hsize hst (lv_room (m := m) (pc := pc) (ls := ls) (rest := st0) hW) hdg hf
  intro T hT X
  rcases hr T hT X with ⟨v', st₀, t, T', L, h0, X', hL, e1, e2, ⟨hcd, hv, hP1, hF⟩, st⟩ | ⟨q9, st₀, t, T', L, E, ce, h0, X', hL, e1, e2, ⟨hpx, hF⟩, hce, hcv, hcl, st⟩
  · cases hv
    obtain ⟨k1, k2, k3⟩ := vx_keep h0 e1 hS (fun q _ hq => hin q hq) hin hL hF
    rw [← e1] at hP1
    obtain ⟨j1, j2⟩ := q_join hP hD isC hCs src h' hsn ha (fun _ h => h) k2 hP1
    obtain ⟨t2, a1, b1⟩ := kk T'.heap (locs ++ L) hcd j1 j2 k3 T' rfl X'
    exact ⟨t2, st t2 a1, b1⟩
  · obtain ⟨k1, k2, k3⟩ := vx_keep h0 e1 hS (fun q _ hq => hq.elim) hin hL hF
    have hP2 : va_P D cl ws T'.heap := hP.kept (fun k z hz => k2 z.1 (hP k z hz).lt (fun h => h))
    obtain ⟨t2, a1, b1⟩ := kx E ce q9 T'.heap (locs ++ L) hpx hP2 hD k3 (by rw [e1]; exact hce) hcv hcl T' rfl X'
    exact ⟨t2, st.trans a1, b1⟩
end QXV
