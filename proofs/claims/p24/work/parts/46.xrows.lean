/-! Rows for calls of static methods that catch, or that are plain, where nothing is thrown; the script's reader. -/
section QLW
variable {p : Program} {l : Launch} {e : Env} {R : Room} {s : State} {m : MethodId} {args : Array Value} {below : List Frame} {meth : Method} {c : Code} {H : Heap} {locs : List Loc} {cells slots : Nat} {Q : State → Prop}
variable {pc : Nat} {ls : Array Slot} {rest st0 : List Value}
variable {y : MethodName} {bytes cc : ByteArray} {maxL nL n index : Nat} {ret : Option FieldType} {wsy : List Cond} {rm : Room} {Ts : List Cond} {own C : String} {b : Addr} {As : List Value} {hh : List (Nat × Nat × Nat × Nat)}
variable {D : va_G} {cl : List vw_C} {tys : List (ClassId × FieldType)} {ws wc wc' ws' : va_W} {A A0 : Nat → Prop} {H0 : Heap}
/-- a static one that catches, that only reads -/
theorem q_rSW {r : Int32} (S : CallFix p m c cc nL s args Ts own) (hM : Met l y wsy rm (va_Pc As (q_R D cl tys wc)) (QcRead r) 0 0 (fun _ => False)) (cw : vx_CSW R s args own index y bytes maxL ret hh wsy rm 0 0 n)
    (hK : va_K D cl tys s) (hP : va_P D cl wc H) (hn : As.length = n) (hsize : ls.size = nL) (hst : st0 = As.reverse ++ rest)
    (hW : (rest.map fun v => v.category).sum ≤ 8) (hdg : decode cc pc = .ok (.invokestatic index, 3)) (hf : cells + 0 ≤ R.cells ∧ slots + 0 ≤ R.slots)
    (kk : W p l e R s m args below meth c H locs cells slots Q (F0 m (pc + 3) ls (.int r :: rest))) : W p l e R s m args below meth c H locs cells slots Q (F0 m pc ls st0) := by
  have hr : va_Run p l e R s m args below meth c H locs cells slots 0 0 (F0 m pc ls st0) rest (QcRead r As.toArray) (fun _ => False) := vx_runSW S hM cw ⟨q_Rb, fun U hU hW => ⟨rfl, by rw [hU]; exact hP, va_K.moved hW.alike hK⟩⟩ rfl hn hsize hst (lv_room (m := m) (pc := pc) (ls := ls) (rest := st0) hW) hdg hf
  intro T hT X
  obtain ⟨v, st₀, t, T', L, h0, X', hL, e1, e2, ⟨hv, hh⟩, st⟩ := hr T hT X
  cases hv
  obtain ⟨t2, a1, b1⟩ := kk T' (by rw [e1, hh, h0]) (Stand.forget X' (fun q h => (hL q h).elim))
  exact ⟨t2, st t2 a1, b1⟩
theorem q_wS0 {v : Option Value} (hr : va_Run p l e R s m args below meth c H locs cells slots 0 0 (F0 m pc ls st0) rest (q_W v D cl wc' (q_B wc) As.toArray) (q_B wc))
    (hP : va_P D cl ws H) (hD : va_D A0 ws) (hS : va_S A0 H0 H locs) (isC : List Nat) (hCs : isC.map (fun i => ws[i]?) = wc.map some)
    (src : List (Bool × Nat)) (h' : src.map (fun q => if q.1 then wc'[q.2]? else ws[q.2]?) = ws'.map some) (hsn : src.all (fun q => q.1 || !(isC.contains q.2)) = true) (ha : ws'.map Prod.fst = ws.map Prod.fst)
    (kk : ∀ (H1 : Heap) (locs1 : List Loc), va_P D cl ws' H1 → va_D A0 ws' → va_S A0 H0 H1 locs1 → W p l e R s m args below meth c H1 locs1 cells slots Q (F0 m (pc + 3) ls (v.toList ++ rest))) : W p l e R s m args below meth c H locs cells slots Q (F0 m pc ls st0) := by
  have hin := q_Bin hD isC hCs
  intro T hT X
  obtain ⟨v', st₀, t, T', L, h0, X', hL, e1, e2, ⟨hv, hP1, hF⟩, st⟩ := hr T hT X
  cases hv
  obtain ⟨k1, k2, k3⟩ := vx_keep h0 e1 hS (fun q _ hq => hin q hq) hin hL hF
  rw [← e1] at hP1
  obtain ⟨j1, j2⟩ := q_join hP hD isC hCs src h' hsn ha (fun _ h => h) k2 hP1
  obtain ⟨t2, a1, b1⟩ := kk T'.heap (locs ++ L) j1 j2 k3 T' rfl X'
  exact ⟨t2, st t2 a1, b1⟩
theorem q_Pcut (hP : va_P D cl ws H) (isC : List Nat) (hCs : isC.map (fun i => ws[i]?) = wc.map some) : va_P D cl wc H := by
  intro k z hz
  have h1 : (isC.map (fun i => ws[i]?))[k]? = some (some z) := by rw [hCs, List.getElem?_map, hz]; rfl
  rw [List.getElem?_map] at h1
  cases hi : isC[k]? with
  | none => rw [hi] at h1; cases h1
  | some i => rw [hi] at h1; exact hP i z (Option.some.inj h1)
/-- a static one that catches, that writes its world -/
theorem q_wSW0 {v : Option Value} (S : CallFix p m c cc nL s args Ts own) (hM : Met l y wsy rm (va_Pc As (q_M D cl tys wc)) (q_W v D cl wc' (q_B wc)) 0 0 (q_B wc)) (cw : vx_CSW R s args own index y bytes maxL ret hh wsy rm 0 0 n)
    (hK : va_K D cl tys s) (hP : va_P D cl ws H) (hD : va_D A0 ws) (hS : va_S A0 H0 H locs) (isC : List Nat) (hCs : isC.map (fun i => ws[i]?) = wc.map some) (hnd : va_nd isC = true)
    (src : List (Bool × Nat)) (h' : src.map (fun q => if q.1 then wc'[q.2]? else ws[q.2]?) = ws'.map some) (hsn : src.all (fun q => q.1 || !(isC.contains q.2)) = true) (ha : ws'.map Prod.fst = ws.map Prod.fst)
    (hn : As.length = n) (hsize : ls.size = nL) (hst : st0 = As.reverse ++ rest)
    (hW : (rest.map fun v => v.category).sum ≤ 8) (hdg : decode cc pc = .ok (.invokestatic index, 3)) (hf : cells + 0 ≤ R.cells ∧ slots + 0 ≤ R.slots)
    (kk : ∀ (H1 : Heap) (locs1 : List Loc), va_P D cl ws' H1 → va_D A0 ws' → va_S A0 H0 H1 locs1 → W p l e R s m args below meth c H1 locs1 cells slots Q (F0 m (pc + 3) ls (v.toList ++ rest))) : W p l e R s m args below meth c H locs cells slots Q (F0 m pc ls st0) := by
  have hPc := q_Pcut hP isC hCs
  have hDc : va_D A0 wc := hD.sub isC hnd hCs
  exact q_wS0 (vx_runSW S hM cw ⟨q_Mb, fun U hU hW => ⟨rfl, by rw [hU]; exact hPc, va_K.moved hW.alike hK, q_Dall hDc⟩⟩ rfl hn hsize hst (lv_room (m := m) (pc := pc) (ls := ls) (rest := st0) hW) hdg hf) hP hD hS isC hCs src h' hsn ha kk
/-- a plain static one, that writes its world -/
theorem q_wS {v : Option Value} (S : CallFix p m c cc nL s args Ts own) (hM : Met l y wsy rm (va_Pc As (q_M D cl tys wc)) (q_W v D cl wc' (q_B wc)) 0 0 (q_B wc)) (cw : CallB R s args own index y bytes maxL ret wsy rm 0 0 n ∧ (Cond.static y).before args s = true)
    (hK : va_K D cl tys s) (hP : va_P D cl ws H) (hD : va_D A0 ws) (hS : va_S A0 H0 H locs) (isC : List Nat) (hCs : isC.map (fun i => ws[i]?) = wc.map some) (hnd : va_nd isC = true)
    (src : List (Bool × Nat)) (h' : src.map (fun q => if q.1 then wc'[q.2]? else ws[q.2]?) = ws'.map some) (hsn : src.all (fun q => q.1 || !(isC.contains q.2)) = true) (ha : ws'.map Prod.fst = ws.map Prod.fst)
    (hn : As.length = n) (hsize : ls.size = nL) (hst : st0 = As.reverse ++ rest)
    (hW : (rest.map fun v => v.category).sum ≤ 8) (hdg : decode cc pc = .ok (.invokestatic index, 3)) (hf : cells + 0 ≤ R.cells ∧ slots + 0 ≤ R.slots)
    (kk : ∀ (H1 : Heap) (locs1 : List Loc), va_P D cl ws' H1 → va_D A0 ws' → va_S A0 H0 H1 locs1 → W p l e R s m args below meth c H1 locs1 cells slots Q (F0 m (pc + 3) ls (v.toList ++ rest))) : W p l e R s m args below meth c H locs cells slots Q (F0 m pc ls st0) := by
  have hPc := q_Pcut hP isC hCs
  have hDc : va_D A0 wc := hD.sub isC hnd hCs
  exact q_wS0 (va_runS S hM cw ⟨q_Mb, fun U hU hW => ⟨rfl, by rw [hU]; exact hPc, va_K.moved hW.alike hK, q_Dall hDc⟩⟩ rfl hn hsize hst (lv_room (m := m) (pc := pc) (ls := ls) (rest := st0) hW) hdg hf) hP hD hS isC hCs src h' hsn ha kk
/-- the script's element by a natural place -/
theorem q_sld {xs : Nat → Int32} {L : Nat} (hexec : p.tables.exec = Jvm.exec) (hb : c.code = cc) (hX : va_X b L xs s H0) (hbl : b < H0.size) (hbA : ¬ A0 b) (hS : va_S A0 H0 H locs) (j : Nat) {i : Int32} (hi : i = nI j) (hj : j < L) (hL : L ≤ 3584) (hdg : decode cc pc = .ok (.iaload, 1))
    (kk : W p l e R s m args below meth c H locs cells slots Q (F0 m (pc + 1) ls (.int (xs j) :: rest))) : W p l e R s m args below meth c H locs cells slots Q (F0 m pc ls (.int i :: .ref b :: rest)) := by
  obtain ⟨e1, e2⟩ := q_ix hi hj (by omega)
  refine va_sld hexec hb hX hbl hbA hS e2 hdg ?_
  rw [e1]; exact kk
/-- a reader of the script alone -/
def q_CX (b L : Nat) (xs : Nat → Int32) : State → Prop := fun U => va_X b L xs U U.heap ∧ b < U.heap.size
theorem q_CXb {L : Nat} {xs : Nat → Int32} {av : List Value} : FrameBlind (va_Pc av (q_CX b L xs)) := fun a U g mk q => ⟨q.1, va_X.moved (u := U) (U := U.calling g mk a) (Vm.Alike.refl U.vm) q.2.1, q.2.2⟩
theorem q_cSX {r : Int32} {L : Nat} {xs : Nat → Int32} (S : CallFix p m c cc nL s args Ts own) (hM : Met l y wsy rm (va_Pc As (q_CX b L xs)) (QcRead r) 0 0 (fun _ => False)) (cw : CallB R s args own index y bytes maxL ret wsy rm 0 0 n ∧ (Cond.static y).before args s = true)
    (hX : va_X b L xs s H) (hbl : b < H.size) (hn : As.length = n) (hsize : ls.size = nL) (hst : st0 = As.reverse ++ rest)
    (hW : (rest.map fun v => v.category).sum ≤ 8) (hdg : decode cc pc = .ok (.invokestatic index, 3)) (hf : cells + 0 ≤ R.cells ∧ slots + 0 ≤ R.slots)
    (kk : W p l e R s m args below meth c H locs cells slots Q (F0 m (pc + 3) ls (.int r :: rest))) : W p l e R s m args below meth c H locs cells slots Q (F0 m pc ls st0) := by
  exact W.callR (W.runS (rest := rest) S hM cw ⟨q_CXb, fun U hU hW => ⟨rfl, by rw [hU]; exact va_X.moved hW.alike hX, by rw [hU]; exact hbl⟩⟩ rfl hn hsize hst (lv_room hW) hdg hf) kk
end QLW
