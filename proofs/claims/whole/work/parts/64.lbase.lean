/-! The law's loop: what holds at its head, and rows for its calls. -/
theorem z_lc {x y : Int64} (h : x = y) : lg_cmp x y = 0 := by subst h; simp [lg_cmp]
def q_XKL (s : State) : Prop := (∀ w ∈ q_xw, w.before #[] s = true) ∧ vx_Zq Bundle.tN "UNASSIGNED_STACK" Bundle.steD (fun q : Nat => s.heap.size ≤ q) s s.heap ∧ vx_Zq Bundle.tN "SUPPRESSED_SENTINEL" Bundle.listD (fun q : Nat => s.heap.size ≤ q) s s.heap ∧ ∀ q ∈ q_strs, ∃ a : Nat, vk_R RX2 q.1 q.2 a s
theorem q_XKL.at {s : State} {H : Heap} {locs : List Loc} (h : q_XKL s) (hS : va_S (fun q : Nat => s.heap.size ≤ q) s.heap H locs) : q_XKH s H := ⟨h.1, (h.2.1.kept hS.2.1).narrow (fun _ q => q.elim), (h.2.2.1.kept hS.2.1).narrow (fun _ q => q.elim), h.2.2.2⟩
section QLW
variable {p : Program} {l : Launch} {e : Env} {R : Room} {s : State} {m : MethodId} {args : Array Value} {below : List Frame} {meth : Method} {c : Code} {H : Heap} {locs : List Loc} {cells slots : Nat} {Q : State → Prop}
variable {pc : Nat} {ls : Array Slot} {rest st0 : List Value}
variable {y : MethodName} {bytes cc : ByteArray} {maxL nL n index : Nat} {ret : Option FieldType} {wsy : List Cond} {rm : Room} {Ts : List Cond} {own C : String} {b : Addr} {As : List Value} {hh : List (Nat × Nat × Nat × Nat)}
variable {D : va_G} {cl : List vw_C} {tys : List (ClassId × FieldType)} {ws wc wc' ws' : va_W} {A A0 : Nat → Prop} {H0 : Heap}
theorem q_wSW {r : Int32} (S : CallFix p m c cc nL s args Ts own) (hM : Met l y wsy rm (va_Pc As (q_ML D cl tys wc)) (q_W (some (.int r)) D cl wc' (q_B wc)) 1 6 (q_B wc)) (cw : vx_CSW R s args own index y bytes maxL ret hh wsy rm 1 6 n)
    (hK : va_K D cl tys s) (hX : q_XKH s H) (hN : q_NC s) (hP : va_P D cl ws H) (hD : va_D A0 ws) (hS : va_S A0 H0 H locs) (isC : List Nat) (hCs : isC.map (fun i => ws[i]?) = wc.map some) (hnd : va_nd isC = true)
    (src : List (Bool × Nat)) (h' : src.map (fun q => if q.1 then wc'[q.2]? else ws[q.2]?) = ws'.map some) (hsn : src.all (fun q => q.1 || !(isC.contains q.2)) = true) (ha : ws'.map Prod.fst = ws.map Prod.fst)
    (hn : As.length = n) (hsize : ls.size = nL) (hst : st0 = As.reverse ++ rest)
    (hW : (rest.map fun v => v.category).sum ≤ 8) (hdg : decode cc pc = .ok (.invokestatic index, 3)) (hf : cells + 1 ≤ R.cells ∧ slots + 6 ≤ R.slots)
    (kk : ∀ (H1 : Heap) (locs1 : List Loc), va_P D cl ws' H1 → va_D A0 ws' → va_S A0 H0 H1 locs1 → W p l e R s m args below meth c H1 locs1 (cells + 1) (slots + 6) Q (F0 m (pc + 3) ls (.int r :: rest))) : W p l e R s m args below meth c H locs cells slots Q (F0 m pc ls st0) := by
  have hPc : va_P D cl wc H := by
    intro k z hz
    have h1 : (isC.map (fun i => ws[i]?))[k]? = some (some z) := by rw [hCs, List.getElem?_map, hz]; rfl
    rw [List.getElem?_map] at h1
    cases hi : isC[k]? with
    | none => rw [hi] at h1; cases h1
    | some i => rw [hi] at h1; exact hP i z (Option.some.inj h1)
  have hDc : va_D A0 wc := hD.sub isC hnd hCs
  have hin := q_Bin hD isC hCs
  have hr : va_Run p l e R s m args below meth c H locs cells slots 1 6 (F0 m pc ls st0) rest (q_W (some (.int r)) D cl wc' (q_B wc) As.toArray) (q_B wc) := vx_runSW S hM cw ⟨q_MLb, fun U hU hW => ⟨rfl, ⟨by rw [hU]; exact hPc, va_K.moved hW.alike hK, q_Dall hDc⟩, hX.at hU hW, q_NC.moved hW.alike hN⟩⟩ rfl hn hsize hst (lv_room (m := m) (pc := pc) (ls := ls) (rest := st0) hW) hdg hf
  intro T hT X
  obtain ⟨v', st₀, t, T', L, h0, X', hL, e1, e2, ⟨hv, hP1, hF⟩, st⟩ := hr T hT X
  cases hv
  obtain ⟨k1, k2, k3⟩ := vx_keep h0 e1 hS (fun q _ hq => hin q hq) hin hL hF
  rw [← e1] at hP1
  obtain ⟨j1, j2⟩ := q_join hP hD isC hCs src h' hsn ha (fun _ h => h) k2 hP1
  obtain ⟨t2, a1, b1⟩ := kk T'.heap (locs ++ L) j1 j2 k3 T' rfl X'
  exact ⟨t2, st t2 a1, b1⟩
theorem q_sld {xs : Nat → Int32} {L : Nat} (hexec : p.tables.exec = Jvm.exec) (hb : c.code = cc) (hX : va_X b L xs s H0) (hbl : b < H0.size) (hbA : ¬ A0 b) (hS : va_S A0 H0 H locs) (j : Nat) {i : Int32} (hi : i = nI j) (hj : j < L) (hL : L ≤ 3584) (hdg : decode cc pc = .ok (.iaload, 1))
    (kk : W p l e R s m args below meth c H locs cells slots Q (F0 m (pc + 1) ls (.int (xs j) :: rest))) : W p l e R s m args below meth c H locs cells slots Q (F0 m pc ls (.int i :: .ref b :: rest)) := by
  obtain ⟨e1, e2⟩ := q_ix hi hj (by omega)
  refine va_sld hexec hb hX hbl hbA hS e2 hdg ?_
  rw [e1]; exact kk
end QLW
/-- what holds of the shared state behind k calls -/
def z_J (k : Nat) (lo up tp ca : Int32) (fW : Nat → Int32) (n : Nat) (fP fA fT fO fE fN : Nat → Int32) : Prop :=
  (lo.toInt < up.toInt ∧ up = nI (z_n up) ∧ z_n up ≤ 1001 ∧ ∀ j, j ≤ 1001 → fW j = z_w lo up tp j) ∧
  (n ≤ 12 ∧ ∀ k, k < n → fO k = nI (z_n (fO k)) ∧ z_n (fO k) < n ∧ z_rk fE (z_n (fO k)) n = k) ∧
  (∀ j, j < n → (fP j = nI (z_n (fP j)) ∧ z_n (fP j) < 5) ∧ (fT j = nI (z_n (fT j)) ∧ z_n (fT j) ≤ 4) ∧ (∃ a, a ≤ 300 ∧ fA j = nI a) ∧ ∃ x, x ≤ 1000 ∧ fE j = nI x) ∧
  (∀ c, ∃ x, fN c = nI x ∧ x + 300000 * n ≤ 300000 * k) ∧
  ∃ v, v ≤ 200 ∧ ca = nI v
section ZJ
variable {k : Nat} {lo up tp ca : Int32} {fW : Nat → Int32} {n : Nat} {fP fA fT fO fE fN : Nat → Int32}
theorem z_Jmono (h : z_J k lo up tp ca fW n fP fA fT fO fE fN) : z_J (k + 1) lo up tp ca fW n fP fA fT fO fE fN := by
  obtain ⟨h1, h2, h3, h4, h5⟩ := h
  refine ⟨h1, h2, h3, fun c => ?_, h5⟩
  obtain ⟨x, e, hx⟩ := h4 c
  exact ⟨x, e, by omega⟩
theorem z_Jall (h : z_J k lo up tp ca fW n fP fA fT fO fE fN) :
    fW 0 = 0 ∧ n ≤ 12 ∧ (∀ k, k < n → fO k = nI (z_n (fO k)) ∧ z_n (fO k) < 12) ∧ z_Or fE n (fun k => z_n (fO k)) ∧
    (∀ k, k < n → fP (z_n (fO k)) = nI (z_n (fP (z_n (fO k)))) ∧ z_n (fP (z_n (fO k))) < 5 ∧ fT (z_n (fO k)) = nI (z_n (fT (z_n (fO k)))) ∧ z_n (fT (z_n (fO k))) ≤ 4) ∧
    (∀ k, k < n → fP k = nI (z_n (fP k)) ∧ z_n (fP k) < 5 ∧ fT k = nI (z_n (fT k)) ∧ z_n (fT k) ≤ 4) ∧
    up = nI (z_n up) ∧ z_n up ≤ 1001 ∧ lo.toInt < up.toInt ∧ (∀ j, j ≤ 1001 → fW j = z_w lo up tp j) ∧ (∀ j, j < n → 0 ≤ (fE j).toInt) ∧ ∀ (fI : Nat → Int32) (i : Nat), i < n → ¬ z_kl fI fE n i = -1 := by
  obtain ⟨⟨a1, a2, a3, a4⟩, ⟨b1, b2⟩, h3, h4, h5⟩ := h
  have hor : z_Or fE n (fun k => z_n (fO k)) := fun k hk => ⟨(b2 k hk).2.1, (b2 k hk).2.2⟩
  refine ⟨a4 0 (by omega), b1, fun k hk => ⟨(b2 k hk).1, by have := (b2 k hk).2.1; omega⟩, hor, fun k hk => ?_, fun k hk => ?_, a2, a3, a1, a4, fun j hj => ?_, fun fI i hi => z_klne hor b1 i hi⟩
  · obtain ⟨⟨c1, c2⟩, ⟨c3, c4⟩, -⟩ := h3 _ (b2 k hk).2.1
    exact ⟨c1, c2, c3, c4⟩
  · obtain ⟨⟨c1, c2⟩, ⟨c3, c4⟩, -⟩ := h3 _ hk
    exact ⟨c1, c2, c3, c4⟩
  · obtain ⟨-, -, -, x, hx, e⟩ := h3 j hj
    rw [e, nI_toInt (by omega)]; omega
theorem z_Jpen (h : z_J k lo up tp ca fW n fP fA fT fO fE fN) (hk : k ≤ 512) (lk ra : Int32) (c : Nat) : z_pc lk ra (fN c) ca = (z_pp lk ra (fN c) ca).toInt32 ∧ (z_pc lk ra (fN c) ca).toInt64 = z_pp lk ra (fN c) ca := by
  obtain ⟨-, -, -, h4, v, hv, e⟩ := h
  obtain ⟨x, e2, hx⟩ := h4 c
  obtain ⟨w, hw, e3⟩ := z_pmin e2 (by omega) e hv
  exact z_pcpp hw e3
theorem z_Jdem (h : z_J k lo up tp ca fW n fP fA fT fO fE fN) {l2 u2 t2 : Int32} (h2 : (z_in l2 0 1000 && z_in u2 (l2 + 1) 1001 && z_in t2 1 1000) = true) : z_J (k + 1) l2 u2 t2 ca (z_wa l2 u2 t2 fW 1001) n fP fA fT fO fE fN := by
  have h0 := (z_Jall h).1
  obtain ⟨h1, h2', h3, h4, h5⟩ := z_Jmono h
  simp only [Bool.and_eq_true] at h2
  obtain ⟨⟨g1, g2⟩, -⟩ := h2
  obtain ⟨e1, e2, e3⟩ := z_of g1
  rw [show (1000 : Int32).toInt = 1000 by decide] at e2
  obtain ⟨g3, g4⟩ := z_in_iff.mp g2
  rw [e1, nI_1, z_le, nI_toInt (by omega)] at g3
  rw [z_le, show (1001 : Int32).toInt = 1001 by decide] at g4
  obtain ⟨u, hu, rfl⟩ := nI_of (x := u2) (by rw [z_lt, show (0 : Int32).toInt = 0 by decide]; omega)
  rw [nI_toInt hu] at g3 g4
  refine ⟨⟨by rw [nI_toInt hu]; omega, by rw [z_nI hu], by rw [z_nI hu]; omega, fun j hj => z_wae h0 j hj⟩, h2', h3, h4, h5⟩
theorem z_Jpe2 (h : z_J k lo up tp ca fW n fP fA fT fO fE fN) {k0 : Int32} (h2 : z_in k0 0 200 = true) : z_J (k + 1) lo up tp k0 fW n fP fA fT fO fE fN := by
  obtain ⟨h1, h2', h3, h4, h5⟩ := z_Jmono h
  obtain ⟨e1, e2, e3⟩ := z_of h2
  rw [show (200 : Int32).toInt = 200 by decide] at e2
  exact ⟨h1, h2', h3, h4, z_n k0, by omega, e1⟩
theorem z_Jrun (h : z_J k lo up tp ca fW n fP fA fT fO fE fN) (y : Nat) (pr : Int32) (t : Nat) (ht : t ≤ n) (hpr : ∃ x, x ≤ 1000 ∧ pr = nI x) : z_J (k + 1) lo up tp ca fW 0 fP fA fT fO fE (z_rN fN fA fP fT (fun k => z_n (fO k)) y pr t) := by
  obtain ⟨-, -, -, hor, -⟩ := z_Jall h
  obtain ⟨h1, ⟨b1, b2⟩, h3, h4, h5⟩ := h
  refine ⟨h1, ⟨by omega, fun k hk => absurd hk (Nat.not_lt_zero k)⟩, fun j hj => absurd hj (Nat.not_lt_zero j), fun c => ?_, h5⟩
  obtain ⟨x, e, hx⟩ := h4 c
  obtain ⟨x', e', hx'⟩ := z_rNle (A := fA) (T := fT) (P := fP) (y := y) hor fN pr (m := 0) hpr (fun j hj => (h3 j hj).2.2.1) c e t ht
  exact ⟨x', e', by omega⟩
theorem z_Jpr (h : z_J k lo up tp ca fW n fP fA fT fO fE fN) (t : Nat) (ht : t ≤ n) : ∃ x, x ≤ 1000 ∧ z_po fE (fun k => z_n (fO k)) t = nI x := by
  obtain ⟨h1, ⟨b1, b2⟩, h3, h4, h5⟩ := h
  cases t with
  | zero => exact ⟨0, by omega, rfl⟩
  | succ t => exact (h3 _ (b2 t (by omega)).2.1).2.2.2
theorem z_Joff (h : z_J k lo up tp ca fW n fP fA fT fO fE fN) (hn : n < 12) {p0 c0 d0 e0 t0 : Int32} (hp : z_in p0 0 4 = true) (hc : z_in c0 1 300 = true) (hd : z_in d0 0 100 = true) (he : z_in e0 0 1000 = true) (ht : z_in t0 1 4 = true) :
    z_J (k + 1) lo up tp ca fW (n + 1) (upd fP n p0) (upd fA n (c0 * d0 / 100)) (upd fT n t0) (z_ord fO n (z_pl fE e0 (fun k => z_n (fO k)) n)) (upd fE n e0) fN := by
  obtain ⟨-, -, -, hor, -⟩ := z_Jall h
  obtain ⟨h1, ⟨b1, b2⟩, h3, h4, h5⟩ := h
  have hin : ∀ {x a : Int32} {bn : Nat} (b : Int32), b = nI bn → bn < 2 ^ 31 → 0 ≤ a.toInt → z_in x a b = true → x = nI (z_n x) ∧ z_n x ≤ bn := by
    intro x a bn b hb hbn ha h9
    obtain ⟨g1, g2⟩ := z_in_iff.mp h9
    have g3 : z_in x 0 b = true := z_in_t (by rw [z_le] at *; rw [show (0 : Int32).toInt = 0 by decide]; omega) g2
    obtain ⟨e1, e2, e3⟩ := z_of g3
    rw [hb, nI_toInt hbn] at e2
    exact ⟨e1, by omega⟩
  refine ⟨h1, ⟨by omega, z_ins hor hn (fun k hk => (b2 k hk).1)⟩, fun j hj => ?_, fun c => ?_, h5⟩
  · by_cases q : j = n
    · subst q
      have u1 : ∀ (f : Nat → Int32) (v : Int32), upd f j v j = v := fun f v => by unfold upd; rw [if_pos rfl]
      rw [u1, u1, u1, u1]
      obtain ⟨p1, p2⟩ := z_P hp
      obtain ⟨t1, t2⟩ := hin (bn := 4) 4 rfl (by omega) (by decide) ht
      obtain ⟨c1, c2⟩ := hin (bn := 300) 300 rfl (by omega) (by decide) hc
      obtain ⟨d1, d2⟩ := hin (bn := 100) 100 rfl (by omega) (by decide) hd
      obtain ⟨e1, e2⟩ := hin (bn := 1000) 1000 rfl (by omega) (by decide) he
      refine ⟨⟨p1, p2⟩, ⟨t1, t2⟩, ⟨z_n c0 * z_n d0 / 100, ?_, ?_⟩, z_n e0, e2, e1⟩
      · have := Nat.mul_le_mul c2 d2
        omega
      · have hm := Nat.mul_le_mul c2 d2
        rw [c1, d1, pk_mul, show (100 : Int32) = nI 100 from rfl, pk_div (by omega) (by omega) (by omega), z_nI (by omega), z_nI (by omega)]
    · have u2 : ∀ (f : Nat → Int32) (v : Int32), upd f n v j = f j := fun f v => by unfold upd; rw [if_neg q]
      rw [u2, u2, u2, u2]
      exact h3 j (by omega)
  · obtain ⟨x, e, hx⟩ := h4 c
    exact ⟨x, e, by omega⟩
theorem z_sdeq (l2 u2 t2 : Int32) : (z_in l2 0 1000 && z_in u2 (l2 + 1) 1001 && z_in t2 1 1000) = (z_in l2 0 1000 && decide (l2 < u2) && decide (u2 ≤ 1001) && z_in t2 1 1000) := by
  cases hz : z_in l2 0 1000 with
  | false => rfl
  | true =>
    obtain ⟨e1, e2, e3⟩ := z_of hz
    rw [show (1000 : Int32).toInt = 1000 by decide] at e2
    have h4 : decide (l2 + 1 ≤ u2) = decide (l2 < u2) := by
      refine decide_eq_decide.mpr ?_
      rw [e1, nI_1, z_le, z_lt, nI_toInt (by omega), nI_toInt (by omega)]
      omega
    unfold z_in
    rw [h4]; rfl
end ZJ
