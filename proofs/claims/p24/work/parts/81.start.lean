/-! The law's start. -/
set_option maxRecDepth 20000 in
theorem q_xwin : ∀ w ∈ q_xw, w ∈ lw_tbl := by decide +kernel
set_option maxRecDepth 20000 in
theorem q_strin : ∀ q ∈ q_strs, Cond.stringRef RX2 q.1 q.2 ∈ lw_tbl := by decide +kernel
set_option maxRecDepth 20000 in
theorem q_strex : ∀ q ∈ q_strs, Cond.exactly (.string RX2 q.1) "java/lang/String" ∈ flatC (.and given_1 narrow_1) := by decide +kernel
set_option maxRecDepth 20000 in
theorem q_zl1 : Cond.laysStatic Bundle.tN "UNASSIGNED_STACK" Bundle.steD ∈ lw_tbl := by decide +kernel
set_option maxRecDepth 20000 in
theorem q_zl2 : Cond.laysStatic Bundle.tN "SUPPRESSED_SENTINEL" Bundle.listD ∈ lw_tbl := by decide +kernel
set_option maxRecDepth 20000 in
theorem q_zi : Cond.initialized Bundle.tN ∈ lw_tbl := by decide +kernel
set_option maxRecDepth 20000 in
theorem q_zr1 : Cond.isRef (.static Bundle.tN "UNASSIGNED_STACK" Bundle.steD) ∈ flatC (.and given_1 narrow_1) := by decide +kernel
set_option maxRecDepth 20000 in
theorem q_zr2 : Cond.isRef (.static Bundle.tN "SUPPRESSED_SENTINEL" Bundle.listD) ∈ flatC (.and given_1 narrow_1) := by decide +kernel
set_option maxRecDepth 20000 in
theorem q_nc1 : Cond.not (.castable q_IA q_IO) ∈ flatC (.and given_1 narrow_1) := by decide +kernel
set_option maxRecDepth 20000 in
theorem q_nc2 : Cond.not (.castable q_IS q_IO) ∈ flatC (.and given_1 narrow_1) := by decide +kernel
set_option maxRecDepth 20000 in
theorem q_nc3 : Cond.not (.castable q_IS q_IA) ∈ flatC (.and given_1 narrow_1) := by decide +kernel
set_option maxRecDepth 20000 in
theorem q_acI : Cond.arrayClass .int ∈ lw_tbl := by decide +kernel
set_option maxRecDepth 20000 in
theorem q_acZ : Cond.arrayClass .boolean ∈ lw_tbl := by decide +kernel
set_option maxRecDepth 20000 in
theorem q_in0 : Cond.instantiable RX0 4 ∈ lw_tbl := by decide +kernel
set_option maxRecDepth 20000 in
theorem q_in1 : Cond.instantiable RX1 7 ∈ lw_tbl := by decide +kernel
set_option maxRecDepth 20000 in
theorem q_in2 : Cond.instantiable RX2 10 ∈ lw_tbl := by decide +kernel
set_option maxRecDepth 20000 in
theorem q_ps0 : z_ps (fun _ => 0) (fun _ => 0) (fun _ => 0) (fun _ => 0) 20 50 5 = 0 := by decide +kernel
theorem q_K0 : z_K 0 20 50 (z_wa 100 200 50 (fun _ => 0) 1001) 0 (fun _ => 0) (fun _ => 0) (fun _ => 0) (fun _ => 0) (fun _ => 0) (fun _ => 0) (fun _ => 0) (fun _ => 0) (fun _ => 0) := by
  have e : (0 : Int32) = nI (z_n 0) := by decide
  have e2 : z_n 0 = 0 := by decide
  refine ⟨by unfold z_wa; rw [if_pos (Or.inl rfl)], ⟨by omega, fun j hj => absurd hj (Nat.not_lt_zero j)⟩, fun j => ⟨⟨e, ?_⟩, ⟨e, ?_⟩, ⟨e, ?_⟩, e, ?_⟩, fun j hj => absurd hj (Nat.not_lt_zero j), fun c => ⟨e, ?_⟩, fun c => ⟨e, ?_⟩, fun y h hy hh => ⟨fun p hp => e, ?_⟩, fun c => ?_, ⟨50, by omega, rfl⟩, by decide⟩
  · show z_n 0 < 5; rw [e2]; omega
  · show z_n 0 ≤ 4; rw [e2]; omega
  · show z_n 0 ≤ 120; rw [e2]; omega
  · show z_n 0 ≤ 69; rw [e2]; omega
  · show z_n 0 + 120 * 0 ≤ 120 * 0; rw [e2]; omega
  · show z_n 0 + 8280 * 0 ≤ 8280 * 0; rw [e2]; omega
  · show z_s5 (fun _ => z_n 0) = z_n 0; rw [e2]; rfl
  · show ¬ (0 : Int32) < 0; decide
set_option maxHeartbeats 4000000 in
set_option maxRecDepth 100000 in
theorem whole_start {p : Program} {e : Env} {s : State} {m : MethodId} {below : List Frame} {meth : Method} {c : Code} (l : Launch) (hflags : l.flags = flags0) {b L : Nat} {xs : Nat → Int32} (hL : L ≤ 260) (C0 : lw_At p s m meth c b L xs) : W p l e room_1 s m #[Value.ref b] below meth c s.heap [] 0 0 (lw_Z below #[Value.ref b] s) (entryFrame m ([Value.ref b] : List Value).toArray 19) := by
  obtain ⟨hx, hb, hr, hml, hown, hts0, hX, hbl, hlocks, hgv⟩ := C0
  have hfl : l.stackTraces = false := by unfold Launch.stackTraces; rw [hflags]; decide
  have hg := flat_of_before _ hgv
  have hts : ∀ w ∈ wsL_law, w.before #[Value.ref b] s = true := fun w h => hts0 w (wsL_law_in w h)
  have hA : ∀ q : Nat, s.heap.size ≤ q → (fun q : Nat => s.heap.size ≤ q) q := fun _ h => h
  have hnA : ∀ a : Nat, a < s.heap.size → ¬ (fun q : Nat => s.heap.size ≤ q) a := fun a h h9 => absurd h (Nat.not_lt.mpr h9)
  have hXL : q_XKL s := by
    refine ⟨fun w hw => vx_ot_at (State.WarmedH.refl s) rfl (q_xwot w hw) (hts0 w (q_xwin w hw)), vx_Zqof (hts0 _ q_zl1) (hts0 _ q_zi) (hg _ q_zr1) hnA, vx_Zqof (hts0 _ q_zl2) (hts0 _ q_zi) (hg _ q_zr2) hnA, fun q hq => ?_⟩
    obtain ⟨a, _, _, _, h1, -⟩ := Cond.exactly_spec (hg _ (q_strex q hq))
    exact ⟨a, vk_R.of (A := #[Value.ref b]) (hts0 _ (q_strin q hq)) h1⟩
  have hNC : q_NC s := ⟨va_Nc.of (hg _ q_nc1), va_Nc.of (hg _ q_nc2), va_Nc.of (hg _ q_nc3)⟩
  obtain ⟨c0, i0, hk0⟩ := u_known (C := RX0) (T := TX0) (N := 4) (n := 4) hts inlX0 (hts0 _ q_in0)
  obtain ⟨c1, i1, hk1⟩ := u_known (C := RX1) (T := TX1) (N := 7) (n := 7) hts inlX1 (hts0 _ q_in1)
  obtain ⟨c2, i2, hk2⟩ := u_known (C := RX2) (T := TX2) (N := 10) (n := 10) hts inlX2 (hts0 _ q_in2)
  obtain ⟨dC, dI, hKc⟩ : ∃ (dC : Nat → ClassId) (dI : Nat → Nat → Nat), ∀ (k : Nat) (q : vw_C), vwCl[k]? = some q → u_Kn s q.1 q.2.1 q.2.2 (dC k) (dI k) := by
    refine ⟨fun k => if k = 0 then c0 else if k = 1 then c1 else c2, fun k => if k = 0 then i0 else if k = 1 then i1 else i2, ?_⟩
    intro k q hq
    match k, hq with
    | 0, hq => cases hq; exact hk0
    | 1, hq => cases hq; exact hk1
    | 2, hq => cases hq; exact hk2
    | k + 3, hq => simp [vwCl] at hq
  obtain ⟨cI, rcI⟩ := q_arr (args := #[Value.ref b]) (ty := .int) (fun C h => nomatch h) (hts0 _ q_acI)
  obtain ⟨cZ, rcZ⟩ := q_arr (args := #[Value.ref b]) (ty := .boolean) (fun C h => nomatch h) (hts0 _ q_acZ)
  obtain ⟨cJ, -⟩ : ∃ c : ClassId, c = cI := ⟨_, rfl⟩
  have hK : va_K (dC, dI) vwCl (q_T cI cZ cJ) s := by
    refine ⟨hKc, fun k q h => ?_⟩
    match k, h with
    | 0, h => cases h; exact rcI
    | 1, h => cases h; exact rcZ
    | k + 2, h => simp [q_T] at h
  have hS : va_S (fun q : Nat => s.heap.size ≤ q) s.heap s.heap [] := va_S.rf
  have hP : va_P (dC, dI) vwCl [] s.heap := fun k q h => by simp at h
  have hD : va_D (fun q : Nat => s.heap.size ≤ q) [] := ⟨fun i j p q h => by simp at h, fun k q h => by simp at h⟩
  have hl := lv_entry ([.ref b]) (n := 19) (Nat.le_of_ble_eq_true rfl)
  rw [lg_entry_eq]
  generalize (lg_sl ([.ref b]) ++ List.replicate (19 - (lg_sl ([.ref b])).length) Slot.unset).toArray = ls at hl ⊢
  have hl : lv_has ls 19 [(0, .ref b)] := hl
  refine va_new (ci := 2) (fs := [.null, .null, .null, .null, .null, .null, .null, .int 0, .int 0, .int 0]) (C := RX2) (T := TX2) (N := 10) hx hb hts inlX2 tyX2 tyX2_ok hown (hts (.classLink RL 10 RX2) (by decide +kernel)) (hts (.instantiable RX2 10) (by decide +kernel)) (hts (.initialized RX2) (by decide +kernel)) hK hP hD hS hA rfl (fun j hj => by rcases (show j = 0 ∨ j = 1 ∨ j = 2 ∨ j = 3 ∨ j = 4 ∨ j = 5 ∨ j = 6 ∨ j = 7 ∨ j = 8 ∨ j = 9 by omega) with rfl | rfl | rfl | rfl | rfl | rfl | rfl | rfl | rfl | rfl <;> rfl) (Nat.le_of_ble_eq_true rfl) (Nat.le_of_ble_eq_true rfl) dL_law_0 (fun ax H hP hD hS => ?_)
  have hP : va_P (dC, dI) vwCl [(ax, .inr (2, [.null, .null, .null, .null, .null, .null, .null, .int 0, .int 0, .int 0]))] H := hP
  have hD : va_D (fun q : Nat => s.heap.size ≤ q) [(ax, .inr (2, [.null, .null, .null, .null, .null, .null, .null, .int 0, .int 0, .int 0]))] := hD
  refine W.widen (k := 1) (n := 10) (Nat.le_of_ble_eq_true rfl) (Nat.le_of_ble_eq_true rfl) ?_
  refine lv_dup hx hb dL_law_3 rfl ?_
  have hPc := hP.sub (ws' := [(ax, .inr (2, [.null, .null, .null, .null, .null, .null, .null, .int 0, .int 0, .int 0]))]) [0] rfl
  have hDc := hD.sub (ws' := [(ax, .inr (2, [.null, .null, .null, .null, .null, .null, .null, .int 0, .int 0, .int 0]))]) [0] (by decide) rfl
  have hFc := va_free (wc := [(ax, .inr (2, [.null, .null, .null, .null, .null, .null, .null, .int 0, .int 0, .int 0]))]) hD hS hA [0] rfl
  refine va_callv (va_runI (As := []) (rest := [.ref ax]) ⟨hx, hb, hml, hown, hts⟩ (c_X2_init l dC dI cI cZ cJ ax H.size) (cwI 0 hts gL_law_X2_init rfl rfl rfl (hts (.initialized RX2) (by decide +kernel)) (hts (.methodLink RL 103 yX2_init) (by decide +kernel)) (hts (.instanceMethod yX2_init) (by decide +kernel)) rfl (by decide +kernel) ⟨Nat.le_of_ble_eq_true rfl, Nat.le_of_ble_eq_true rfl⟩) ⟨q_Ib, fun U hU hW => ⟨rfl, by rw [hU], by rw [hU]; exact hPc, va_K.moved hW.alike hK, q_Dall hDc⟩⟩ rfl rfl hl.1 rfl (lv_room (Nat.le_of_ble_eq_true rfl)) dL_law_4 ⟨Nat.le_of_ble_eq_true rfl, Nat.le_of_ble_eq_true rfl⟩) hS (fun q _ h => hFc q h) hFc (fun u9 t9 H1 locs ht9 hvm9 hw9 hB9 hz1 hk1 hS => ?_)
  obtain ⟨ad, aw, aq, aP, aA, aT, aO, aE, aI, aB, aN, aY, aU, aS, hP1, hD1⟩ := hB9
  rw [ht9] at hP1
  obtain ⟨hP, hD⟩ := va_join (wr := []) (w1 := [(ax, .inr (2, [.ref ad, .ref aq, .ref aB, .ref aN, .ref aY, .ref aU, .ref aS, .int 0, .int 20, .int 50])), (ad, .inr (0, [.ref aw, .int 100, .int 200, .int 50])), (aw, .inl (cI, 1002, .inl (z_wa 100 200 50 (fun _ => 0) 1001))), (aq, .inr (1, [.ref aP, .ref aA, .ref aT, .ref aO, .int 0, .ref aE, .ref aI])), (aP, .inl (cI, 12, .inl (fun _ => 0))), (aA, .inl (cI, 12, .inl (fun _ => 0))), (aT, .inl (cI, 12, .inl (fun _ => 0))), (aO, .inl (cI, 12, .inl (fun _ => 0))), (aE, .inl (cI, 12, .inl (fun _ => 0))), (aI, .inl (cZ, 12, .inl (fun _ => 0))), (aB, .inl (cI, 8, .inl (fun _ => 0))), (aN, .inl (cI, 40, .inl (fun _ => 0))), (aY, .inl (cI, 480, .inl (fun _ => 0))), (aU, .inl (cI, 480, .inl (fun _ => 0))), (aS, .inl (cZ, 96, .inl (fun _ => 0)))]) hP hD [0] [] rfl rfl (by decide) (by decide) hk1 hFc hP1 hD1
  generalize H1 = H at hP hS ⊢
  have hP : va_P (dC, dI) vwCl [(ax, .inr (2, [.ref ad, .ref aq, .ref aB, .ref aN, .ref aY, .ref aU, .ref aS, .int 0, .int 20, .int 50])), (ad, .inr (0, [.ref aw, .int 100, .int 200, .int 50])), (aw, .inl (cI, 1002, .inl (z_wa 100 200 50 (fun _ => 0) 1001))), (aq, .inr (1, [.ref aP, .ref aA, .ref aT, .ref aO, .int 0, .ref aE, .ref aI])), (aP, .inl (cI, 12, .inl (fun _ => 0))), (aA, .inl (cI, 12, .inl (fun _ => 0))), (aT, .inl (cI, 12, .inl (fun _ => 0))), (aO, .inl (cI, 12, .inl (fun _ => 0))), (aE, .inl (cI, 12, .inl (fun _ => 0))), (aI, .inl (cZ, 12, .inl (fun _ => 0))), (aB, .inl (cI, 8, .inl (fun _ => 0))), (aN, .inl (cI, 40, .inl (fun _ => 0))), (aY, .inl (cI, 480, .inl (fun _ => 0))), (aU, .inl (cI, 480, .inl (fun _ => 0))), (aS, .inl (cZ, 96, .inl (fun _ => 0)))] H := hP
  have hD : va_D (fun q : Nat => s.heap.size ≤ q) [(ax, .inr (2, [.ref ad, .ref aq, .ref aB, .ref aN, .ref aY, .ref aU, .ref aS, .int 0, .int 20, .int 50])), (ad, .inr (0, [.ref aw, .int 100, .int 200, .int 50])), (aw, .inl (cI, 1002, .inl (z_wa 100 200 50 (fun _ => 0) 1001))), (aq, .inr (1, [.ref aP, .ref aA, .ref aT, .ref aO, .int 0, .ref aE, .ref aI])), (aP, .inl (cI, 12, .inl (fun _ => 0))), (aA, .inl (cI, 12, .inl (fun _ => 0))), (aT, .inl (cI, 12, .inl (fun _ => 0))), (aO, .inl (cI, 12, .inl (fun _ => 0))), (aE, .inl (cI, 12, .inl (fun _ => 0))), (aI, .inl (cZ, 12, .inl (fun _ => 0))), (aB, .inl (cI, 8, .inl (fun _ => 0))), (aN, .inl (cI, 40, .inl (fun _ => 0))), (aY, .inl (cI, 480, .inl (fun _ => 0))), (aU, .inl (cI, 480, .inl (fun _ => 0))), (aS, .inl (cZ, 96, .inl (fun _ => 0)))] := hD
  refine W.widen (k := 15) (n := 2199) (Nat.le_of_ble_eq_true rfl) (Nat.le_of_ble_eq_true rfl) ?_
  refine lv_astore_n (lv' := [(1, .ref ax), (0, .ref b)]) hx hb dL_law_7 rfl hl (by decide) rfl (fun ls hl => ?_)
  refine lv_bipush (v := 12) hx hb dL_law_8 (by decide) ?_
  refine va_newa (atype := .int) (ty := .int) (N' := 12) (a0 := (12, .inl (fun _ => 0))) hx hb (hts (.arrayClass .int) (by decide +kernel)) rfl hK hP hD hS hA (fun _ => rfl) (by decide) (by decide) (Nat.le_of_ble_eq_true rfl) (Nat.le_of_ble_eq_true rfl) (Nat.le_of_ble_eq_true rfl) dL_law_10 (fun am cA H hK hP hD hS => ?_)
  rw [q_cAI hK] at hP hD
  have hK : va_K (dC, dI) vwCl (q_T cI cZ cJ) s := hK.sub [0, 1] rfl
  have hP : va_P (dC, dI) vwCl [(ax, .inr (2, [.ref ad, .ref aq, .ref aB, .ref aN, .ref aY, .ref aU, .ref aS, .int 0, .int 20, .int 50])), (ad, .inr (0, [.ref aw, .int 100, .int 200, .int 50])), (aw, .inl (cI, 1002, .inl (z_wa 100 200 50 (fun _ => 0) 1001))), (aq, .inr (1, [.ref aP, .ref aA, .ref aT, .ref aO, .int 0, .ref aE, .ref aI])), (aP, .inl (cI, 12, .inl (fun _ => 0))), (aA, .inl (cI, 12, .inl (fun _ => 0))), (aT, .inl (cI, 12, .inl (fun _ => 0))), (aO, .inl (cI, 12, .inl (fun _ => 0))), (aE, .inl (cI, 12, .inl (fun _ => 0))), (aI, .inl (cZ, 12, .inl (fun _ => 0))), (aB, .inl (cI, 8, .inl (fun _ => 0))), (aN, .inl (cI, 40, .inl (fun _ => 0))), (aY, .inl (cI, 480, .inl (fun _ => 0))), (aU, .inl (cI, 480, .inl (fun _ => 0))), (aS, .inl (cZ, 96, .inl (fun _ => 0))), (am, .inl (cI, 12, .inl (fun _ => 0)))] H := hP
  have hD : va_D (fun q : Nat => s.heap.size ≤ q) [(ax, .inr (2, [.ref ad, .ref aq, .ref aB, .ref aN, .ref aY, .ref aU, .ref aS, .int 0, .int 20, .int 50])), (ad, .inr (0, [.ref aw, .int 100, .int 200, .int 50])), (aw, .inl (cI, 1002, .inl (z_wa 100 200 50 (fun _ => 0) 1001))), (aq, .inr (1, [.ref aP, .ref aA, .ref aT, .ref aO, .int 0, .ref aE, .ref aI])), (aP, .inl (cI, 12, .inl (fun _ => 0))), (aA, .inl (cI, 12, .inl (fun _ => 0))), (aT, .inl (cI, 12, .inl (fun _ => 0))), (aO, .inl (cI, 12, .inl (fun _ => 0))), (aE, .inl (cI, 12, .inl (fun _ => 0))), (aI, .inl (cZ, 12, .inl (fun _ => 0))), (aB, .inl (cI, 8, .inl (fun _ => 0))), (aN, .inl (cI, 40, .inl (fun _ => 0))), (aY, .inl (cI, 480, .inl (fun _ => 0))), (aU, .inl (cI, 480, .inl (fun _ => 0))), (aS, .inl (cZ, 96, .inl (fun _ => 0))), (am, .inl (cI, 12, .inl (fun _ => 0)))] := hD
  refine W.widen (k := 16) (n := 2211) (Nat.le_of_ble_eq_true rfl) (Nat.le_of_ble_eq_true rfl) ?_
  refine lv_astore_n (lv' := [(2, .ref am), (1, .ref ax), (0, .ref b)]) hx hb dL_law_12 rfl hl (by decide) rfl (fun ls hl => ?_)
  refine lv_bipush (v := 12) hx hb dL_law_13 (by decide) ?_
  refine va_newa (atype := .int) (ty := .int) (N' := 12) (a0 := (12, .inl (fun _ => 0))) hx hb (hts (.arrayClass .int) (by decide +kernel)) rfl hK hP hD hS hA (fun _ => rfl) (by decide) (by decide) (Nat.le_of_ble_eq_true rfl) (Nat.le_of_ble_eq_true rfl) (Nat.le_of_ble_eq_true rfl) dL_law_15 (fun ae cA H hK hP hD hS => ?_)
  rw [q_cAI hK] at hP hD
  have hK : va_K (dC, dI) vwCl (q_T cI cZ cJ) s := hK.sub [0, 1] rfl
  have hP : va_P (dC, dI) vwCl [(ax, .inr (2, [.ref ad, .ref aq, .ref aB, .ref aN, .ref aY, .ref aU, .ref aS, .int 0, .int 20, .int 50])), (ad, .inr (0, [.ref aw, .int 100, .int 200, .int 50])), (aw, .inl (cI, 1002, .inl (z_wa 100 200 50 (fun _ => 0) 1001))), (aq, .inr (1, [.ref aP, .ref aA, .ref aT, .ref aO, .int 0, .ref aE, .ref aI])), (aP, .inl (cI, 12, .inl (fun _ => 0))), (aA, .inl (cI, 12, .inl (fun _ => 0))), (aT, .inl (cI, 12, .inl (fun _ => 0))), (aO, .inl (cI, 12, .inl (fun _ => 0))), (aE, .inl (cI, 12, .inl (fun _ => 0))), (aI, .inl (cZ, 12, .inl (fun _ => 0))), (aB, .inl (cI, 8, .inl (fun _ => 0))), (aN, .inl (cI, 40, .inl (fun _ => 0))), (aY, .inl (cI, 480, .inl (fun _ => 0))), (aU, .inl (cI, 480, .inl (fun _ => 0))), (aS, .inl (cZ, 96, .inl (fun _ => 0))), (am, .inl (cI, 12, .inl (fun _ => 0))), (ae, .inl (cI, 12, .inl (fun _ => 0)))] H := hP
  have hD : va_D (fun q : Nat => s.heap.size ≤ q) [(ax, .inr (2, [.ref ad, .ref aq, .ref aB, .ref aN, .ref aY, .ref aU, .ref aS, .int 0, .int 20, .int 50])), (ad, .inr (0, [.ref aw, .int 100, .int 200, .int 50])), (aw, .inl (cI, 1002, .inl (z_wa 100 200 50 (fun _ => 0) 1001))), (aq, .inr (1, [.ref aP, .ref aA, .ref aT, .ref aO, .int 0, .ref aE, .ref aI])), (aP, .inl (cI, 12, .inl (fun _ => 0))), (aA, .inl (cI, 12, .inl (fun _ => 0))), (aT, .inl (cI, 12, .inl (fun _ => 0))), (aO, .inl (cI, 12, .inl (fun _ => 0))), (aE, .inl (cI, 12, .inl (fun _ => 0))), (aI, .inl (cZ, 12, .inl (fun _ => 0))), (aB, .inl (cI, 8, .inl (fun _ => 0))), (aN, .inl (cI, 40, .inl (fun _ => 0))), (aY, .inl (cI, 480, .inl (fun _ => 0))), (aU, .inl (cI, 480, .inl (fun _ => 0))), (aS, .inl (cZ, 96, .inl (fun _ => 0))), (am, .inl (cI, 12, .inl (fun _ => 0))), (ae, .inl (cI, 12, .inl (fun _ => 0)))] := hD
  refine W.widen (k := 17) (n := 2223) (Nat.le_of_ble_eq_true rfl) (Nat.le_of_ble_eq_true rfl) ?_
  refine lv_astore_n (lv' := [(3, .ref ae), (2, .ref am), (1, .ref ax), (0, .ref b)]) hx hb dL_law_17 rfl hl (by decide) rfl (fun ls hl => ?_)
  refine lv_aload_n hx hb dL_law_18 rfl (lv_at hl 2 rfl) ?_
  refine q_rV (wc := [(ax, .inr (2, [.ref ad, .ref aq, .ref aB, .ref aN, .ref aY, .ref aU, .ref aS, .int 0, .int 20, .int 50])), (ad, .inr (0, [.ref aw, .int 100, .int 200, .int 50])), (aw, .inl (cI, 1002, .inl (z_wa 100 200 50 (fun _ => 0) 1001))), (aq, .inr (1, [.ref aP, .ref aA, .ref aT, .ref aO, .int 0, .ref aE, .ref aI])), (aP, .inl (cI, 12, .inl (fun _ => 0))), (aA, .inl (cI, 12, .inl (fun _ => 0))), (aT, .inl (cI, 12, .inl (fun _ => 0))), (aO, .inl (cI, 12, .inl (fun _ => 0))), (aE, .inl (cI, 12, .inl (fun _ => 0))), (aI, .inl (cZ, 12, .inl (fun _ => 0))), (aB, .inl (cI, 8, .inl (fun _ => 0))), (aN, .inl (cI, 40, .inl (fun _ => 0))), (aY, .inl (cI, 480, .inl (fun _ => 0))), (aU, .inl (cI, 480, .inl (fun _ => 0))), (aS, .inl (cZ, 96, .inl (fun _ => 0)))]) (r := (nI 0)) (As := []) (rest := []) ⟨hx, hb, hml, hown, hts⟩ (c_X2_offers l dC dI cI cZ cJ ax aB aN aY aU aS 0 20 50 (fun _ => 0) (fun _ => 0) (fun _ => 0) (fun _ => 0) (fun _ => 0) ad aw 100 200 50 (z_wa 100 200 50 (fun _ => 0) 1001) aq aP aA aT aO aE aI 0 (fun _ => 0) (fun _ => 0) (fun _ => 0) (fun _ => 0) (fun _ => 0) (fun _ => 0)) (cwV 0 hts gL_law_X2_offers rfl rfl rfl (by decide +kernel) ⟨Nat.le_of_ble_eq_true rfl, Nat.le_of_ble_eq_true rfl⟩) hK (hP.sub [0, 1, 2, 3, 4, 5, 6, 7, 8, 9, 10, 11, 12, 13, 14] rfl) 2 0 rfl rfl rfl rfl hl.1 rfl (Nat.le_of_ble_eq_true rfl) dL_law_19 ⟨Nat.le_of_ble_eq_true rfl, Nat.le_of_ble_eq_true rfl⟩ ?_
  refine lv_if_ne (tgt := 45) hx hb dL_law_22 (by decide) (fun c_22 => ?_) (fun c_22 => ?_)
  · exact absurd rfl c_22
  · refine lv_aload_n hx hb dL_law_25 rfl (lv_at hl 2 rfl) ?_
    refine q_rV (wc := [(ax, .inr (2, [.ref ad, .ref aq, .ref aB, .ref aN, .ref aY, .ref aU, .ref aS, .int 0, .int 20, .int 50])), (ad, .inr (0, [.ref aw, .int 100, .int 200, .int 50])), (aw, .inl (cI, 1002, .inl (z_wa 100 200 50 (fun _ => 0) 1001))), (aq, .inr (1, [.ref aP, .ref aA, .ref aT, .ref aO, .int 0, .ref aE, .ref aI])), (aP, .inl (cI, 12, .inl (fun _ => 0))), (aA, .inl (cI, 12, .inl (fun _ => 0))), (aT, .inl (cI, 12, .inl (fun _ => 0))), (aO, .inl (cI, 12, .inl (fun _ => 0))), (aE, .inl (cI, 12, .inl (fun _ => 0))), (aI, .inl (cZ, 12, .inl (fun _ => 0))), (aB, .inl (cI, 8, .inl (fun _ => 0))), (aN, .inl (cI, 40, .inl (fun _ => 0))), (aY, .inl (cI, 480, .inl (fun _ => 0))), (aU, .inl (cI, 480, .inl (fun _ => 0))), (aS, .inl (cZ, 96, .inl (fun _ => 0)))]) (r := 0) (As := []) (rest := []) ⟨hx, hb, hml, hown, hts⟩ (c_X2_trades l dC dI cI cZ cJ ax aB aN aY aU aS 0 20 50 (fun _ => 0) (fun _ => 0) (fun _ => 0) (fun _ => 0) (fun _ => 0) ad aw 100 200 50 (z_wa 100 200 50 (fun _ => 0) 1001) aq aP aA aT aO aE aI 0 (fun _ => 0) (fun _ => 0) (fun _ => 0) (fun _ => 0) (fun _ => 0) (fun _ => 0)) (cwV 0 hts gL_law_X2_trades rfl rfl rfl (by decide +kernel) ⟨Nat.le_of_ble_eq_true rfl, Nat.le_of_ble_eq_true rfl⟩) hK (hP.sub [0, 1, 2, 3, 4, 5, 6, 7, 8, 9, 10, 11, 12, 13, 14] rfl) 2 0 rfl rfl rfl rfl hl.1 rfl (Nat.le_of_ble_eq_true rfl) dL_law_26 ⟨Nat.le_of_ble_eq_true rfl, Nat.le_of_ble_eq_true rfl⟩ ?_
    refine lv_if_ne (tgt := 45) hx hb dL_law_29 (by decide) (fun c_29 => ?_) (fun c_29 => ?_)
    · exact absurd rfl c_29
    · refine lv_aload_n hx hb dL_law_32 rfl (lv_at hl 2 rfl) ?_
      refine q_rVl (wc := [(ax, .inr (2, [.ref ad, .ref aq, .ref aB, .ref aN, .ref aY, .ref aU, .ref aS, .int 0, .int 20, .int 50])), (ad, .inr (0, [.ref aw, .int 100, .int 200, .int 50])), (aw, .inl (cI, 1002, .inl (z_wa 100 200 50 (fun _ => 0) 1001))), (aq, .inr (1, [.ref aP, .ref aA, .ref aT, .ref aO, .int 0, .ref aE, .ref aI])), (aP, .inl (cI, 12, .inl (fun _ => 0))), (aA, .inl (cI, 12, .inl (fun _ => 0))), (aT, .inl (cI, 12, .inl (fun _ => 0))), (aO, .inl (cI, 12, .inl (fun _ => 0))), (aE, .inl (cI, 12, .inl (fun _ => 0))), (aI, .inl (cZ, 12, .inl (fun _ => 0))), (aB, .inl (cI, 8, .inl (fun _ => 0))), (aN, .inl (cI, 40, .inl (fun _ => 0))), (aY, .inl (cI, 480, .inl (fun _ => 0))), (aU, .inl (cI, 480, .inl (fun _ => 0))), (aS, .inl (cZ, 96, .inl (fun _ => 0)))]) (r := (z_ps (fun _ => 0) (fun _ => 0) (fun _ => 0) (fun _ => 0) 20 50 5)) (As := []) (rest := []) ⟨hx, hb, hml, hown, hts⟩ (c_X2_penalties l dC dI cI cZ cJ ax aB aN aY aU aS 0 20 50 (fun _ => 0) (fun _ => 0) (fun _ => 0) (fun _ => 0) (fun _ => 0) ad aw 100 200 50 (z_wa 100 200 50 (fun _ => 0) 1001) aq aP aA aT aO aE aI 0 (fun _ => 0) (fun _ => 0) (fun _ => 0) (fun _ => 0) (fun _ => 0) (fun _ => 0)) (cwV 0 hts gL_law_X2_penalties rfl rfl rfl (by decide +kernel) ⟨Nat.le_of_ble_eq_true rfl, Nat.le_of_ble_eq_true rfl⟩) hK (hP.sub [0, 1, 2, 3, 4, 5, 6, 7, 8, 9, 10, 11, 12, 13, 14] rfl) 2 0 rfl rfl rfl rfl hl.1 rfl (Nat.le_of_ble_eq_true rfl) dL_law_33 ⟨Nat.le_of_ble_eq_true rfl, Nat.le_of_ble_eq_true rfl⟩ ?_
      refine lv_lconst (v := 0) hx hb dL_law_36 (by decide) ?_
      refine W.lcmp hx hb dL_law_37 ?_
      refine lv_if_ne (tgt := 45) hx hb dL_law_38 (by decide) (fun c_38 => ?_) (fun c_38 => ?_)
      · exact absurd (z_lc q_ps0) c_38
      · refine lv_iconst (v := 1) hx hb dL_law_41 (by decide) ?_
        refine lv_goto (tgt := 46) hx hb dL_law_42 (by decide) ?_
        refine lv_istore (lv' := [(4, .int 1), (3, .ref ae), (2, .ref am), (1, .ref ax), (0, .ref b)]) hx hb dL_law_46 hl (by decide) rfl (fun ls hl => ?_)
        refine lv_iconst (v := 0) hx hb dL_law_48 (by decide) ?_
        refine lv_istore (lv' := [(5, .int 0), (4, .int 1), (3, .ref ae), (2, .ref am), (1, .ref ax), (0, .ref b)]) hx hb dL_law_49 hl (by decide) rfl (fun ls hl => ?_)
        exact law_loop hfl hx hb hml hown hts hXL hNC hK hX hbl hL hr hlocks 51 0 (by omega) (by omega) 0 20 50 (fun _ => 0) (fun _ => 0) (fun _ => 0) (fun _ => 0) (fun _ => 0) 100 200 50 (z_wa 100 200 50 (fun _ => 0) 1001) 0 (fun _ => 0) (fun _ => 0) (fun _ => 0) (fun _ => 0) (fun _ => 0) (fun _ => 0) q_K0 H _ hP hD hS ls (lv_sub hl [5, 4, 3, 2, 1, 0] rfl)
