/-! The law's loop. -/
theorem q_sub7 {L : Nat} (h : L ≤ 3584) : (Int32.ofNat L - 7).toInt = (L : Int) - 7 := by
  rw [Int32.toInt_sub, show (Int32.ofNat L).toInt = (L : Int) from nI_toInt (by omega), show (7 : Int32).toInt = 7 by decide]
  exact Int.bmod_eq_of_le (by omega) (by omega)
theorem q_x7 {x : Int32} {k : Nat} (h : x = nI (7 * k)) : x + 7 = nI (7 * (k + 1)) := by
  subst h
  rw [show 7 * (k + 1) = 7 * k + 7 by omega]
  exact (Int32.ofNat_add _ _).symm
set_option maxHeartbeats 4000000 in
set_option maxRecDepth 100000 in
theorem law_loop {p : Program} {l : Launch} {e : Env} {s : State} {m : MethodId} {below : List Frame} {meth : Method} {c : Code} {b L : Nat} {xs : Nat → Int32} {dC : Nat → ClassId} {dI : Nat → Nat → Nat} {cI cZ cJ : ClassId} (hfl : l.stackTraces = false) (hx : p.tables.exec = Jvm.exec) (hb : c.code = code) (hml : c.maxLocals = 7) (hown : s.vm.findClass RL = some m.cls) (hts : ∀ w ∈ wsL_law, w.before #[Value.ref b] s = true) (hX : va_X b L xs s s.heap) (hbl : b < s.heap.size) (hL : L ≤ 3584) (hXL : q_XKL s) (hNC : q_NC s) (hK : va_K (dC, dI) vwCl (q_T cI cZ cJ) s)  (hr : meth.sig.returnType = ret) (hlocks : meth.locks = false) {ax aB aN aY aU aS ad aw aq aP aA aT aO aE aI bm bP bA bE bT bB bN bY bU bS ao : Nat} : ∀ (w k : Nat), L < 7 * k + w → 7 * k ≤ L → ∀ (tr ra ca : Int32) (fB fN fY fU fS : Nat → Int32) (lo up tp : Int32) (fW : Nat → Int32) (n : Nat) (fP fA fT fO fE fI : Nat → Int32) (tw : Int32) (fL : Nat → Int64) (x4 : Int32), x4 = nI (7 * k) → z_J k lo up tp ca fW n fP fA fT fO fE fN → ∀ (H : Heap) (locs : List Loc), va_P (dC, dI) vwCl [(ax, .inr (2, [.ref ad, .ref aq, .ref aB, .ref aN, .ref aY, .ref aU, .ref aS, .int tr, .int ra, .int ca])), (ad, .inr (0, [.ref aw, .int lo, .int up, .int tp])), (aw, .inl (cI, 1002, .inl fW)), (aq, .inr (1, [.ref aP, .ref aA, .ref aT, .ref aO, .int (nI n), .ref aE, .ref aI])), (aP, .inl (cI, 12, .inl fP)), (aA, .inl (cI, 12, .inl fA)), (aT, .inl (cI, 12, .inl fT)), (aO, .inl (cI, 12, .inl fO)), (aE, .inl (cI, 12, .inl fE)), (aI, .inl (cZ, 12, .inl fI)), (aB, .inl (cI, 8, .inl fB)), (aN, .inl (cI, 40, .inl fN)), (aY, .inl (cI, 480, .inl fY)), (aU, .inl (cI, 480, .inl fU)), (aS, .inl (cZ, 96, .inl fS)), (bm, .inr (3, [.int lo, .int up, .int tp, .ref bP, .ref bA, .ref bE, .ref bT, .int (nI n), .ref bB, .ref bN, .ref bY, .ref bU, .ref bS, .int tr, .int ra, .int ca, .int tw])), (bP, .inl (cI, 12, .inl fP)), (bA, .inl (cI, 12, .inl fA)), (bE, .inl (cI, 12, .inl fE)), (bT, .inl (cI, 12, .inl fT)), (bB, .inl (cI, 8, .inl fB)), (bN, .inl (cI, 40, .inl fN)), (bY, .inl (cI, 480, .inl fY)), (bU, .inl (cI, 480, .inl fU)), (bS, .inl (cZ, 96, .inl fS)), (ao, .inl (cJ, 1, .inr (.inl fL)))] H → va_D (fun q : Nat => s.heap.size ≤ q) [(ax, .inr (2, [.ref ad, .ref aq, .ref aB, .ref aN, .ref aY, .ref aU, .ref aS, .int tr, .int ra, .int ca])), (ad, .inr (0, [.ref aw, .int lo, .int up, .int tp])), (aw, .inl (cI, 1002, .inl fW)), (aq, .inr (1, [.ref aP, .ref aA, .ref aT, .ref aO, .int (nI n), .ref aE, .ref aI])), (aP, .inl (cI, 12, .inl fP)), (aA, .inl (cI, 12, .inl fA)), (aT, .inl (cI, 12, .inl fT)), (aO, .inl (cI, 12, .inl fO)), (aE, .inl (cI, 12, .inl fE)), (aI, .inl (cZ, 12, .inl fI)), (aB, .inl (cI, 8, .inl fB)), (aN, .inl (cI, 40, .inl fN)), (aY, .inl (cI, 480, .inl fY)), (aU, .inl (cI, 480, .inl fU)), (aS, .inl (cZ, 96, .inl fS)), (bm, .inr (3, [.int lo, .int up, .int tp, .ref bP, .ref bA, .ref bE, .ref bT, .int (nI n), .ref bB, .ref bN, .ref bY, .ref bU, .ref bS, .int tr, .int ra, .int ca, .int tw])), (bP, .inl (cI, 12, .inl fP)), (bA, .inl (cI, 12, .inl fA)), (bE, .inl (cI, 12, .inl fE)), (bT, .inl (cI, 12, .inl fT)), (bB, .inl (cI, 8, .inl fB)), (bN, .inl (cI, 40, .inl fN)), (bY, .inl (cI, 480, .inl fY)), (bU, .inl (cI, 480, .inl fU)), (bS, .inl (cZ, 96, .inl fS)), (ao, .inl (cJ, 1, .inr (.inl fL)))] → va_S (fun q : Nat => s.heap.size ≤ q) s.heap H locs → ∀ (ls : Array Slot), lv_has ls 7 [(0, .ref b), (1, .ref ax), (2, .ref bm), (3, .ref ao), (4, .int x4)] → W p l e room_1 s m #[Value.ref b] below meth c H locs (26 + k) (3369 + 6 * k) (lw_Z below #[Value.ref b] s) (F0 m 23 ls []) := by
  intro w
  induction w with
  | zero => intro k h1 h2; exact absurd h1 (by omega)
  | succ w ih =>
    intro k hw hk7 tr ra ca fB fN fY fU fS lo up tp fW n fP fA fT fO fE fI tw fL x4 hx4 hJ H locs hP hD hS ls hl
    refine lv_iload hx hb dL_law_23 (lv_at hl 4 rfl) ?_
    refine lv_aload_n hx hb dL_law_25 rfl (lv_at hl 0 rfl) ?_
    refine va_slen hx hb hX hbl (fun h9 => absurd hbl (Nat.not_lt.mpr h9)) hS dL_law_26 ?_
    refine lv_bipush (v := 7) hx hb dL_law_27 (by decide) ?_
    refine lv_isub hx hb dL_law_29 ?_
    have hlen : (Int32.ofNat L - 7).toInt = (L : Int) - 7 := q_sub7 hL
    have hkt : x4.toInt = 7 * (k : Int) := by rw [hx4, nI_toInt (by omega)]; omega
    refine lv_icmp_gt (tgt := 1434) hx hb dL_law_30 (by decide) (fun c_30 => ?_) (fun c_30 => ?_)
    · refine lv_iconst (v := 1) hx hb dL_law_1434 (by decide) ?_
      refine va_forget (fun q hq => hS.2.2 q hq) ?_
      refine W.widen (k := 1074) (n := 11705) (by omega) (by omega) ?_
      exact lw_ret hx hb hr hlocks dL_law_1435
    · have hk : 7 * k + 7 ≤ L := by rw [z_lt, hlen, hkt] at c_30; omega
      have hN : lw_Nx p l e s m below meth c b dC dI cI cZ cJ ax aB aN aY aU aS ad aw aq aP aA aT aO aE aI bm bP bA bE bT bB bN bY bU bS ao x4 k := by
        intro tr ra ca fB fN fY fU fS lo up tp fW n fP fA fT fO fE fI tw fL H locs hP hD hS hJ ls hl
        refine lv_iinc (v := x4 + 7) (lv' := [(4, .int (x4 + 7)), (0, .ref b), (1, .ref ax), (2, .ref bm), (3, .ref ao)]) hx hb dL_law_1428 hl (k := 4) rfl rfl (by decide) rfl (fun ls hl => ?_)
        refine lv_goto (tgt := 23) hx hb dL_law_1431 (by decide) ?_
        have h2 := ih (k + 1) (by omega) (by omega) tr ra ca fB fN fY fU fS lo up tp fW n fP fA fT fO fE fI tw fL (x4 + 7) (q_x7 hx4) hJ H locs hP hD hS ls (lv_sub hl [1, 2, 3, 4, 0] rfl)
        rw [show 26 + (k + 1) = 26 + k + 1 by omega, show 3369 + 6 * (k + 1) = 3369 + 6 * k + 6 by omega] at h2
        exact h2
      refine lv_aload_n hx hb dL_law_33 rfl (lv_at hl 0 rfl) ?_
      refine lv_iload hx hb dL_law_34 (lv_at hl 4 rfl) ?_
      obtain ⟨v0, ev_0⟩ : ∃ v : Int32, xs (7 * k) = v := ⟨_, rfl⟩
      refine q_sle hx hb hX hbl (fun h9 => absurd hbl (Nat.not_lt.mpr h9)) hS (7 * k) hx4 (by omega) hL ev_0 dL_law_36 ?_
      refine lv_bipush (v := 31) hx hb dL_law_37 (by decide) ?_
      refine lv_iand hx hb dL_law_39 ?_
      obtain ⟨j, hj, ej⟩ := pk_andE v0 (m := 31) 5 (by decide)
      rw [ej]
      rcases (show j = 0 ∨ j = 1 ∨ j = 2 ∨ j = 3 ∨ j = 4 ∨ j = 5 ∨ j = 6 ∨ j = 7 ∨ j = 8 ∨ j = 9 ∨ j = 10 ∨ j = 11 ∨ j = 12 ∨ j = 13 ∨ j = 14 ∨ j = 15 ∨ j = 16 ∨ j = 17 ∨ j = 18 ∨ j = 19 ∨ j = 20 ∨ 21 ≤ j by omega) with rfl | rfl | rfl | rfl | rfl | rfl | rfl | rfl | rfl | rfl | rfl | rfl | rfl | rfl | rfl | rfl | rfl | rfl | rfl | rfl | rfl | h21
      · refine lv_tableIn (off := 100) (tgt := 140) hx hb dL_law_40 (by decide) (by decide) (by decide) (by decide) ?_
        exact lc_setDemand hfl hx hb hml hown hts hX hbl hL hXL hNC hK hk hx4 hJ hP hD hS hl hN
      · refine lv_tableIn (off := 160) (tgt := 200) hx hb dL_law_40 (by decide) (by decide) (by decide) (by decide) ?_
        exact lc_value hfl hx hb hml hown hts hX hbl hL hXL hNC hK hk hx4 hJ hP hD hS hl hN
      · refine lv_tableIn (off := 216) (tgt := 256) hx hb dL_law_40 (by decide) (by decide) (by decide) (by decide) ?_
        exact lc_worth hfl hx hb hml hown hts hX hbl hL hXL hNC hK hk hx4 hJ hP hD hS hl hN
      · refine lv_tableIn (off := 272) (tgt := 312) hx hb dL_law_40 (by decide) (by decide) (by decide) (by decide) ?_
        exact lc_offer hfl hx hb hml hown hts hX hbl hL hXL hNC hK hk hx4 hJ hP hD hS hl hN
      · refine lv_tableIn (off := 376) (tgt := 416) hx hb dL_law_40 (by decide) (by decide) (by decide) (by decide) ?_
        exact lc_offers hfl hx hb hml hown hts hX hbl hL hXL hNC hK hk hx4 hJ hP hD hS hl hN
      · refine lv_tableIn (off := 389) (tgt := 429) hx hb dL_law_40 (by decide) (by decide) (by decide) (by decide) ?_
        exact lc_supply hfl hx hb hml hown hts hX hbl hL hXL hNC hK hk hx4 hJ hP hD hS hl hN
      · refine lv_tableIn (off := 445) (tgt := 485) hx hb dL_law_40 (by decide) (by decide) (by decide) (by decide) ?_
        exact lc_clearing hfl hx hb hml hown hts hX hbl hL hXL hNC hK hk hx4 hJ hP hD hS hl hN
      · refine lv_tableIn (off := 501) (tgt := 541) hx hb dL_law_40 (by decide) (by decide) (by decide) (by decide) ?_
        exact lc_clearingByClock hfl hx hb hml hown hts hX hbl hL hXL hNC hK hk hx4 hJ hP hD hS hl hN
      · refine lv_tableIn (off := 557) (tgt := 597) hx hb dL_law_40 (by decide) (by decide) (by decide) (by decide) ?_
        exact lc_wouldTake hfl hx hb hml hown hts hX hbl hL hXL hNC hK hk hx4 hJ hP hD hS hl hN
      · refine lv_tableIn (off := 632) (tgt := 672) hx hb dL_law_40 (by decide) (by decide) (by decide) (by decide) ?_
        exact lc_run hfl hx hb hml hown hts hX hbl hL hXL hNC hK hk hx4 hJ hP hD hS hl hN
      · refine lv_tableIn (off := 688) (tgt := 728) hx hb dL_law_40 (by decide) (by decide) (by decide) (by decide) ?_
        exact lc_bought hfl hx hb hml hown hts hX hbl hL hXL hNC hK hk hx4 hJ hP hD hS hl hN
      · refine lv_tableIn (off := 744) (tgt := 784) hx hb dL_law_40 (by decide) (by decide) (by decide) (by decide) ?_
        exact lc_income hfl hx hb hml hown hts hX hbl hL hXL hNC hK hk hx4 hJ hP hD hS hl hN
      · refine lv_tableIn (off := 812) (tgt := 852) hx hb dL_law_40 (by decide) (by decide) (by decide) (by decide) ?_
        exact lc_obligation hfl hx hb hml hown hts hX hbl hL hXL hNC hK hk hx4 hJ hP hD hS hl hN
      · refine lv_tableIn (off := 892) (tgt := 932) hx hb dL_law_40 (by decide) (by decide) (by decide) (by decide) ?_
        exact lc_trade hfl hx hb hml hown hts hX hbl hL hXL hNC hK hk hx4 hJ hP hD hS hl hN
      · refine lv_tableIn (off := 1010) (tgt := 1050) hx hb dL_law_40 (by decide) (by decide) (by decide) (by decide) ?_
        exact lc_trades hfl hx hb hml hown hts hX hbl hL hXL hNC hK hk hx4 hJ hP hD hS hl hN
      · refine lv_tableIn (off := 1023) (tgt := 1063) hx hb dL_law_40 (by decide) (by decide) (by decide) (by decide) ?_
        exact lc_stress hfl hx hb hml hown hts hX hbl hL hXL hNC hK hk hx4 hJ hP hD hS hl hN
      · refine lv_tableIn (off := 1098) (tgt := 1138) hx hb dL_law_40 (by decide) (by decide) (by decide) (by decide) ?_
        exact lc_tell hfl hx hb hml hown hts hX hbl hL hXL hNC hK hk hx4 hJ hP hD hS hl hN
      · refine lv_tableIn (off := 1190) (tgt := 1230) hx hb dL_law_40 (by decide) (by decide) (by decide) (by decide) ?_
        exact lc_setPenalty hfl hx hb hml hown hts hX hbl hL hXL hNC hK hk hx4 hJ hP hD hS hl hN
      · refine lv_tableIn (off := 1238) (tgt := 1278) hx hb dL_law_40 (by decide) (by decide) (by decide) (by decide) ?_
        exact lc_lack hfl hx hb hml hown hts hX hbl hL hXL hNC hK hk hx4 hJ hP hD hS hl hN
      · refine lv_tableIn (off := 1306) (tgt := 1346) hx hb dL_law_40 (by decide) (by decide) (by decide) (by decide) ?_
        exact lc_penalty hfl hx hb hml hown hts hX hbl hL hXL hNC hK hk hx4 hJ hP hD hS hl hN
      · refine lv_tableIn (off := 1374) (tgt := 1414) hx hb dL_law_40 (by decide) (by decide) (by decide) (by decide) ?_
        exact lc_penalties hfl hx hb hml hown hts hX hbl hL hXL hNC hK hk hx4 hJ hP hD hS hl hN
      · refine lv_tableOut (tgt := 1428) hx hb dL_law_40 (Or.inr (by rw [nI_toInt (by omega)]; omega)) (by decide) ?_
        refine W.widen (k := 26 + k + 1) (n := 3369 + 6 * k + 6) (by omega) (by omega) ?_
        exact hN tr ra ca fB fN fY fU fS lo up tp fW n fP fA fT fO fE fI tw fL H locs hP hD hS (z_Jmono hJ) ls hl
