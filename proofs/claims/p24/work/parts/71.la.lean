set_option maxHeartbeats 4000000 in
set_option maxRecDepth 100000 in
theorem lc_offer {p : Program} {l : Launch} {e : Env} {s : State} {m : MethodId} {below : List Frame} {meth : Method} {c : Code} {b : Nat} {dC : Nat → ClassId} {dI : Nat → Nat → Nat} {cI cZ cJ : ClassId} (hfl : l.stackTraces = false) (hx : p.tables.exec = Jvm.exec) (hb : c.code = code) (hml : c.maxLocals = 19) (hown : s.vm.findClass RL = some m.cls) (hts : ∀ w ∈ wsL_law, w.before #[Value.ref b] s = true) (hXL : q_XKL s) (hNC : q_NC s) (hK : va_K (dC, dI) vwCl (q_T cI cZ cJ) s) {ax aB aN aY aU aS ad aw aq aP aA aT aO aE aI am ae : Nat} {tr ra ca : Int32} {fB fN fY fU fS : Nat → Int32} {lo up tp : Int32} {fW : Nat → Int32} {n : Nat} {fP fA fT fO fE fI : Nat → Int32} {k : Nat} (hk : k < 50) {x5 y0 h0 : Int32} (hy7 : z_in y0 0 7 = true) (hh11 : z_in h0 0 11 = true)  {zv : Nat} (hzv : zv < 2 ^ 28) {p0 : Int32} (hp4 : z_in p0 0 4 = true) (hJ : z_K k ra ca fW n fP fA fT fO fE fB fN fY fU) {H : Heap} {locs : List Loc} (hP : va_P (dC, dI) vwCl [(ax, .inr (2, [.ref ad, .ref aq, .ref aB, .ref aN, .ref aY, .ref aU, .ref aS, .int tr, .int ra, .int ca])), (ad, .inr (0, [.ref aw, .int lo, .int up, .int tp])), (aw, .inl (cI, 1002, .inl fW)), (aq, .inr (1, [.ref aP, .ref aA, .ref aT, .ref aO, .int (nI n), .ref aE, .ref aI])), (aP, .inl (cI, 12, .inl fP)), (aA, .inl (cI, 12, .inl fA)), (aT, .inl (cI, 12, .inl fT)), (aO, .inl (cI, 12, .inl fO)), (aE, .inl (cI, 12, .inl fE)), (aI, .inl (cZ, 12, .inl fI)), (aB, .inl (cI, 8, .inl fB)), (aN, .inl (cI, 40, .inl fN)), (aY, .inl (cI, 480, .inl fY)), (aU, .inl (cI, 480, .inl fU)), (aS, .inl (cZ, 96, .inl fS)), (am, .inl (cI, 12, .inl fA)), (ae, .inl (cI, 12, .inl fE))] H) (hD : va_D (fun q : Nat => s.heap.size ≤ q) [(ax, .inr (2, [.ref ad, .ref aq, .ref aB, .ref aN, .ref aY, .ref aU, .ref aS, .int tr, .int ra, .int ca])), (ad, .inr (0, [.ref aw, .int lo, .int up, .int tp])), (aw, .inl (cI, 1002, .inl fW)), (aq, .inr (1, [.ref aP, .ref aA, .ref aT, .ref aO, .int (nI n), .ref aE, .ref aI])), (aP, .inl (cI, 12, .inl fP)), (aA, .inl (cI, 12, .inl fA)), (aT, .inl (cI, 12, .inl fT)), (aO, .inl (cI, 12, .inl fO)), (aE, .inl (cI, 12, .inl fE)), (aI, .inl (cZ, 12, .inl fI)), (aB, .inl (cI, 8, .inl fB)), (aN, .inl (cI, 40, .inl fN)), (aY, .inl (cI, 480, .inl fY)), (aU, .inl (cI, 480, .inl fU)), (aS, .inl (cZ, 96, .inl fS)), (am, .inl (cI, 12, .inl fA)), (ae, .inl (cI, 12, .inl fE))]) (hS : va_S (fun q : Nat => s.heap.size ≤ q) s.heap H locs) {ls : Array Slot} (hl : lv_has ls 19 [(0, .ref b), (1, .ref ax), (2, .ref am), (3, .ref ae), (4, .int 1), (5, .int x5), (7, .int (nI zv)), (9, .int p0), (10, .int y0), (11, .int h0), (12, .int (nI n))])
    (hnext : lw_N1 p l e s m below meth c b dC dI cI cZ cJ ax aB aN aY aU aS ad aw aq aP aA aT aO aE aI am ae x5 y0 h0 k) : W p l e room_1 s m #[Value.ref b] below meth c H locs (17 + k) (2223 + 6 * k) (lw_Z below #[Value.ref b] s) (F0 m 123 ls []) := by
  obtain ⟨j0, jn, jO, jor, jof, jA, jE, jlv, jB⟩ := z_Kall hJ
  obtain ⟨hy, hy8⟩ := z_Y hy7
  obtain ⟨hh, hh12⟩ := z_H hh11
  obtain ⟨cp, hcp⟩ : ∃ v, v = 1 + zv % 120 := ⟨_, rfl⟩
  obtain ⟨dr, hdr⟩ : ∃ v, v = zv / 120 % 101 := ⟨_, rfl⟩
  obtain ⟨ex, hex⟩ : ∃ v, v = zv / 11 % 70 := ⟨_, rfl⟩
  obtain ⟨tm, htm⟩ : ∃ v, v = 1 + zv / 7 % 4 := ⟨_, rfl⟩
  obtain ⟨aq9, haq⟩ : ∃ v, v = cp * dr / 100 := ⟨_, rfl⟩
  have hcd : cp * dr ≤ 120 * 100 := Nat.mul_le_mul (by omega) (by omega)
  have haq2 : aq9 ≤ 120 := by omega
  have hex2 : ex ≤ 69 := by omega
  have hae : nI cp * nI dr / 100 = nI aq9 := by rw [haq, pk_mul]; exact pk_div (d := 100) (by omega) (by omega) (by omega)
  have hB9 : (z_in (nI cp) 1 300 && z_in (nI dr) 0 100 && z_in (nI ex) 0 1000 && z_in (nI tm) 1 4) = true := by
    rw [show z_in (nI cp) 1 300 = true from z_inN (a := 1) (b := 300) (by omega) (by omega) (by omega), show z_in (nI dr) 0 100 = true from z_inN (a := 0) (b := 100) (by omega) (by omega) (by omega), show z_in (nI ex) 0 1000 = true from z_inN (a := 0) (b := 1000) (by omega) (by omega) (by omega), show z_in (nI tm) 1 4 = true from z_inN (a := 1) (b := 4) (by omega) (by omega) (by omega)]; rfl
  by_cases hn12 : n < 12
  · have hcc : z_cd (z_in p0 0 4) (z_in (nI cp) 1 300 && z_in (nI dr) 0 100 && z_in (nI ex) 0 1000 && z_in (nI tm) 1 4) (!decide (12 ≤ n)) = 0 := z_cd0 hp4 hB9 (by rw [decide_eq_false (show ¬ 12 ≤ n by omega)]; rfl)
    have hok9 := hcc
    have hJ2 := z_Koff hJ hn12 hp4 haq2 hex2 (show 1 ≤ tm by omega) (show tm ≤ 4 by omega)
    refine lv_iconst (v := 1) hx hb dL_law_123 (by decide) ?_
    refine lv_iload hx hb dL_law_124 (lv_at hl 6 rfl) ?_
    refine lv_bipush (v := 120) hx hb dL_law_126 (by decide) ?_
    refine lv_irem hx hb dL_law_128 (by decide) ?_
    refine lv_topi (fun v_1 ev_1 => ?_)
    obtain rfl : v_1 = nI (zv % 120) := ev_1.trans (pk_rem (a := zv) (d := 120) (by omega) (by omega) (by omega))
    refine lv_iadd hx hb dL_law_129 ?_
    refine lv_topi (fun v_2 ev_2 => ?_)
    obtain rfl : v_2 = nI (1 + (zv % 120)) := ev_2.trans (nI_add 1 (zv % 120))
    refine lv_topi (fun v_3 ev_3 => ?_)
    obtain rfl : v_3 = nI cp := ev_3.trans (by rw [hcp])
    refine lv_istore (lv' := [(13, .int (nI cp)), (0, .ref b), (1, .ref ax), (2, .ref am), (3, .ref ae), (4, .int 1), (5, .int x5), (7, .int (nI zv)), (9, .int p0), (10, .int y0), (11, .int h0), (12, .int (nI n))]) hx hb dL_law_130 hl (by decide) rfl (fun ls hl => ?_)
    refine lv_iload hx hb dL_law_132 (lv_at hl 7 rfl) ?_
    refine lv_bipush (v := 120) hx hb dL_law_134 (by decide) ?_
    refine lv_idiv hx hb dL_law_136 (by decide) ?_
    refine lv_topi (fun v_4 ev_4 => ?_)
    obtain rfl : v_4 = nI (zv / 120) := ev_4.trans (pk_div (a := zv) (d := 120) (by omega) (by omega) (by omega))
    refine lv_bipush (v := 101) hx hb dL_law_137 (by decide) ?_
    refine lv_irem hx hb dL_law_139 (by decide) ?_
    refine lv_topi (fun v_5 ev_5 => ?_)
    obtain rfl : v_5 = nI ((zv / 120) % 101) := ev_5.trans (pk_rem (a := zv / 120) (d := 101) (by omega) (by omega) (by omega))
    refine lv_topi (fun v_6 ev_6 => ?_)
    obtain rfl : v_6 = nI dr := ev_6.trans (by rw [hdr])
    refine lv_istore (lv' := [(14, .int (nI dr)), (13, .int (nI cp)), (0, .ref b), (1, .ref ax), (2, .ref am), (3, .ref ae), (4, .int 1), (5, .int x5), (7, .int (nI zv)), (9, .int p0), (10, .int y0), (11, .int h0), (12, .int (nI n))]) hx hb dL_law_140 hl (by decide) rfl (fun ls hl => ?_)
    refine lv_iload hx hb dL_law_142 (lv_at hl 8 rfl) ?_
    refine lv_bipush (v := 11) hx hb dL_law_144 (by decide) ?_
    refine lv_idiv hx hb dL_law_146 (by decide) ?_
    refine lv_topi (fun v_7 ev_7 => ?_)
    obtain rfl : v_7 = nI (zv / 11) := ev_7.trans (pk_div (a := zv) (d := 11) (by omega) (by omega) (by omega))
    refine lv_bipush (v := 70) hx hb dL_law_147 (by decide) ?_
    refine lv_irem hx hb dL_law_149 (by decide) ?_
    refine lv_topi (fun v_8 ev_8 => ?_)
    obtain rfl : v_8 = nI ((zv / 11) % 70) := ev_8.trans (pk_rem (a := zv / 11) (d := 70) (by omega) (by omega) (by omega))
    refine lv_topi (fun v_9 ev_9 => ?_)
    obtain rfl : v_9 = nI ex := ev_9.trans (by rw [hex])
    refine lv_istore (lv' := [(15, .int (nI ex)), (14, .int (nI dr)), (13, .int (nI cp)), (0, .ref b), (1, .ref ax), (2, .ref am), (3, .ref ae), (4, .int 1), (5, .int x5), (7, .int (nI zv)), (9, .int p0), (10, .int y0), (11, .int h0), (12, .int (nI n))]) hx hb dL_law_150 hl (by decide) rfl (fun ls hl => ?_)
    refine lv_aload_n hx hb dL_law_152 rfl (lv_at hl 4 rfl) ?_
    refine lv_iload hx hb dL_law_153 (lv_at hl 10 rfl) ?_
    refine lv_iload hx hb dL_law_155 (lv_at hl 2 rfl) ?_
    refine lv_iload hx hb dL_law_157 (lv_at hl 1 rfl) ?_
    refine lv_iload hx hb dL_law_159 (lv_at hl 0 rfl) ?_
    refine lv_iconst (v := 1) hx hb dL_law_161 (by decide) ?_
    refine lv_iload hx hb dL_law_162 (lv_at hl 9 rfl) ?_
    refine lv_bipush (v := 7) hx hb dL_law_164 (by decide) ?_
    refine lv_idiv hx hb dL_law_166 (by decide) ?_
    refine lv_topi (fun v_10 ev_10 => ?_)
    obtain rfl : v_10 = nI (zv / 7) := ev_10.trans (pk_div (a := zv) (d := 7) (by omega) (by omega) (by omega))
    refine lv_iconst (v := 4) hx hb dL_law_167 (by decide) ?_
    refine lv_irem hx hb dL_law_168 (by decide) ?_
    refine lv_topi (fun v_11 ev_11 => ?_)
    obtain rfl : v_11 = nI ((zv / 7) % 4) := ev_11.trans (pk_rem (a := zv / 7) (d := 4) (by omega) (by omega) (by omega))
    refine lv_iadd hx hb dL_law_169 ?_
    refine lv_topi (fun v_12 ev_12 => ?_)
    obtain rfl : v_12 = nI (1 + ((zv / 7) % 4)) := ev_12.trans (nI_add 1 ((zv / 7) % 4))
    refine lv_topi (fun v_13 ev_13 => ?_)
    obtain rfl : v_13 = nI tm := ev_13.trans (by rw [htm])
    refine q_wSW (ws := [(ax, .inr (2, [.ref ad, .ref aq, .ref aB, .ref aN, .ref aY, .ref aU, .ref aS, .int tr, .int ra, .int ca])), (ad, .inr (0, [.ref aw, .int lo, .int up, .int tp])), (aw, .inl (cI, 1002, .inl fW)), (aq, .inr (1, [.ref aP, .ref aA, .ref aT, .ref aO, .int (nI n), .ref aE, .ref aI])), (aP, .inl (cI, 12, .inl fP)), (aA, .inl (cI, 12, .inl fA)), (aT, .inl (cI, 12, .inl fT)), (aO, .inl (cI, 12, .inl fO)), (aE, .inl (cI, 12, .inl fE)), (aI, .inl (cZ, 12, .inl fI)), (aB, .inl (cI, 8, .inl fB)), (aN, .inl (cI, 40, .inl fN)), (aY, .inl (cI, 480, .inl fY)), (aU, .inl (cI, 480, .inl fU)), (aS, .inl (cZ, 96, .inl fS)), (am, .inl (cI, 12, .inl fA)), (ae, .inl (cI, 12, .inl fE))]) (wc := [(ax, .inr (2, [.ref ad, .ref aq, .ref aB, .ref aN, .ref aY, .ref aU, .ref aS, .int tr, .int ra, .int ca])), (ad, .inr (0, [.ref aw, .int lo, .int up, .int tp])), (aw, .inl (cI, 1002, .inl fW)), (aq, .inr (1, [.ref aP, .ref aA, .ref aT, .ref aO, .int (nI n), .ref aE, .ref aI])), (aP, .inl (cI, 12, .inl fP)), (aA, .inl (cI, 12, .inl fA)), (aT, .inl (cI, 12, .inl fT)), (aO, .inl (cI, 12, .inl fO)), (aE, .inl (cI, 12, .inl fE)), (aI, .inl (cZ, 12, .inl fI)), (aB, .inl (cI, 8, .inl fB)), (aN, .inl (cI, 40, .inl fN)), (aY, .inl (cI, 480, .inl fY)), (aU, .inl (cI, 480, .inl fU)), (aS, .inl (cZ, 96, .inl fS))]) (wc' := [(ax, .inr (2, [.ref ad, .ref aq, .ref aB, .ref aN, .ref aY, .ref aU, .ref aS, .int tr, .int ra, .int ca])), (ad, .inr (0, [.ref aw, .int lo, .int up, .int tp])), (aw, .inl (cI, 1002, .inl fW)), (aq, .inr (1, [.ref aP, .ref aA, .ref aT, .ref aO, .int (nI n + 1), .ref aE, .ref aI])), (aP, .inl (cI, 12, .inl (upd fP n p0))), (aA, .inl (cI, 12, .inl (upd fA n (nI cp * nI dr / 100)))), (aT, .inl (cI, 12, .inl (upd fT n (nI tm)))), (aO, .inl (cI, 12, .inl (z_ord fO n (z_pl fE (nI ex) (fun k => z_n (fO k)) n)))), (aE, .inl (cI, 12, .inl (upd fE n (nI ex)))), (aI, .inl (cZ, 12, .inl fI)), (aB, .inl (cI, 8, .inl fB)), (aN, .inl (cI, 40, .inl fN)), (aY, .inl (cI, 480, .inl fY)), (aU, .inl (cI, 480, .inl fU)), (aS, .inl (cZ, 96, .inl fS))]) (ws' := [(ax, .inr (2, [.ref ad, .ref aq, .ref aB, .ref aN, .ref aY, .ref aU, .ref aS, .int tr, .int ra, .int ca])), (ad, .inr (0, [.ref aw, .int lo, .int up, .int tp])), (aw, .inl (cI, 1002, .inl fW)), (aq, .inr (1, [.ref aP, .ref aA, .ref aT, .ref aO, .int (nI n + 1), .ref aE, .ref aI])), (aP, .inl (cI, 12, .inl (upd fP n p0))), (aA, .inl (cI, 12, .inl (upd fA n (nI cp * nI dr / 100)))), (aT, .inl (cI, 12, .inl (upd fT n (nI tm)))), (aO, .inl (cI, 12, .inl (z_ord fO n (z_pl fE (nI ex) (fun k => z_n (fO k)) n)))), (aE, .inl (cI, 12, .inl (upd fE n (nI ex)))), (aI, .inl (cZ, 12, .inl fI)), (aB, .inl (cI, 8, .inl fB)), (aN, .inl (cI, 40, .inl fN)), (aY, .inl (cI, 480, .inl fY)), (aU, .inl (cI, 480, .inl fU)), (aS, .inl (cZ, 96, .inl fS)), (am, .inl (cI, 12, .inl fA)), (ae, .inl (cI, 12, .inl fE))]) (r := (nI n)) (As := [.ref ax, .int p0, .int (nI cp), .int (nI dr), .int (nI ex), .int (nI tm)]) (rest := []) ⟨hx, hb, hml, hown, hts⟩ (c_L_offer l dC dI cI cZ cJ hfl ax aB aN aY aU aS tr ra ca fB fN fY fU fS ad aw lo up tp fW aq aP aA aT aO aE aI n fP fA fT fO fE fI p0 (nI cp) (nI dr) (nI ex) (nI tm) (fun k => z_n (fO k)) jn jO hok9) (vx_cwSW 6 hts gL_law_L_offer rfl rfl rfl (by decide +kernel) ⟨Nat.le_of_ble_eq_true rfl, Nat.le_of_ble_eq_true rfl⟩) hK (hXL.at hS) hNC hP hD hS [0, 1, 2, 3, 4, 5, 6, 7, 8, 9, 10, 11, 12, 13, 14] rfl (by decide) [(true, 0), (true, 1), (true, 2), (true, 3), (true, 4), (true, 5), (true, 6), (true, 7), (true, 8), (true, 9), (true, 10), (true, 11), (true, 12), (true, 13), (true, 14), (false, 15), (false, 16)] rfl (by decide) rfl rfl hl.1 rfl (Nat.le_of_ble_eq_true rfl) dL_law_170 ⟨show 17 + k + 1 ≤ 115 by omega, show 2223 + 6 * k + 6 ≤ 2959 by omega⟩ (fun H locs hP hD hS => ?_)
    have hP : va_P (dC, dI) vwCl [(ax, .inr (2, [.ref ad, .ref aq, .ref aB, .ref aN, .ref aY, .ref aU, .ref aS, .int tr, .int ra, .int ca])), (ad, .inr (0, [.ref aw, .int lo, .int up, .int tp])), (aw, .inl (cI, 1002, .inl fW)), (aq, .inr (1, [.ref aP, .ref aA, .ref aT, .ref aO, .int (nI n + 1), .ref aE, .ref aI])), (aP, .inl (cI, 12, .inl (upd fP n p0))), (aA, .inl (cI, 12, .inl (upd fA n (nI cp * nI dr / 100)))), (aT, .inl (cI, 12, .inl (upd fT n (nI tm)))), (aO, .inl (cI, 12, .inl (z_ord fO n (z_pl fE (nI ex) (fun k => z_n (fO k)) n)))), (aE, .inl (cI, 12, .inl (upd fE n (nI ex)))), (aI, .inl (cZ, 12, .inl fI)), (aB, .inl (cI, 8, .inl fB)), (aN, .inl (cI, 40, .inl fN)), (aY, .inl (cI, 480, .inl fY)), (aU, .inl (cI, 480, .inl fU)), (aS, .inl (cZ, 96, .inl fS)), (am, .inl (cI, 12, .inl fA)), (ae, .inl (cI, 12, .inl fE))] H := hP
    have hD : va_D (fun q : Nat => s.heap.size ≤ q) [(ax, .inr (2, [.ref ad, .ref aq, .ref aB, .ref aN, .ref aY, .ref aU, .ref aS, .int tr, .int ra, .int ca])), (ad, .inr (0, [.ref aw, .int lo, .int up, .int tp])), (aw, .inl (cI, 1002, .inl fW)), (aq, .inr (1, [.ref aP, .ref aA, .ref aT, .ref aO, .int (nI n + 1), .ref aE, .ref aI])), (aP, .inl (cI, 12, .inl (upd fP n p0))), (aA, .inl (cI, 12, .inl (upd fA n (nI cp * nI dr / 100)))), (aT, .inl (cI, 12, .inl (upd fT n (nI tm)))), (aO, .inl (cI, 12, .inl (z_ord fO n (z_pl fE (nI ex) (fun k => z_n (fO k)) n)))), (aE, .inl (cI, 12, .inl (upd fE n (nI ex)))), (aI, .inl (cZ, 12, .inl fI)), (aB, .inl (cI, 8, .inl fB)), (aN, .inl (cI, 40, .inl fN)), (aY, .inl (cI, 480, .inl fY)), (aU, .inl (cI, 480, .inl fU)), (aS, .inl (cZ, 96, .inl fS)), (am, .inl (cI, 12, .inl fA)), (ae, .inl (cI, 12, .inl fE))] := hD
    refine W.eq (g2 := F0 m 173 ls [.int (nI n)]) rfl ?_
    rw [hae, q_nI1] at hP hD
    have hP : va_P (dC, dI) vwCl [(ax, .inr (2, [.ref ad, .ref aq, .ref aB, .ref aN, .ref aY, .ref aU, .ref aS, .int tr, .int ra, .int ca])), (ad, .inr (0, [.ref aw, .int lo, .int up, .int tp])), (aw, .inl (cI, 1002, .inl fW)), (aq, .inr (1, [.ref aP, .ref aA, .ref aT, .ref aO, .int (nI (n + 1)), .ref aE, .ref aI])), (aP, .inl (cI, 12, .inl (upd fP n p0))), (aA, .inl (cI, 12, .inl (upd fA n (nI aq9)))), (aT, .inl (cI, 12, .inl (upd fT n (nI tm)))), (aO, .inl (cI, 12, .inl (z_ord fO n (z_pl fE (nI ex) (fun k => z_n (fO k)) n)))), (aE, .inl (cI, 12, .inl (upd fE n (nI ex)))), (aI, .inl (cZ, 12, .inl fI)), (aB, .inl (cI, 8, .inl fB)), (aN, .inl (cI, 40, .inl fN)), (aY, .inl (cI, 480, .inl fY)), (aU, .inl (cI, 480, .inl fU)), (aS, .inl (cZ, 96, .inl fS)), (am, .inl (cI, 12, .inl fA)), (ae, .inl (cI, 12, .inl fE))] H := hP
    have hD : va_D (fun q : Nat => s.heap.size ≤ q) [(ax, .inr (2, [.ref ad, .ref aq, .ref aB, .ref aN, .ref aY, .ref aU, .ref aS, .int tr, .int ra, .int ca])), (ad, .inr (0, [.ref aw, .int lo, .int up, .int tp])), (aw, .inl (cI, 1002, .inl fW)), (aq, .inr (1, [.ref aP, .ref aA, .ref aT, .ref aO, .int (nI (n + 1)), .ref aE, .ref aI])), (aP, .inl (cI, 12, .inl (upd fP n p0))), (aA, .inl (cI, 12, .inl (upd fA n (nI aq9)))), (aT, .inl (cI, 12, .inl (upd fT n (nI tm)))), (aO, .inl (cI, 12, .inl (z_ord fO n (z_pl fE (nI ex) (fun k => z_n (fO k)) n)))), (aE, .inl (cI, 12, .inl (upd fE n (nI ex)))), (aI, .inl (cZ, 12, .inl fI)), (aB, .inl (cI, 8, .inl fB)), (aN, .inl (cI, 40, .inl fN)), (aY, .inl (cI, 480, .inl fY)), (aU, .inl (cI, 480, .inl fU)), (aS, .inl (cZ, 96, .inl fS)), (am, .inl (cI, 12, .inl fA)), (ae, .inl (cI, 12, .inl fE))] := hD
    refine lv_iload hx hb dL_law_173 (lv_at hl 13 rfl) ?_
    refine lv_bipush (v := 12) hx hb dL_law_175 (by decide) ?_
    refine lv_icmp_ge (tgt := 185) hx hb dL_law_177 (by decide) (fun c_177 => ?_) (fun c_177 => ?_)
    · exact absurd ((q_cge (y := 12) (x := nI n) (n := 12) rfl rfl (by omega) (by omega)).mp c_177) (by omega)
    · refine lv_iload hx hb dL_law_180 (lv_at hl 13 rfl) ?_
      refine lv_goto (tgt := 187) hx hb dL_law_182 (by decide) ?_
      refine lv_icmp_ne (tgt := 194) hx hb dL_law_187 (by decide) (fun c_187 => ?_) (fun c_187 => ?_)
      · exact absurd rfl c_187
      · refine lv_iconst (v := 1) hx hb dL_law_190 (by decide) ?_
        refine lv_goto (tgt := 195) hx hb dL_law_191 (by decide) ?_
        refine lv_istore (lv' := [(4, .int 1), (15, .int (nI ex)), (14, .int (nI dr)), (13, .int (nI cp)), (0, .ref b), (1, .ref ax), (2, .ref am), (3, .ref ae), (5, .int x5), (7, .int (nI zv)), (9, .int p0), (10, .int y0), (11, .int h0), (12, .int (nI n))]) hx hb dL_law_195 hl (by decide) rfl (fun ls hl => ?_)
        refine lv_iload hx hb dL_law_197 (lv_at hl 13 rfl) ?_
        refine lv_bipush (v := 12) hx hb dL_law_199 (by decide) ?_
        refine lv_icmp_ge (tgt := 280) hx hb dL_law_201 (by decide) (fun c_201 => ?_) (fun c_201 => ?_)
        · exact absurd ((q_cge (y := 12) (x := nI n) (n := 12) rfl rfl (by omega) (by omega)).mp c_201) (by omega)
        · refine lv_aload_n hx hb dL_law_204 rfl (lv_at hl 6 rfl) ?_
          refine lv_iload hx hb dL_law_205 (lv_at hl 13 rfl) ?_
          refine lv_iload hx hb dL_law_207 (lv_at hl 3 rfl) ?_
          refine lv_iload hx hb dL_law_209 (lv_at hl 2 rfl) ?_
          refine lv_imul hx hb dL_law_211 ?_
          refine lv_topi (fun v_14 ev_14 => ?_)
          obtain rfl : v_14 = nI (cp * dr) := ev_14.trans (pk_mul cp dr)
          refine lv_bipush (v := 100) hx hb dL_law_212 (by decide) ?_
          refine lv_idiv hx hb dL_law_214 (by decide) ?_
          refine lv_topi (fun v_15 ev_15 => ?_)
          obtain rfl : v_15 = nI ((cp * dr) / 100) := ev_15.trans (pk_div (a := cp * dr) (d := 100) (by omega) (by omega) (by omega))
          refine lv_topi (fun v_16 ev_16 => ?_)
          obtain rfl : v_16 = nI aq9 := ev_16.trans (by rw [haq])
          refine q_iast hx hb hK hP hD hS 15 0 rfl rfl n (rfl) (hn12) (by decide) dL_law_215 (fun H locs hP hD hS => ?_)
          have hP : va_P (dC, dI) vwCl [(ax, .inr (2, [.ref ad, .ref aq, .ref aB, .ref aN, .ref aY, .ref aU, .ref aS, .int tr, .int ra, .int ca])), (ad, .inr (0, [.ref aw, .int lo, .int up, .int tp])), (aw, .inl (cI, 1002, .inl fW)), (aq, .inr (1, [.ref aP, .ref aA, .ref aT, .ref aO, .int (nI (n + 1)), .ref aE, .ref aI])), (aP, .inl (cI, 12, .inl (upd fP n p0))), (aA, .inl (cI, 12, .inl (upd fA n (nI aq9)))), (aT, .inl (cI, 12, .inl (upd fT n (nI tm)))), (aO, .inl (cI, 12, .inl (z_ord fO n (z_pl fE (nI ex) (fun k => z_n (fO k)) n)))), (aE, .inl (cI, 12, .inl (upd fE n (nI ex)))), (aI, .inl (cZ, 12, .inl fI)), (aB, .inl (cI, 8, .inl fB)), (aN, .inl (cI, 40, .inl fN)), (aY, .inl (cI, 480, .inl fY)), (aU, .inl (cI, 480, .inl fU)), (aS, .inl (cZ, 96, .inl fS)), (am, .inl (cI, 12, .inl (upd fA n (nI aq9)))), (ae, .inl (cI, 12, .inl fE))] H := hP
          have hD : va_D (fun q : Nat => s.heap.size ≤ q) [(ax, .inr (2, [.ref ad, .ref aq, .ref aB, .ref aN, .ref aY, .ref aU, .ref aS, .int tr, .int ra, .int ca])), (ad, .inr (0, [.ref aw, .int lo, .int up, .int tp])), (aw, .inl (cI, 1002, .inl fW)), (aq, .inr (1, [.ref aP, .ref aA, .ref aT, .ref aO, .int (nI (n + 1)), .ref aE, .ref aI])), (aP, .inl (cI, 12, .inl (upd fP n p0))), (aA, .inl (cI, 12, .inl (upd fA n (nI aq9)))), (aT, .inl (cI, 12, .inl (upd fT n (nI tm)))), (aO, .inl (cI, 12, .inl (z_ord fO n (z_pl fE (nI ex) (fun k => z_n (fO k)) n)))), (aE, .inl (cI, 12, .inl (upd fE n (nI ex)))), (aI, .inl (cZ, 12, .inl fI)), (aB, .inl (cI, 8, .inl fB)), (aN, .inl (cI, 40, .inl fN)), (aY, .inl (cI, 480, .inl fY)), (aU, .inl (cI, 480, .inl fU)), (aS, .inl (cZ, 96, .inl fS)), (am, .inl (cI, 12, .inl (upd fA n (nI aq9)))), (ae, .inl (cI, 12, .inl fE))] := hD
          refine lv_aload_n hx hb dL_law_216 rfl (lv_at hl 7 rfl) ?_
          refine lv_iload hx hb dL_law_217 (lv_at hl 13 rfl) ?_
          refine lv_iload hx hb dL_law_219 (lv_at hl 1 rfl) ?_
          refine q_iast hx hb hK hP hD hS 16 0 rfl rfl n (rfl) (hn12) (by decide) dL_law_221 (fun H locs hP hD hS => ?_)
          have hP : va_P (dC, dI) vwCl [(ax, .inr (2, [.ref ad, .ref aq, .ref aB, .ref aN, .ref aY, .ref aU, .ref aS, .int tr, .int ra, .int ca])), (ad, .inr (0, [.ref aw, .int lo, .int up, .int tp])), (aw, .inl (cI, 1002, .inl fW)), (aq, .inr (1, [.ref aP, .ref aA, .ref aT, .ref aO, .int (nI (n + 1)), .ref aE, .ref aI])), (aP, .inl (cI, 12, .inl (upd fP n p0))), (aA, .inl (cI, 12, .inl (upd fA n (nI aq9)))), (aT, .inl (cI, 12, .inl (upd fT n (nI tm)))), (aO, .inl (cI, 12, .inl (z_ord fO n (z_pl fE (nI ex) (fun k => z_n (fO k)) n)))), (aE, .inl (cI, 12, .inl (upd fE n (nI ex)))), (aI, .inl (cZ, 12, .inl fI)), (aB, .inl (cI, 8, .inl fB)), (aN, .inl (cI, 40, .inl fN)), (aY, .inl (cI, 480, .inl fY)), (aU, .inl (cI, 480, .inl fU)), (aS, .inl (cZ, 96, .inl fS)), (am, .inl (cI, 12, .inl (upd fA n (nI aq9)))), (ae, .inl (cI, 12, .inl (upd fE n (nI ex))))] H := hP
          have hD : va_D (fun q : Nat => s.heap.size ≤ q) [(ax, .inr (2, [.ref ad, .ref aq, .ref aB, .ref aN, .ref aY, .ref aU, .ref aS, .int tr, .int ra, .int ca])), (ad, .inr (0, [.ref aw, .int lo, .int up, .int tp])), (aw, .inl (cI, 1002, .inl fW)), (aq, .inr (1, [.ref aP, .ref aA, .ref aT, .ref aO, .int (nI (n + 1)), .ref aE, .ref aI])), (aP, .inl (cI, 12, .inl (upd fP n p0))), (aA, .inl (cI, 12, .inl (upd fA n (nI aq9)))), (aT, .inl (cI, 12, .inl (upd fT n (nI tm)))), (aO, .inl (cI, 12, .inl (z_ord fO n (z_pl fE (nI ex) (fun k => z_n (fO k)) n)))), (aE, .inl (cI, 12, .inl (upd fE n (nI ex)))), (aI, .inl (cZ, 12, .inl fI)), (aB, .inl (cI, 8, .inl fB)), (aN, .inl (cI, 40, .inl fN)), (aY, .inl (cI, 480, .inl fY)), (aU, .inl (cI, 480, .inl fU)), (aS, .inl (cZ, 96, .inl fS)), (am, .inl (cI, 12, .inl (upd fA n (nI aq9)))), (ae, .inl (cI, 12, .inl (upd fE n (nI ex))))] := hD
          have jn_239 : ∀ (v239 : Int32), v239 = (if ex = 0 then 0 else z_su (upd fA n (nI aq9)) (upd fE n (nI ex)) (nI (ex - 1)) (n + 1)) → ∀ (ls : Array Slot), lv_has ls 19 [(4, .int 1), (15, .int (nI ex)), (0, .ref b), (1, .ref ax), (2, .ref am), (3, .ref ae), (5, .int x5), (10, .int y0), (11, .int h0), (12, .int (nI n))] → W p l e room_1 s m #[Value.ref b] below meth c H locs (17 + k + 1) (2223 + 6 * k + 6) (lw_Z below #[Value.ref b] s) (F0 m 239 ls [.int v239]) := by
            intro v239 ev239  ls hl
            subst ev239
            refine lv_istore (lv' := [(16, .int (if ex = 0 then 0 else z_su (upd fA n (nI aq9)) (upd fE n (nI ex)) (nI (ex - 1)) (n + 1))), (4, .int 1), (15, .int (nI ex)), (0, .ref b), (1, .ref ax), (2, .ref am), (3, .ref ae), (5, .int x5), (10, .int y0), (11, .int h0), (12, .int (nI n))]) hx hb dL_law_239 hl (by decide) rfl (fun ls hl => ?_)
            refine lv_iload hx hb dL_law_241 (lv_at hl 1 rfl) ?_
            refine lv_if_eq (tgt := 277) hx hb dL_law_243 (by decide) (fun c_243 => ?_) (fun c_243 => ?_)
            · exact absurd c_243 (by decide)
            · refine lv_aload_n hx hb dL_law_246 rfl (lv_at hl 4 rfl) ?_
              refine lv_iload hx hb dL_law_247 (lv_at hl 2 rfl) ?_
              refine q_rSW (wc := [(ax, .inr (2, [.ref ad, .ref aq, .ref aB, .ref aN, .ref aY, .ref aU, .ref aS, .int tr, .int ra, .int ca])), (ad, .inr (0, [.ref aw, .int lo, .int up, .int tp])), (aw, .inl (cI, 1002, .inl fW)), (aq, .inr (1, [.ref aP, .ref aA, .ref aT, .ref aO, .int (nI (n + 1)), .ref aE, .ref aI])), (aP, .inl (cI, 12, .inl (upd fP n p0))), (aA, .inl (cI, 12, .inl (upd fA n (nI aq9)))), (aT, .inl (cI, 12, .inl (upd fT n (nI tm)))), (aO, .inl (cI, 12, .inl (z_ord fO n (z_pl fE (nI ex) (fun k => z_n (fO k)) n)))), (aE, .inl (cI, 12, .inl (upd fE n (nI ex)))), (aI, .inl (cZ, 12, .inl fI)), (aB, .inl (cI, 8, .inl fB)), (aN, .inl (cI, 40, .inl fN)), (aY, .inl (cI, 480, .inl fY)), (aU, .inl (cI, 480, .inl fU)), (aS, .inl (cZ, 96, .inl fS))]) (r := (z_su (upd fA n (nI aq9)) (upd fE n (nI ex)) (nI ex) (n + 1))) (As := [.ref ax, .int (nI ex)]) (rest := []) ⟨hx, hb, hml, hown, hts⟩ (c_L_supply l dC dI cI cZ cJ ax aB aN aY aU aS tr ra ca fB fN fY fU fS ad aw lo up tp fW aq aP aA aT aO aE aI (n + 1) (upd fP n p0) (upd fA n (nI aq9)) (upd fT n (nI tm)) (z_ord fO n (z_pl fE (nI ex) (fun k => z_n (fO k)) n)) (upd fE n (nI ex)) fI (nI ex) (by omega) (z_inN (a := 0) (b := 1000) (by omega) (by omega) (by omega))) (vx_cwSW 2 hts gL_law_L_supply rfl rfl rfl (by decide +kernel) ⟨Nat.le_of_ble_eq_true rfl, Nat.le_of_ble_eq_true rfl⟩) hK (hP.sub [0, 1, 2, 3, 4, 5, 6, 7, 8, 9, 10, 11, 12, 13, 14] rfl) rfl hl.1 rfl (Nat.le_of_ble_eq_true rfl) dL_law_249 ⟨show 17 + k + 1 + 0 ≤ 115 by omega, show 2223 + 6 * k + 6 + 0 ≤ 2959 by omega⟩ ?_
              refine lv_iload hx hb dL_law_252 (lv_at hl 0 rfl) ?_
              refine lv_aload_n hx hb dL_law_254 rfl (lv_at hl 5 rfl) ?_
              refine lv_iload hx hb dL_law_255 (lv_at hl 10 rfl) ?_
              refine q_iald hx hb hK hP 15 0 rfl rfl n (rfl) (by omega) (by decide) dL_law_257 ?_
              refine lv_topi (fun v_17 ev_17 => ?_)
              obtain rfl : v_17 = nI aq9 := ev_17.trans (pk_us)
              refine lv_iadd hx hb dL_law_258 ?_
              refine lv_icmp_lt (tgt := 277) hx hb dL_law_259 (by decide) (fun c_259 => ?_) (fun c_259 => ?_)
              · exact absurd c_259 (z_supp (fun j => (hJ2.2.2.1 j).2.2.1) (fun j => (hJ2.2.2.1 j).2.2.2) hn12 hex2 haq2 pk_us pk_us)
              · refine lv_aload_n hx hb dL_law_262 rfl (lv_at hl 4 rfl) ?_
                refine q_rV (wc := [(ax, .inr (2, [.ref ad, .ref aq, .ref aB, .ref aN, .ref aY, .ref aU, .ref aS, .int tr, .int ra, .int ca])), (ad, .inr (0, [.ref aw, .int lo, .int up, .int tp])), (aw, .inl (cI, 1002, .inl fW)), (aq, .inr (1, [.ref aP, .ref aA, .ref aT, .ref aO, .int (nI (n + 1)), .ref aE, .ref aI])), (aP, .inl (cI, 12, .inl (upd fP n p0))), (aA, .inl (cI, 12, .inl (upd fA n (nI aq9)))), (aT, .inl (cI, 12, .inl (upd fT n (nI tm)))), (aO, .inl (cI, 12, .inl (z_ord fO n (z_pl fE (nI ex) (fun k => z_n (fO k)) n)))), (aE, .inl (cI, 12, .inl (upd fE n (nI ex)))), (aI, .inl (cZ, 12, .inl fI)), (aB, .inl (cI, 8, .inl fB)), (aN, .inl (cI, 40, .inl fN)), (aY, .inl (cI, 480, .inl fY)), (aU, .inl (cI, 480, .inl fU)), (aS, .inl (cZ, 96, .inl fS))]) (r := (nI (n + 1))) (As := []) (rest := []) ⟨hx, hb, hml, hown, hts⟩ (c_X2_offers l dC dI cI cZ cJ ax aB aN aY aU aS tr ra ca fB fN fY fU fS ad aw lo up tp fW aq aP aA aT aO aE aI (n + 1) (upd fP n p0) (upd fA n (nI aq9)) (upd fT n (nI tm)) (z_ord fO n (z_pl fE (nI ex) (fun k => z_n (fO k)) n)) (upd fE n (nI ex)) fI) (cwV 0 hts gL_law_X2_offers rfl rfl rfl (by decide +kernel) ⟨Nat.le_of_ble_eq_true rfl, Nat.le_of_ble_eq_true rfl⟩) hK (hP.sub [0, 1, 2, 3, 4, 5, 6, 7, 8, 9, 10, 11, 12, 13, 14] rfl) 2 0 rfl rfl rfl rfl hl.1 rfl (Nat.le_of_ble_eq_true rfl) dL_law_263 ⟨show 17 + k + 1 + 0 ≤ 115 by omega, show 2223 + 6 * k + 6 + 0 ≤ 2959 by omega⟩ ?_
                refine lv_iload hx hb dL_law_266 (lv_at hl 10 rfl) ?_
                refine lv_iconst (v := 1) hx hb dL_law_268 (by decide) ?_
                refine lv_iadd hx hb dL_law_269 ?_
                refine lv_topi (fun v_18 ev_18 => ?_)
                obtain rfl : v_18 = nI (n + 1) := ev_18.trans (nI_add n 1)
                refine lv_icmp_ne (tgt := 277) hx hb dL_law_270 (by decide) (fun c_270 => ?_) (fun c_270 => ?_)
                · exact absurd rfl c_270
                · refine lv_iconst (v := 1) hx hb dL_law_273 (by decide) ?_
                  refine lv_goto (tgt := 278) hx hb dL_law_274 (by decide) ?_
                  refine lv_istore (lv' := [(4, .int 1), (16, .int (if ex = 0 then 0 else z_su (upd fA n (nI aq9)) (upd fE n (nI ex)) (nI (ex - 1)) (n + 1))), (15, .int (nI ex)), (0, .ref b), (1, .ref ax), (2, .ref am), (3, .ref ae), (5, .int x5), (10, .int y0), (11, .int h0), (12, .int (nI n))]) hx hb dL_law_278 hl (by decide) rfl (fun ls hl => ?_)
                  refine lv_goto (tgt := 970) hx hb dL_law_280 (by decide) ?_
                  exact hnext tr ra ca fB fN fY fU fS lo up tp fW (n + 1) (upd fP n p0) (upd fA n (nI aq9)) (upd fT n (nI tm)) (z_ord fO n (z_pl fE (nI ex) (fun k => z_n (fO k)) n)) (upd fE n (nI ex)) fI _ _ hP hD hS (hJ2) ls (lv_sub hl [3, 4, 5, 6, 0, 7, 8, 9] rfl)
          refine lv_iload hx hb dL_law_222 (lv_at hl 1 rfl) ?_
          refine lv_if_ne (tgt := 231) hx hb dL_law_224 (by decide) (fun c_224 => ?_) (fun c_224 => ?_)
          · have hex1 : 1 ≤ ex := by have h9 : ex ≠ 0 := (fun h8 => c_224 (by rw [h8]; rfl)); omega
            refine lv_aload_n hx hb dL_law_231 rfl (lv_at hl 5 rfl) ?_
            refine lv_iload hx hb dL_law_232 (lv_at hl 1 rfl) ?_
            refine lv_iconst (v := 1) hx hb dL_law_234 (by decide) ?_
            refine lv_isub hx hb dL_law_235 ?_
            refine lv_topi (fun v_19 ev_19 => ?_)
            obtain rfl : v_19 = nI (ex - 1) := ev_19.trans (pk_sub (b := 1) hex1)
            refine q_rSW (wc := [(ax, .inr (2, [.ref ad, .ref aq, .ref aB, .ref aN, .ref aY, .ref aU, .ref aS, .int tr, .int ra, .int ca])), (ad, .inr (0, [.ref aw, .int lo, .int up, .int tp])), (aw, .inl (cI, 1002, .inl fW)), (aq, .inr (1, [.ref aP, .ref aA, .ref aT, .ref aO, .int (nI (n + 1)), .ref aE, .ref aI])), (aP, .inl (cI, 12, .inl (upd fP n p0))), (aA, .inl (cI, 12, .inl (upd fA n (nI aq9)))), (aT, .inl (cI, 12, .inl (upd fT n (nI tm)))), (aO, .inl (cI, 12, .inl (z_ord fO n (z_pl fE (nI ex) (fun k => z_n (fO k)) n)))), (aE, .inl (cI, 12, .inl (upd fE n (nI ex)))), (aI, .inl (cZ, 12, .inl fI)), (aB, .inl (cI, 8, .inl fB)), (aN, .inl (cI, 40, .inl fN)), (aY, .inl (cI, 480, .inl fY)), (aU, .inl (cI, 480, .inl fU)), (aS, .inl (cZ, 96, .inl fS))]) (r := (z_su (upd fA n (nI aq9)) (upd fE n (nI ex)) (nI (ex - 1)) (n + 1))) (As := [.ref ax, .int (nI (ex - 1))]) (rest := []) ⟨hx, hb, hml, hown, hts⟩ (c_L_supply l dC dI cI cZ cJ ax aB aN aY aU aS tr ra ca fB fN fY fU fS ad aw lo up tp fW aq aP aA aT aO aE aI (n + 1) (upd fP n p0) (upd fA n (nI aq9)) (upd fT n (nI tm)) (z_ord fO n (z_pl fE (nI ex) (fun k => z_n (fO k)) n)) (upd fE n (nI ex)) fI (nI (ex - 1)) (by omega) (z_inN (a := 0) (b := 1000) (by omega) (by omega) (by omega))) (vx_cwSW 2 hts gL_law_L_supply rfl rfl rfl (by decide +kernel) ⟨Nat.le_of_ble_eq_true rfl, Nat.le_of_ble_eq_true rfl⟩) hK (hP.sub [0, 1, 2, 3, 4, 5, 6, 7, 8, 9, 10, 11, 12, 13, 14] rfl) rfl hl.1 rfl (Nat.le_of_ble_eq_true rfl) dL_law_236 ⟨show 17 + k + 1 + 0 ≤ 115 by omega, show 2223 + 6 * k + 6 + 0 ≤ 2959 by omega⟩ ?_
            exact jn_239 (z_su (upd fA n (nI aq9)) (upd fE n (nI ex)) (nI (ex - 1)) (n + 1)) (by rw [if_neg (by omega)])  ls (lv_sub hl [0, 1, 4, 5, 6, 7, 8, 11, 12, 13] rfl)
          · have hex0 : ex = 0 := (nI_eq (a := ex) (b := 0) (by omega) (by omega)).mp c_224
            refine lv_iconst (v := 0) hx hb dL_law_227 (by decide) ?_
            refine lv_goto (tgt := 239) hx hb dL_law_228 (by decide) ?_
            exact jn_239 0 (by rw [if_pos hex0])  ls (lv_sub hl [0, 1, 4, 5, 6, 7, 8, 11, 12, 13] rfl)
  · have hcc : z_cd (z_in p0 0 4) (z_in (nI cp) 1 300 && z_in (nI dr) 0 100 && z_in (nI ex) 0 1000 && z_in (nI tm) 1 4) (!decide (12 ≤ n)) = nI 3 := z_cd3 hp4 hB9 (by rw [decide_eq_true (show 12 ≤ n by omega)]; rfl)
    have hok9 : ¬ z_cd (z_in p0 0 4) (z_in (nI cp) 1 300 && z_in (nI dr) 0 100 && z_in (nI ex) 0 1000 && z_in (nI tm) 1 4) (!decide (12 ≤ n)) = 0 := fun h9 => absurd (hcc.symm.trans h9) (by decide)
    refine lv_iconst (v := 1) hx hb dL_law_123 (by decide) ?_
    refine lv_iload hx hb dL_law_124 (lv_at hl 6 rfl) ?_
    refine lv_bipush (v := 120) hx hb dL_law_126 (by decide) ?_
    refine lv_irem hx hb dL_law_128 (by decide) ?_
    refine lv_topi (fun v_20 ev_20 => ?_)
    obtain rfl : v_20 = nI (zv % 120) := ev_20.trans (pk_rem (a := zv) (d := 120) (by omega) (by omega) (by omega))
    refine lv_iadd hx hb dL_law_129 ?_
    refine lv_topi (fun v_21 ev_21 => ?_)
    obtain rfl : v_21 = nI (1 + (zv % 120)) := ev_21.trans (nI_add 1 (zv % 120))
    refine lv_topi (fun v_22 ev_22 => ?_)
    obtain rfl : v_22 = nI cp := ev_22.trans (by rw [hcp])
    refine lv_istore (lv' := [(13, .int (nI cp)), (0, .ref b), (1, .ref ax), (2, .ref am), (3, .ref ae), (4, .int 1), (5, .int x5), (7, .int (nI zv)), (9, .int p0), (10, .int y0), (11, .int h0), (12, .int (nI n))]) hx hb dL_law_130 hl (by decide) rfl (fun ls hl => ?_)
    refine lv_iload hx hb dL_law_132 (lv_at hl 7 rfl) ?_
    refine lv_bipush (v := 120) hx hb dL_law_134 (by decide) ?_
    refine lv_idiv hx hb dL_law_136 (by decide) ?_
    refine lv_topi (fun v_23 ev_23 => ?_)
    obtain rfl : v_23 = nI (zv / 120) := ev_23.trans (pk_div (a := zv) (d := 120) (by omega) (by omega) (by omega))
    refine lv_bipush (v := 101) hx hb dL_law_137 (by decide) ?_
    refine lv_irem hx hb dL_law_139 (by decide) ?_
    refine lv_topi (fun v_24 ev_24 => ?_)
    obtain rfl : v_24 = nI ((zv / 120) % 101) := ev_24.trans (pk_rem (a := zv / 120) (d := 101) (by omega) (by omega) (by omega))
    refine lv_topi (fun v_25 ev_25 => ?_)
    obtain rfl : v_25 = nI dr := ev_25.trans (by rw [hdr])
    refine lv_istore (lv' := [(14, .int (nI dr)), (13, .int (nI cp)), (0, .ref b), (1, .ref ax), (2, .ref am), (3, .ref ae), (4, .int 1), (5, .int x5), (7, .int (nI zv)), (9, .int p0), (10, .int y0), (11, .int h0), (12, .int (nI n))]) hx hb dL_law_140 hl (by decide) rfl (fun ls hl => ?_)
    refine lv_iload hx hb dL_law_142 (lv_at hl 8 rfl) ?_
    refine lv_bipush (v := 11) hx hb dL_law_144 (by decide) ?_
    refine lv_idiv hx hb dL_law_146 (by decide) ?_
    refine lv_topi (fun v_26 ev_26 => ?_)
    obtain rfl : v_26 = nI (zv / 11) := ev_26.trans (pk_div (a := zv) (d := 11) (by omega) (by omega) (by omega))
    refine lv_bipush (v := 70) hx hb dL_law_147 (by decide) ?_
    refine lv_irem hx hb dL_law_149 (by decide) ?_
    refine lv_topi (fun v_27 ev_27 => ?_)
    obtain rfl : v_27 = nI ((zv / 11) % 70) := ev_27.trans (pk_rem (a := zv / 11) (d := 70) (by omega) (by omega) (by omega))
    refine lv_topi (fun v_28 ev_28 => ?_)
    obtain rfl : v_28 = nI ex := ev_28.trans (by rw [hex])
    refine lv_istore (lv' := [(15, .int (nI ex)), (14, .int (nI dr)), (13, .int (nI cp)), (0, .ref b), (1, .ref ax), (2, .ref am), (3, .ref ae), (4, .int 1), (5, .int x5), (7, .int (nI zv)), (9, .int p0), (10, .int y0), (11, .int h0), (12, .int (nI n))]) hx hb dL_law_150 hl (by decide) rfl (fun ls hl => ?_)
    refine lv_aload_n hx hb dL_law_152 rfl (lv_at hl 4 rfl) ?_
    refine lv_iload hx hb dL_law_153 (lv_at hl 10 rfl) ?_
    refine lv_iload hx hb dL_law_155 (lv_at hl 2 rfl) ?_
    refine lv_iload hx hb dL_law_157 (lv_at hl 1 rfl) ?_
    refine lv_iload hx hb dL_law_159 (lv_at hl 0 rfl) ?_
    refine lv_iconst (v := 1) hx hb dL_law_161 (by decide) ?_
    refine lv_iload hx hb dL_law_162 (lv_at hl 9 rfl) ?_
    refine lv_bipush (v := 7) hx hb dL_law_164 (by decide) ?_
    refine lv_idiv hx hb dL_law_166 (by decide) ?_
    refine lv_topi (fun v_29 ev_29 => ?_)
    obtain rfl : v_29 = nI (zv / 7) := ev_29.trans (pk_div (a := zv) (d := 7) (by omega) (by omega) (by omega))
    refine lv_iconst (v := 4) hx hb dL_law_167 (by decide) ?_
    refine lv_irem hx hb dL_law_168 (by decide) ?_
    refine lv_topi (fun v_30 ev_30 => ?_)
    obtain rfl : v_30 = nI ((zv / 7) % 4) := ev_30.trans (pk_rem (a := zv / 7) (d := 4) (by omega) (by omega) (by omega))
    refine lv_iadd hx hb dL_law_169 ?_
    refine lv_topi (fun v_31 ev_31 => ?_)
    obtain rfl : v_31 = nI (1 + ((zv / 7) % 4)) := ev_31.trans (nI_add 1 ((zv / 7) % 4))
    refine lv_topi (fun v_32 ev_32 => ?_)
    obtain rfl : v_32 = nI tm := ev_32.trans (by rw [htm])
    refine q_wSW (ws := [(ax, .inr (2, [.ref ad, .ref aq, .ref aB, .ref aN, .ref aY, .ref aU, .ref aS, .int tr, .int ra, .int ca])), (ad, .inr (0, [.ref aw, .int lo, .int up, .int tp])), (aw, .inl (cI, 1002, .inl fW)), (aq, .inr (1, [.ref aP, .ref aA, .ref aT, .ref aO, .int (nI n), .ref aE, .ref aI])), (aP, .inl (cI, 12, .inl fP)), (aA, .inl (cI, 12, .inl fA)), (aT, .inl (cI, 12, .inl fT)), (aO, .inl (cI, 12, .inl fO)), (aE, .inl (cI, 12, .inl fE)), (aI, .inl (cZ, 12, .inl fI)), (aB, .inl (cI, 8, .inl fB)), (aN, .inl (cI, 40, .inl fN)), (aY, .inl (cI, 480, .inl fY)), (aU, .inl (cI, 480, .inl fU)), (aS, .inl (cZ, 96, .inl fS)), (am, .inl (cI, 12, .inl fA)), (ae, .inl (cI, 12, .inl fE))]) (wc := [(ax, .inr (2, [.ref ad, .ref aq, .ref aB, .ref aN, .ref aY, .ref aU, .ref aS, .int tr, .int ra, .int ca])), (ad, .inr (0, [.ref aw, .int lo, .int up, .int tp])), (aw, .inl (cI, 1002, .inl fW)), (aq, .inr (1, [.ref aP, .ref aA, .ref aT, .ref aO, .int (nI n), .ref aE, .ref aI])), (aP, .inl (cI, 12, .inl fP)), (aA, .inl (cI, 12, .inl fA)), (aT, .inl (cI, 12, .inl fT)), (aO, .inl (cI, 12, .inl fO)), (aE, .inl (cI, 12, .inl fE)), (aI, .inl (cZ, 12, .inl fI)), (aB, .inl (cI, 8, .inl fB)), (aN, .inl (cI, 40, .inl fN)), (aY, .inl (cI, 480, .inl fY)), (aU, .inl (cI, 480, .inl fU)), (aS, .inl (cZ, 96, .inl fS))]) (wc' := [(ax, .inr (2, [.ref ad, .ref aq, .ref aB, .ref aN, .ref aY, .ref aU, .ref aS, .int tr, .int ra, .int ca])), (ad, .inr (0, [.ref aw, .int lo, .int up, .int tp])), (aw, .inl (cI, 1002, .inl fW)), (aq, .inr (1, [.ref aP, .ref aA, .ref aT, .ref aO, .int (nI n), .ref aE, .ref aI])), (aP, .inl (cI, 12, .inl fP)), (aA, .inl (cI, 12, .inl fA)), (aT, .inl (cI, 12, .inl fT)), (aO, .inl (cI, 12, .inl fO)), (aE, .inl (cI, 12, .inl fE)), (aI, .inl (cZ, 12, .inl fI)), (aB, .inl (cI, 8, .inl fB)), (aN, .inl (cI, 40, .inl fN)), (aY, .inl (cI, 480, .inl fY)), (aU, .inl (cI, 480, .inl fU)), (aS, .inl (cZ, 96, .inl fS))]) (ws' := [(ax, .inr (2, [.ref ad, .ref aq, .ref aB, .ref aN, .ref aY, .ref aU, .ref aS, .int tr, .int ra, .int ca])), (ad, .inr (0, [.ref aw, .int lo, .int up, .int tp])), (aw, .inl (cI, 1002, .inl fW)), (aq, .inr (1, [.ref aP, .ref aA, .ref aT, .ref aO, .int (nI n), .ref aE, .ref aI])), (aP, .inl (cI, 12, .inl fP)), (aA, .inl (cI, 12, .inl fA)), (aT, .inl (cI, 12, .inl fT)), (aO, .inl (cI, 12, .inl fO)), (aE, .inl (cI, 12, .inl fE)), (aI, .inl (cZ, 12, .inl fI)), (aB, .inl (cI, 8, .inl fB)), (aN, .inl (cI, 40, .inl fN)), (aY, .inl (cI, 480, .inl fY)), (aU, .inl (cI, 480, .inl fU)), (aS, .inl (cZ, 96, .inl fS)), (am, .inl (cI, 12, .inl fA)), (ae, .inl (cI, 12, .inl fE))]) (r := (-100 - z_cd (z_in p0 0 4) (z_in (nI cp) 1 300 && z_in (nI dr) 0 100 && z_in (nI ex) 0 1000 && z_in (nI tm) 1 4) (!decide (12 ≤ n)))) (As := [.ref ax, .int p0, .int (nI cp), .int (nI dr), .int (nI ex), .int (nI tm)]) (rest := []) ⟨hx, hb, hml, hown, hts⟩ (n_L_offer l dC dI cI cZ cJ hfl ax aB aN aY aU aS tr ra ca fB fN fY fU fS ad aw lo up tp fW aq aP aA aT aO aE aI n fP fA fT fO fE fI p0 (nI cp) (nI dr) (nI ex) (nI tm) (fun k => z_n (fO k)) jn jO hok9) (vx_cwSW 6 hts gL_law_L_offer rfl rfl rfl (by decide +kernel) ⟨Nat.le_of_ble_eq_true rfl, Nat.le_of_ble_eq_true rfl⟩) hK (hXL.at hS) hNC hP hD hS [0, 1, 2, 3, 4, 5, 6, 7, 8, 9, 10, 11, 12, 13, 14] rfl (by decide) [(true, 0), (true, 1), (true, 2), (true, 3), (true, 4), (true, 5), (true, 6), (true, 7), (true, 8), (true, 9), (true, 10), (true, 11), (true, 12), (true, 13), (true, 14), (false, 15), (false, 16)] rfl (by decide) rfl rfl hl.1 rfl (Nat.le_of_ble_eq_true rfl) dL_law_170 ⟨show 17 + k + 1 ≤ 115 by omega, show 2223 + 6 * k + 6 ≤ 2959 by omega⟩ (fun H locs hP hD hS => ?_)
    have hP : va_P (dC, dI) vwCl [(ax, .inr (2, [.ref ad, .ref aq, .ref aB, .ref aN, .ref aY, .ref aU, .ref aS, .int tr, .int ra, .int ca])), (ad, .inr (0, [.ref aw, .int lo, .int up, .int tp])), (aw, .inl (cI, 1002, .inl fW)), (aq, .inr (1, [.ref aP, .ref aA, .ref aT, .ref aO, .int (nI n), .ref aE, .ref aI])), (aP, .inl (cI, 12, .inl fP)), (aA, .inl (cI, 12, .inl fA)), (aT, .inl (cI, 12, .inl fT)), (aO, .inl (cI, 12, .inl fO)), (aE, .inl (cI, 12, .inl fE)), (aI, .inl (cZ, 12, .inl fI)), (aB, .inl (cI, 8, .inl fB)), (aN, .inl (cI, 40, .inl fN)), (aY, .inl (cI, 480, .inl fY)), (aU, .inl (cI, 480, .inl fU)), (aS, .inl (cZ, 96, .inl fS)), (am, .inl (cI, 12, .inl fA)), (ae, .inl (cI, 12, .inl fE))] H := hP
    have hD : va_D (fun q : Nat => s.heap.size ≤ q) [(ax, .inr (2, [.ref ad, .ref aq, .ref aB, .ref aN, .ref aY, .ref aU, .ref aS, .int tr, .int ra, .int ca])), (ad, .inr (0, [.ref aw, .int lo, .int up, .int tp])), (aw, .inl (cI, 1002, .inl fW)), (aq, .inr (1, [.ref aP, .ref aA, .ref aT, .ref aO, .int (nI n), .ref aE, .ref aI])), (aP, .inl (cI, 12, .inl fP)), (aA, .inl (cI, 12, .inl fA)), (aT, .inl (cI, 12, .inl fT)), (aO, .inl (cI, 12, .inl fO)), (aE, .inl (cI, 12, .inl fE)), (aI, .inl (cZ, 12, .inl fI)), (aB, .inl (cI, 8, .inl fB)), (aN, .inl (cI, 40, .inl fN)), (aY, .inl (cI, 480, .inl fY)), (aU, .inl (cI, 480, .inl fU)), (aS, .inl (cZ, 96, .inl fS)), (am, .inl (cI, 12, .inl fA)), (ae, .inl (cI, 12, .inl fE))] := hD
    refine W.eq (g2 := F0 m 173 ls [.int (-100 - z_cd (z_in p0 0 4) (z_in (nI cp) 1 300 && z_in (nI dr) 0 100 && z_in (nI ex) 0 1000 && z_in (nI tm) 1 4) (!decide (12 ≤ n)))]) rfl ?_
    refine lv_topi (fun v_33 ev_33 => ?_)
    obtain rfl : v_33 = -103 := ev_33.trans (by rw [hcc]; decide)
    refine lv_iload hx hb dL_law_173 (lv_at hl 13 rfl) ?_
    refine lv_bipush (v := 12) hx hb dL_law_175 (by decide) ?_
    refine lv_icmp_ge (tgt := 185) hx hb dL_law_177 (by decide) (fun c_177 => ?_) (fun c_177 => ?_)
    · refine lv_bipush (v := (-103)) hx hb dL_law_185 (by decide) ?_
      refine lv_icmp_ne (tgt := 194) hx hb dL_law_187 (by decide) (fun c_187 => ?_) (fun c_187 => ?_)
      · exact absurd rfl c_187
      · refine lv_iconst (v := 1) hx hb dL_law_190 (by decide) ?_
        refine lv_goto (tgt := 195) hx hb dL_law_191 (by decide) ?_
        refine lv_istore (lv' := [(4, .int 1), (15, .int (nI ex)), (14, .int (nI dr)), (13, .int (nI cp)), (0, .ref b), (1, .ref ax), (2, .ref am), (3, .ref ae), (5, .int x5), (7, .int (nI zv)), (9, .int p0), (10, .int y0), (11, .int h0), (12, .int (nI n))]) hx hb dL_law_195 hl (by decide) rfl (fun ls hl => ?_)
        refine lv_iload hx hb dL_law_197 (lv_at hl 13 rfl) ?_
        refine lv_bipush (v := 12) hx hb dL_law_199 (by decide) ?_
        refine lv_icmp_ge (tgt := 280) hx hb dL_law_201 (by decide) (fun c_201 => ?_) (fun c_201 => ?_)
        · refine lv_goto (tgt := 970) hx hb dL_law_280 (by decide) ?_
          exact hnext tr ra ca fB fN fY fU fS lo up tp fW n fP fA fT fO fE fI _ _ hP hD hS (z_Kmono hJ) ls (lv_sub hl [4, 5, 6, 7, 0, 8, 11, 12] rfl)
        · exact absurd ((q_cge (y := 12) (x := nI n) (n := 12) rfl rfl (by omega) (by omega)).mpr (by omega)) c_201
    · exact absurd ((q_cge (y := 12) (x := nI n) (n := 12) rfl rfl (by omega) (by omega)).mpr (by omega)) c_177
set_option maxHeartbeats 4000000 in
set_option maxRecDepth 100000 in
theorem lc_demand {p : Program} {l : Launch} {e : Env} {s : State} {m : MethodId} {below : List Frame} {meth : Method} {c : Code} {b : Nat} {dC : Nat → ClassId} {dI : Nat → Nat → Nat} {cI cZ cJ : ClassId} (hfl : l.stackTraces = false) (hx : p.tables.exec = Jvm.exec) (hb : c.code = code) (hml : c.maxLocals = 19) (hown : s.vm.findClass RL = some m.cls) (hts : ∀ w ∈ wsL_law, w.before #[Value.ref b] s = true) (hXL : q_XKL s) (hNC : q_NC s) (hK : va_K (dC, dI) vwCl (q_T cI cZ cJ) s) {ax aB aN aY aU aS ad aw aq aP aA aT aO aE aI am ae : Nat} {tr ra ca : Int32} {fB fN fY fU fS : Nat → Int32} {lo up tp : Int32} {fW : Nat → Int32} {n : Nat} {fP fA fT fO fE fI : Nat → Int32} {k : Nat} (hk : k < 50) {x5 y0 h0 : Int32} (hy7 : z_in y0 0 7 = true) (hh11 : z_in h0 0 11 = true)  {zv : Nat} (hzv : zv < 2 ^ 28) {p0 : Int32} (hp4 : z_in p0 0 4 = true) (hJ : z_K k ra ca fW n fP fA fT fO fE fB fN fY fU) {H : Heap} {locs : List Loc} (hP : va_P (dC, dI) vwCl [(ax, .inr (2, [.ref ad, .ref aq, .ref aB, .ref aN, .ref aY, .ref aU, .ref aS, .int tr, .int ra, .int ca])), (ad, .inr (0, [.ref aw, .int lo, .int up, .int tp])), (aw, .inl (cI, 1002, .inl fW)), (aq, .inr (1, [.ref aP, .ref aA, .ref aT, .ref aO, .int (nI n), .ref aE, .ref aI])), (aP, .inl (cI, 12, .inl fP)), (aA, .inl (cI, 12, .inl fA)), (aT, .inl (cI, 12, .inl fT)), (aO, .inl (cI, 12, .inl fO)), (aE, .inl (cI, 12, .inl fE)), (aI, .inl (cZ, 12, .inl fI)), (aB, .inl (cI, 8, .inl fB)), (aN, .inl (cI, 40, .inl fN)), (aY, .inl (cI, 480, .inl fY)), (aU, .inl (cI, 480, .inl fU)), (aS, .inl (cZ, 96, .inl fS)), (am, .inl (cI, 12, .inl fA)), (ae, .inl (cI, 12, .inl fE))] H) (hD : va_D (fun q : Nat => s.heap.size ≤ q) [(ax, .inr (2, [.ref ad, .ref aq, .ref aB, .ref aN, .ref aY, .ref aU, .ref aS, .int tr, .int ra, .int ca])), (ad, .inr (0, [.ref aw, .int lo, .int up, .int tp])), (aw, .inl (cI, 1002, .inl fW)), (aq, .inr (1, [.ref aP, .ref aA, .ref aT, .ref aO, .int (nI n), .ref aE, .ref aI])), (aP, .inl (cI, 12, .inl fP)), (aA, .inl (cI, 12, .inl fA)), (aT, .inl (cI, 12, .inl fT)), (aO, .inl (cI, 12, .inl fO)), (aE, .inl (cI, 12, .inl fE)), (aI, .inl (cZ, 12, .inl fI)), (aB, .inl (cI, 8, .inl fB)), (aN, .inl (cI, 40, .inl fN)), (aY, .inl (cI, 480, .inl fY)), (aU, .inl (cI, 480, .inl fU)), (aS, .inl (cZ, 96, .inl fS)), (am, .inl (cI, 12, .inl fA)), (ae, .inl (cI, 12, .inl fE))]) (hS : va_S (fun q : Nat => s.heap.size ≤ q) s.heap H locs) {ls : Array Slot} (hl : lv_has ls 19 [(0, .ref b), (1, .ref ax), (2, .ref am), (3, .ref ae), (4, .int 1), (5, .int x5), (7, .int (nI zv)), (9, .int p0), (10, .int y0), (11, .int h0), (12, .int (nI n))])
    (hnext : lw_N1 p l e s m below meth c b dC dI cI cZ cJ ax aB aN aY aU aS ad aw aq aP aA aT aO aE aI am ae x5 y0 h0 k) : W p l e room_1 s m #[Value.ref b] below meth c H locs (17 + k) (2223 + 6 * k) (lw_Z below #[Value.ref b] s) (F0 m 290 ls []) := by
  obtain ⟨j0, jn, jO, jor, jof, jA, jE, jlv, jB⟩ := z_Kall hJ
  obtain ⟨hy, hy8⟩ := z_Y hy7
  obtain ⟨hh, hh12⟩ := z_H hh11
  obtain ⟨lw9, hlw⟩ : ∃ v, v = zv % 120 := ⟨_, rfl⟩
  obtain ⟨uq, huq⟩ : ∃ v, v = lw9 + 1 + zv / 120 % 300 := ⟨_, rfl⟩
  obtain ⟨tq, htq⟩ : ∃ v, v = 1 + zv / 36000 % 99 := ⟨_, rfl⟩
  obtain ⟨uu, huu⟩ : ∃ v, v = 1 + zv % 500 := ⟨_, rfl⟩
  have hok9 : (z_in (nI lw9) 0 1000 && z_in (nI uq) (nI lw9 + 1) 1001 && z_in (nI tq) 1 1000) = true := by
    rw [q_nI1, show z_in (nI lw9) 0 1000 = true from z_inN (a := 0) (b := 1000) (by omega) (by omega) (by omega), show z_in (nI uq) (nI (lw9 + 1)) 1001 = true from z_inN (b := 1001) (by omega) (by omega) (by omega), show z_in (nI tq) 1 1000 = true from z_inN (a := 1) (b := 1000) (by omega) (by omega) (by omega)]; rfl
  obtain ⟨f1, f2, f3⟩ := z_fall (l := lw9) (u := uq) (t := tq) (x := uu) j0 (by omega) (by omega) (by omega) (by omega) (by omega) (by omega)
  have g1 : z_in (nI uu) 1 10000 = true := z_inN (a := 1) (b := 10000) (by omega) (by omega) (by omega)
  have g2 : z_in (nI uu + 1) 1 10000 = true := by rw [q_nI1]; exact z_inN (a := 1) (b := 10000) (by omega) (by omega) (by omega)
  have g3 : z_in (nI uu) 0 10000 = true := z_inN (a := 0) (b := 10000) (by omega) (by omega) (by omega)
  have g4 : z_in (nI uu - 1) 0 10000 = true := by rw [show nI uu - 1 = nI (uu - 1) from pk_sub (b := 1) (by omega)]; exact z_inN (a := 0) (b := 10000) (by omega) (by omega) (by omega)
  refine W.widen (k := 17 + k + 1) (n := 2223 + 6 * k + 6) (by omega) (by omega) ?_
  refine lv_iload hx hb dL_law_290 (lv_at hl 6 rfl) ?_
  refine lv_bipush (v := 120) hx hb dL_law_292 (by decide) ?_
  refine lv_irem hx hb dL_law_294 (by decide) ?_
  refine lv_topi (fun v_1 ev_1 => ?_)
  obtain rfl : v_1 = nI (zv % 120) := ev_1.trans (pk_rem (a := zv) (d := 120) (by omega) (by omega) (by omega))
  refine lv_topi (fun v_2 ev_2 => ?_)
  obtain rfl : v_2 = nI lw9 := ev_2.trans (by rw [hlw])
  refine lv_istore (lv' := [(13, .int (nI lw9)), (0, .ref b), (1, .ref ax), (2, .ref am), (3, .ref ae), (4, .int 1), (5, .int x5), (7, .int (nI zv)), (9, .int p0), (10, .int y0), (11, .int h0), (12, .int (nI n))]) hx hb dL_law_295 hl (by decide) rfl (fun ls hl => ?_)
  refine lv_aload_n hx hb dL_law_297 rfl (lv_at hl 2 rfl) ?_
  refine lv_iload hx hb dL_law_298 (lv_at hl 0 rfl) ?_
  refine lv_iload hx hb dL_law_300 (lv_at hl 0 rfl) ?_
  refine lv_iconst (v := 1) hx hb dL_law_302 (by decide) ?_
  refine lv_iadd hx hb dL_law_303 ?_
  refine lv_topi (fun v_3 ev_3 => ?_)
  obtain rfl : v_3 = nI (lw9 + 1) := ev_3.trans (nI_add lw9 1)
  refine lv_iload hx hb dL_law_304 (lv_at hl 7 rfl) ?_
  refine lv_bipush (v := 120) hx hb dL_law_306 (by decide) ?_
  refine lv_idiv hx hb dL_law_308 (by decide) ?_
  refine lv_topi (fun v_4 ev_4 => ?_)
  obtain rfl : v_4 = nI (zv / 120) := ev_4.trans (pk_div (a := zv) (d := 120) (by omega) (by omega) (by omega))
  refine lv_sipush (v := 300) hx hb dL_law_309 (by decide) ?_
  refine lv_irem hx hb dL_law_312 (by decide) ?_
  refine lv_topi (fun v_5 ev_5 => ?_)
  obtain rfl : v_5 = nI ((zv / 120) % 300) := ev_5.trans (pk_rem (a := zv / 120) (d := 300) (by omega) (by omega) (by omega))
  refine lv_iadd hx hb dL_law_313 ?_
  refine lv_topi (fun v_6 ev_6 => ?_)
  obtain rfl : v_6 = nI ((lw9 + 1) + ((zv / 120) % 300)) := ev_6.trans (nI_add (lw9 + 1) ((zv / 120) % 300))
  refine lv_topi (fun v_7 ev_7 => ?_)
  obtain rfl : v_7 = nI uq := ev_7.trans (by rw [huq])
  refine lv_iconst (v := 1) hx hb dL_law_314 (by decide) ?_
  refine lv_iload hx hb dL_law_315 (lv_at hl 7 rfl) ?_
  refine lv_ldc (v := 36000) hx hb hown (hts (.constant RL 120 (36000)) (by decide +kernel)) dL_law_317 ?_
  refine lv_idiv hx hb dL_law_319 (by decide) ?_
  refine lv_topi (fun v_8 ev_8 => ?_)
  obtain rfl : v_8 = nI (zv / 36000) := ev_8.trans (pk_div (a := zv) (d := 36000) (by omega) (by omega) (by omega))
  refine lv_bipush (v := 99) hx hb dL_law_320 (by decide) ?_
  refine lv_irem hx hb dL_law_322 (by decide) ?_
  refine lv_topi (fun v_9 ev_9 => ?_)
  obtain rfl : v_9 = nI ((zv / 36000) % 99) := ev_9.trans (pk_rem (a := zv / 36000) (d := 99) (by omega) (by omega) (by omega))
  refine lv_iadd hx hb dL_law_323 ?_
  refine lv_topi (fun v_10 ev_10 => ?_)
  obtain rfl : v_10 = nI (1 + ((zv / 36000) % 99)) := ev_10.trans (nI_add 1 ((zv / 36000) % 99))
  refine lv_topi (fun v_11 ev_11 => ?_)
  obtain rfl : v_11 = nI tq := ev_11.trans (by rw [htq])
  refine q_wSW0 (ws := [(ax, .inr (2, [.ref ad, .ref aq, .ref aB, .ref aN, .ref aY, .ref aU, .ref aS, .int tr, .int ra, .int ca])), (ad, .inr (0, [.ref aw, .int lo, .int up, .int tp])), (aw, .inl (cI, 1002, .inl fW)), (aq, .inr (1, [.ref aP, .ref aA, .ref aT, .ref aO, .int (nI n), .ref aE, .ref aI])), (aP, .inl (cI, 12, .inl fP)), (aA, .inl (cI, 12, .inl fA)), (aT, .inl (cI, 12, .inl fT)), (aO, .inl (cI, 12, .inl fO)), (aE, .inl (cI, 12, .inl fE)), (aI, .inl (cZ, 12, .inl fI)), (aB, .inl (cI, 8, .inl fB)), (aN, .inl (cI, 40, .inl fN)), (aY, .inl (cI, 480, .inl fY)), (aU, .inl (cI, 480, .inl fU)), (aS, .inl (cZ, 96, .inl fS)), (am, .inl (cI, 12, .inl fA)), (ae, .inl (cI, 12, .inl fE))]) (wc := [(ax, .inr (2, [.ref ad, .ref aq, .ref aB, .ref aN, .ref aY, .ref aU, .ref aS, .int tr, .int ra, .int ca])), (ad, .inr (0, [.ref aw, .int lo, .int up, .int tp])), (aw, .inl (cI, 1002, .inl fW)), (aq, .inr (1, [.ref aP, .ref aA, .ref aT, .ref aO, .int (nI n), .ref aE, .ref aI])), (aP, .inl (cI, 12, .inl fP)), (aA, .inl (cI, 12, .inl fA)), (aT, .inl (cI, 12, .inl fT)), (aO, .inl (cI, 12, .inl fO)), (aE, .inl (cI, 12, .inl fE)), (aI, .inl (cZ, 12, .inl fI)), (aB, .inl (cI, 8, .inl fB)), (aN, .inl (cI, 40, .inl fN)), (aY, .inl (cI, 480, .inl fY)), (aU, .inl (cI, 480, .inl fU)), (aS, .inl (cZ, 96, .inl fS))]) (wc' := [(ax, .inr (2, [.ref ad, .ref aq, .ref aB, .ref aN, .ref aY, .ref aU, .ref aS, .int tr, .int ra, .int ca])), (ad, .inr (0, [.ref aw, .int (nI lw9), .int (nI uq), .int (nI tq)])), (aw, .inl (cI, 1002, .inl (z_wa (nI lw9) (nI uq) (nI tq) fW 1001))), (aq, .inr (1, [.ref aP, .ref aA, .ref aT, .ref aO, .int (nI n), .ref aE, .ref aI])), (aP, .inl (cI, 12, .inl fP)), (aA, .inl (cI, 12, .inl fA)), (aT, .inl (cI, 12, .inl fT)), (aO, .inl (cI, 12, .inl fO)), (aE, .inl (cI, 12, .inl fE)), (aI, .inl (cZ, 12, .inl fI)), (aB, .inl (cI, 8, .inl fB)), (aN, .inl (cI, 40, .inl fN)), (aY, .inl (cI, 480, .inl fY)), (aU, .inl (cI, 480, .inl fU)), (aS, .inl (cZ, 96, .inl fS))]) (ws' := [(ax, .inr (2, [.ref ad, .ref aq, .ref aB, .ref aN, .ref aY, .ref aU, .ref aS, .int tr, .int ra, .int ca])), (ad, .inr (0, [.ref aw, .int (nI lw9), .int (nI uq), .int (nI tq)])), (aw, .inl (cI, 1002, .inl (z_wa (nI lw9) (nI uq) (nI tq) fW 1001))), (aq, .inr (1, [.ref aP, .ref aA, .ref aT, .ref aO, .int (nI n), .ref aE, .ref aI])), (aP, .inl (cI, 12, .inl fP)), (aA, .inl (cI, 12, .inl fA)), (aT, .inl (cI, 12, .inl fT)), (aO, .inl (cI, 12, .inl fO)), (aE, .inl (cI, 12, .inl fE)), (aI, .inl (cZ, 12, .inl fI)), (aB, .inl (cI, 8, .inl fB)), (aN, .inl (cI, 40, .inl fN)), (aY, .inl (cI, 480, .inl fY)), (aU, .inl (cI, 480, .inl fU)), (aS, .inl (cZ, 96, .inl fS)), (am, .inl (cI, 12, .inl fA)), (ae, .inl (cI, 12, .inl fE))]) (v := (some (.int 0))) (As := [.ref ax, .int (nI lw9), .int (nI uq), .int (nI tq)]) (rest := []) ⟨hx, hb, hml, hown, hts⟩ (c_L_demand l dC dI cI cZ cJ ax aB aN aY aU aS tr ra ca fB fN fY fU fS ad aw lo up tp fW aq aP aA aT aO aE aI n fP fA fT fO fE fI (nI lw9) (nI uq) (nI tq) j0 hok9) (vx_cwSW 4 hts gL_law_L_demand rfl rfl rfl (by decide +kernel) ⟨Nat.le_of_ble_eq_true rfl, Nat.le_of_ble_eq_true rfl⟩) hK hP hD hS [0, 1, 2, 3, 4, 5, 6, 7, 8, 9, 10, 11, 12, 13, 14] rfl (by decide) [(true, 0), (true, 1), (true, 2), (true, 3), (true, 4), (true, 5), (true, 6), (true, 7), (true, 8), (true, 9), (true, 10), (true, 11), (true, 12), (true, 13), (true, 14), (false, 15), (false, 16)] rfl (by decide) rfl rfl hl.1 rfl (Nat.le_of_ble_eq_true rfl) dL_law_324 ⟨show 17 + k + 1 + 0 ≤ 115 by omega, show 2223 + 6 * k + 6 + 0 ≤ 2959 by omega⟩ (fun H locs hP hD hS => ?_)
  have hP : va_P (dC, dI) vwCl [(ax, .inr (2, [.ref ad, .ref aq, .ref aB, .ref aN, .ref aY, .ref aU, .ref aS, .int tr, .int ra, .int ca])), (ad, .inr (0, [.ref aw, .int (nI lw9), .int (nI uq), .int (nI tq)])), (aw, .inl (cI, 1002, .inl (z_wa (nI lw9) (nI uq) (nI tq) fW 1001))), (aq, .inr (1, [.ref aP, .ref aA, .ref aT, .ref aO, .int (nI n), .ref aE, .ref aI])), (aP, .inl (cI, 12, .inl fP)), (aA, .inl (cI, 12, .inl fA)), (aT, .inl (cI, 12, .inl fT)), (aO, .inl (cI, 12, .inl fO)), (aE, .inl (cI, 12, .inl fE)), (aI, .inl (cZ, 12, .inl fI)), (aB, .inl (cI, 8, .inl fB)), (aN, .inl (cI, 40, .inl fN)), (aY, .inl (cI, 480, .inl fY)), (aU, .inl (cI, 480, .inl fU)), (aS, .inl (cZ, 96, .inl fS)), (am, .inl (cI, 12, .inl fA)), (ae, .inl (cI, 12, .inl fE))] H := hP
  have hD : va_D (fun q : Nat => s.heap.size ≤ q) [(ax, .inr (2, [.ref ad, .ref aq, .ref aB, .ref aN, .ref aY, .ref aU, .ref aS, .int tr, .int ra, .int ca])), (ad, .inr (0, [.ref aw, .int (nI lw9), .int (nI uq), .int (nI tq)])), (aw, .inl (cI, 1002, .inl (z_wa (nI lw9) (nI uq) (nI tq) fW 1001))), (aq, .inr (1, [.ref aP, .ref aA, .ref aT, .ref aO, .int (nI n), .ref aE, .ref aI])), (aP, .inl (cI, 12, .inl fP)), (aA, .inl (cI, 12, .inl fA)), (aT, .inl (cI, 12, .inl fT)), (aO, .inl (cI, 12, .inl fO)), (aE, .inl (cI, 12, .inl fE)), (aI, .inl (cZ, 12, .inl fI)), (aB, .inl (cI, 8, .inl fB)), (aN, .inl (cI, 40, .inl fN)), (aY, .inl (cI, 480, .inl fY)), (aU, .inl (cI, 480, .inl fU)), (aS, .inl (cZ, 96, .inl fS)), (am, .inl (cI, 12, .inl fA)), (ae, .inl (cI, 12, .inl fE))] := hD
  refine W.eq (g2 := F0 m 327 ls [.int 0]) rfl ?_
  refine lv_if_ne (tgt := 349) hx hb dL_law_327 (by decide) (fun c_327 => ?_) (fun c_327 => ?_)
  · exact absurd rfl c_327
  · refine lv_aload_n hx hb dL_law_330 rfl (lv_at hl 2 rfl) ?_
    refine lv_iconst (v := 1) hx hb dL_law_331 (by decide) ?_
    refine lv_iload hx hb dL_law_332 (lv_at hl 7 rfl) ?_
    refine lv_sipush (v := 500) hx hb dL_law_334 (by decide) ?_
    refine lv_irem hx hb dL_law_337 (by decide) ?_
    refine lv_topi (fun v_12 ev_12 => ?_)
    obtain rfl : v_12 = nI (zv % 500) := ev_12.trans (pk_rem (a := zv) (d := 500) (by omega) (by omega) (by omega))
    refine lv_iadd hx hb dL_law_338 ?_
    refine lv_topi (fun v_13 ev_13 => ?_)
    obtain rfl : v_13 = nI (1 + (zv % 500)) := ev_13.trans (nI_add 1 (zv % 500))
    refine lv_topi (fun v_14 ev_14 => ?_)
    obtain rfl : v_14 = nI uu := ev_14.trans (by rw [huu])
    refine q_rS (wc := [(ax, .inr (2, [.ref ad, .ref aq, .ref aB, .ref aN, .ref aY, .ref aU, .ref aS, .int tr, .int ra, .int ca])), (ad, .inr (0, [.ref aw, .int (nI lw9), .int (nI uq), .int (nI tq)])), (aw, .inl (cI, 1002, .inl (z_wa (nI lw9) (nI uq) (nI tq) fW 1001))), (aq, .inr (1, [.ref aP, .ref aA, .ref aT, .ref aO, .int (nI n), .ref aE, .ref aI])), (aP, .inl (cI, 12, .inl fP)), (aA, .inl (cI, 12, .inl fA)), (aT, .inl (cI, 12, .inl fT)), (aO, .inl (cI, 12, .inl fO)), (aE, .inl (cI, 12, .inl fE)), (aI, .inl (cZ, 12, .inl fI)), (aB, .inl (cI, 8, .inl fB)), (aN, .inl (cI, 40, .inl fN)), (aY, .inl (cI, 480, .inl fY)), (aU, .inl (cI, 480, .inl fU)), (aS, .inl (cZ, 96, .inl fS))]) (r := 1) (As := [.ref ax, .int (nI uu)]) (rest := []) ⟨hx, hb, hml, hown, hts⟩ (c_L_isFalling l dC dI cI cZ cJ ax aB aN aY aU aS tr ra ca fB fN fY fU fS ad aw (nI lw9) (nI uq) (nI tq) (z_wa (nI lw9) (nI uq) (nI tq) fW 1001) aq aP aA aT aO aE aI n fP fA fT fO fE fI (nI uu) g1 g2 g3 g4 f1 f2 f3) (va_cwS 2 hts gL_law_L_isFalling rfl rfl rfl (by decide +kernel) ⟨Nat.le_of_ble_eq_true rfl, Nat.le_of_ble_eq_true rfl⟩) hK (hP.sub [0, 1, 2, 3, 4, 5, 6, 7, 8, 9, 10, 11, 12, 13, 14] rfl) rfl hl.1 rfl (Nat.le_of_ble_eq_true rfl) dL_law_339 ⟨show 17 + k + 1 + 0 ≤ 115 by omega, show 2223 + 6 * k + 6 + 0 ≤ 2959 by omega⟩ ?_
    refine lv_if_eq (tgt := 349) hx hb dL_law_342 (by decide) (fun c_342 => ?_) (fun c_342 => ?_)
    · exact absurd c_342 (by decide)
    · refine lv_iconst (v := 1) hx hb dL_law_345 (by decide) ?_
      refine lv_goto (tgt := 350) hx hb dL_law_346 (by decide) ?_
      refine lv_istore (lv' := [(4, .int 1), (13, .int (nI lw9)), (0, .ref b), (1, .ref ax), (2, .ref am), (3, .ref ae), (5, .int x5), (7, .int (nI zv)), (9, .int p0), (10, .int y0), (11, .int h0), (12, .int (nI n))]) hx hb dL_law_350 hl (by decide) rfl (fun ls hl => ?_)
      refine lv_goto (tgt := 970) hx hb dL_law_352 (by decide) ?_
      exact hnext tr ra ca fB fN fY fU fS (nI lw9) (nI uq) (nI tq) (z_wa (nI lw9) (nI uq) (nI tq) fW 1001) n fP fA fT fO fE fI _ _ hP hD hS (z_Kdem hJ _ _ _) ls (lv_sub hl [2, 3, 4, 5, 0, 6, 9, 10] rfl)
