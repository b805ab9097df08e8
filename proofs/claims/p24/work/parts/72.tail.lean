/-! The law's checks behind each step. -/
theorem z_n31 (x : Int32) : z_n x < 2 ^ 31 := by
  have := Int32.toInt_lt x
  unfold z_n Int32.toNatClampNeg
  omega
set_option maxHeartbeats 4000000 in
set_option maxRecDepth 100000 in
theorem lt_tail {p : Program} {l : Launch} {e : Env} {s : State} {m : MethodId} {below : List Frame} {meth : Method} {c : Code} {b : Nat} {dC : Nat → ClassId} {dI : Nat → Nat → Nat} {cI cZ cJ : ClassId} (hfl : l.stackTraces = false) (hx : p.tables.exec = Jvm.exec) (hb : c.code = code) (hml : c.maxLocals = 19) (hown : s.vm.findClass RL = some m.cls) (hts : ∀ w ∈ wsL_law, w.before #[Value.ref b] s = true) (hXL : q_XKL s) (hNC : q_NC s) (hK : va_K (dC, dI) vwCl (q_T cI cZ cJ) s) {ax aB aN aY aU aS ad aw aq aP aA aT aO aE aI am ae : Nat} {tr ra ca : Int32} {fB fN fY fU fS : Nat → Int32} {lo up tp : Int32} {fW : Nat → Int32} {n : Nat} {fP fA fT fO fE fI : Nat → Int32} {k : Nat} (hk : k < 50) {x5 y0 h0 : Int32} (hy7 : z_in y0 0 7 = true) (hh11 : z_in h0 0 11 = true)  (hJ : z_K (k + 1) ra ca fW n fP fA fT fO fE fB fN fY fU) {H : Heap} {locs : List Loc} (hP : va_P (dC, dI) vwCl [(ax, .inr (2, [.ref ad, .ref aq, .ref aB, .ref aN, .ref aY, .ref aU, .ref aS, .int tr, .int ra, .int ca])), (ad, .inr (0, [.ref aw, .int lo, .int up, .int tp])), (aw, .inl (cI, 1002, .inl fW)), (aq, .inr (1, [.ref aP, .ref aA, .ref aT, .ref aO, .int (nI n), .ref aE, .ref aI])), (aP, .inl (cI, 12, .inl fP)), (aA, .inl (cI, 12, .inl fA)), (aT, .inl (cI, 12, .inl fT)), (aO, .inl (cI, 12, .inl fO)), (aE, .inl (cI, 12, .inl fE)), (aI, .inl (cZ, 12, .inl fI)), (aB, .inl (cI, 8, .inl fB)), (aN, .inl (cI, 40, .inl fN)), (aY, .inl (cI, 480, .inl fY)), (aU, .inl (cI, 480, .inl fU)), (aS, .inl (cZ, 96, .inl fS)), (am, .inl (cI, 12, .inl fA)), (ae, .inl (cI, 12, .inl fE))] H) (hD : va_D (fun q : Nat => s.heap.size ≤ q) [(ax, .inr (2, [.ref ad, .ref aq, .ref aB, .ref aN, .ref aY, .ref aU, .ref aS, .int tr, .int ra, .int ca])), (ad, .inr (0, [.ref aw, .int lo, .int up, .int tp])), (aw, .inl (cI, 1002, .inl fW)), (aq, .inr (1, [.ref aP, .ref aA, .ref aT, .ref aO, .int (nI n), .ref aE, .ref aI])), (aP, .inl (cI, 12, .inl fP)), (aA, .inl (cI, 12, .inl fA)), (aT, .inl (cI, 12, .inl fT)), (aO, .inl (cI, 12, .inl fO)), (aE, .inl (cI, 12, .inl fE)), (aI, .inl (cZ, 12, .inl fI)), (aB, .inl (cI, 8, .inl fB)), (aN, .inl (cI, 40, .inl fN)), (aY, .inl (cI, 480, .inl fY)), (aU, .inl (cI, 480, .inl fU)), (aS, .inl (cZ, 96, .inl fS)), (am, .inl (cI, 12, .inl fA)), (ae, .inl (cI, 12, .inl fE))]) (hS : va_S (fun q : Nat => s.heap.size ≤ q) s.heap H locs) {ls : Array Slot} (hl : lv_has ls 19 [(0, .ref b), (1, .ref ax), (2, .ref am), (3, .ref ae), (4, .int 1), (5, .int x5), (10, .int y0), (11, .int h0)])
    (hnext : lw_N0 p l e s m below meth c b dC dI cI cZ cJ ax aB aN aY aU aS ad aw aq aP aA aT aO aE aI am ae x5 k) : W p l e room_1 s m #[Value.ref b] below meth c H locs (17 + k + 1) (2223 + 6 * k + 6) (lw_Z below #[Value.ref b] s) (F0 m 970 ls []) := by
  obtain ⟨j0, jn, jO, jor, jof, jA, jE, jlv, jB⟩ := z_Kall hJ
  obtain ⟨hy, hy8⟩ := z_Y hy7
  obtain ⟨hh, hh12⟩ := z_H hh11
  refine lv_iconst (v := 0) hx hb dL_law_970 (by decide) ?_
  refine lv_istore (lv' := [(13, .int 0), (0, .ref b), (1, .ref ax), (2, .ref am), (3, .ref ae), (4, .int 1), (5, .int x5), (10, .int y0), (11, .int h0)]) hx hb dL_law_971 hl (by decide) rfl (fun ls hl => ?_)
  refine lv_lconst (v := 0) hx hb dL_law_973 (by decide) ?_
  refine lv_lstore (lv' := [(14, .long 0), (13, .int 0), (0, .ref b), (1, .ref ax), (2, .ref am), (3, .ref ae), (4, .int 1), (5, .int x5), (10, .int y0), (11, .int h0)]) hx hb dL_law_974 hl (by decide) rfl (fun ls hl => ?_)
  refine lv_iconst (v := 0) hx hb dL_law_976 (by decide) ?_
  refine lv_istore (lv' := [(16, .int 0), (14, .long 0), (13, .int 0), (0, .ref b), (1, .ref ax), (2, .ref am), (3, .ref ae), (4, .int 1), (5, .int x5), (10, .int y0), (11, .int h0)]) hx hb dL_law_977 hl (by decide) rfl (fun ls hl => ?_)
  have lp_979 : ∀ (wpn pn : Nat) (x13 : Int32) (x14 : Int64) (x16 : Int32), pn ≤ 5 → 5 < pn + wpn → x13 = z_ob fY (z_n y0) (z_n h0) pn → x14 = z_ps fY fU fS fN ra ca pn → x16 = nI pn → ∀ (ls : Array Slot), lv_has ls 19 [(13, .int x13), (14, .long x14), (16, .int x16), (0, .ref b), (1, .ref ax), (2, .ref am), (3, .ref ae), (4, .int 1), (5, .int x5), (10, .int y0), (11, .int h0)] → W p l e room_1 s m #[Value.ref b] below meth c H locs (17 + k + 1) (2223 + 6 * k + 6) (lw_Z below #[Value.ref b] s) (F0 m 979 ls []) := by
    intro wpn
    induction wpn with
    | zero => intro pn x13 x14 x16 hk_pn hw_pn; exact absurd hw_pn (by omega)
    | succ wpn ih_pn =>
      intro pn x13 x14 x16 hk_pn hw_pn ex13 ex14 ex16   ls hl
      refine lv_iload hx hb dL_law_979 (lv_at hl 2 rfl) ?_
      refine lv_iconst (v := 5) hx hb dL_law_981 (by decide) ?_
      refine lv_icmp_ge (tgt := 1120) hx hb dL_law_982 (by decide) (fun c_982 => ?_) (fun c_982 => ?_)
      · have hp : pn = 5 := q_ex ex16 hk_pn (by omega) c_982
        refine lv_iload hx hb dL_law_1120 (lv_at hl 7 rfl) ?_
        refine lv_if_eq (tgt := 1150) hx hb dL_law_1122 (by decide) (fun c_1122 => ?_) (fun c_1122 => ?_)
        · exact absurd c_1122 (by decide)
        · refine lv_iload hx hb dL_law_1125 (lv_at hl 0 rfl) ?_
          refine lv_aload_n hx hb dL_law_1127 rfl (lv_at hl 4 rfl) ?_
          refine lv_iload hx hb dL_law_1128 (lv_at hl 9 rfl) ?_
          refine q_rSW (wc := [(ax, .inr (2, [.ref ad, .ref aq, .ref aB, .ref aN, .ref aY, .ref aU, .ref aS, .int tr, .int ra, .int ca])), (ad, .inr (0, [.ref aw, .int lo, .int up, .int tp])), (aw, .inl (cI, 1002, .inl fW)), (aq, .inr (1, [.ref aP, .ref aA, .ref aT, .ref aO, .int (nI n), .ref aE, .ref aI])), (aP, .inl (cI, 12, .inl fP)), (aA, .inl (cI, 12, .inl fA)), (aT, .inl (cI, 12, .inl fT)), (aO, .inl (cI, 12, .inl fO)), (aE, .inl (cI, 12, .inl fE)), (aI, .inl (cZ, 12, .inl fI)), (aB, .inl (cI, 8, .inl fB)), (aN, .inl (cI, 40, .inl fN)), (aY, .inl (cI, 480, .inl fY)), (aU, .inl (cI, 480, .inl fU)), (aS, .inl (cZ, 96, .inl fS))]) (r := (fB (z_n y0))) (As := [.ref ax, .int y0]) (rest := [.int x13]) ⟨hx, hb, hml, hown, hts⟩ (c_L_bought l dC dI cI cZ cJ ax aB aN aY aU aS tr ra ca fB fN fY fU fS ad aw lo up tp fW aq aP aA aT aO aE aI n fP fA fT fO fE fI y0 hy7) (vx_cwSW 2 hts gL_law_L_bought rfl rfl rfl (by decide +kernel) ⟨Nat.le_of_ble_eq_true rfl, Nat.le_of_ble_eq_true rfl⟩) hK (hP.sub [0, 1, 2, 3, 4, 5, 6, 7, 8, 9, 10, 11, 12, 13, 14] rfl) rfl hl.1 rfl (Nat.le_of_ble_eq_true rfl) dL_law_1130 ⟨show 17 + k + 1 + 0 ≤ 115 by omega, show 2223 + 6 * k + 6 + 0 ≤ 2959 by omega⟩ ?_
          refine lv_icmp_ne (tgt := 1150) hx hb dL_law_1133 (by decide) (fun c_1133 => ?_) (fun c_1133 => ?_)
          · exact absurd (by rw [ex13, hp]; exact z_ob5 hJ.2.2.2.2.2.2.1 (fun c => (jB c).1) hy8 hh12) c_1133
          · refine lv_lload hx hb dL_law_1136 (lv_at hl 1 rfl) ?_
            refine lv_aload_n hx hb dL_law_1138 rfl (lv_at hl 4 rfl) ?_
            refine q_rVl (wc := [(ax, .inr (2, [.ref ad, .ref aq, .ref aB, .ref aN, .ref aY, .ref aU, .ref aS, .int tr, .int ra, .int ca])), (ad, .inr (0, [.ref aw, .int lo, .int up, .int tp])), (aw, .inl (cI, 1002, .inl fW)), (aq, .inr (1, [.ref aP, .ref aA, .ref aT, .ref aO, .int (nI n), .ref aE, .ref aI])), (aP, .inl (cI, 12, .inl fP)), (aA, .inl (cI, 12, .inl fA)), (aT, .inl (cI, 12, .inl fT)), (aO, .inl (cI, 12, .inl fO)), (aE, .inl (cI, 12, .inl fE)), (aI, .inl (cZ, 12, .inl fI)), (aB, .inl (cI, 8, .inl fB)), (aN, .inl (cI, 40, .inl fN)), (aY, .inl (cI, 480, .inl fY)), (aU, .inl (cI, 480, .inl fU)), (aS, .inl (cZ, 96, .inl fS))]) (r := (z_ps fY fU fS fN ra ca 5)) (As := []) (rest := [.long x14]) ⟨hx, hb, hml, hown, hts⟩ (c_X2_penalties l dC dI cI cZ cJ ax aB aN aY aU aS tr ra ca fB fN fY fU fS ad aw lo up tp fW aq aP aA aT aO aE aI n fP fA fT fO fE fI) (cwV 0 hts gL_law_X2_penalties rfl rfl rfl (by decide +kernel) ⟨Nat.le_of_ble_eq_true rfl, Nat.le_of_ble_eq_true rfl⟩) hK (hP.sub [0, 1, 2, 3, 4, 5, 6, 7, 8, 9, 10, 11, 12, 13, 14] rfl) 2 0 rfl rfl rfl rfl hl.1 rfl (Nat.le_of_ble_eq_true rfl) dL_law_1139 ⟨show 17 + k + 1 + 0 ≤ 115 by omega, show 2223 + 6 * k + 6 + 0 ≤ 2959 by omega⟩ ?_
            refine W.lcmp hx hb dL_law_1142 ?_
            refine lv_if_ne (tgt := 1150) hx hb dL_law_1143 (by decide) (fun c_1143 => ?_) (fun c_1143 => ?_)
            · exact absurd (z_lc (by rw [ex14, hp])) c_1143
            · refine lv_iconst (v := 1) hx hb dL_law_1146 (by decide) ?_
              refine lv_goto (tgt := 1151) hx hb dL_law_1147 (by decide) ?_
              refine lv_istore (lv' := [(4, .int 1), (13, .int x13), (14, .long x14), (16, .int x16), (0, .ref b), (1, .ref ax), (2, .ref am), (3, .ref ae), (5, .int x5), (10, .int y0), (11, .int h0)]) hx hb dL_law_1151 hl (by decide) rfl (fun ls hl => ?_)
              refine lv_iinc (v := x5 + 1) (lv' := [(5, .int (x5 + 1)), (4, .int 1), (13, .int x13), (14, .long x14), (16, .int x16), (0, .ref b), (1, .ref ax), (2, .ref am), (3, .ref ae), (10, .int y0), (11, .int h0)]) hx hb dL_law_1153 hl (k := 8) rfl rfl (by decide) rfl (fun ls hl => ?_)
              refine lv_goto (tgt := 51) hx hb dL_law_1156 (by decide) ?_
              exact hnext tr ra ca fB fN fY fU fS lo up tp fW n fP fA fT fO fE fI _ _ hP hD hS (hJ) ls (lv_sub hl [5, 6, 7, 8, 1, 0] rfl)
      · have hp : pn < 5 := q_lt ex16 hk_pn (by omega) c_982
        obtain ⟨n1, n2, n3⟩ := z_pen hJ (by omega) (z_lk fY fU fS pn (z_n y0) 12) (pn * 8 + z_n y0)
        refine lv_iload hx hb dL_law_985 (lv_at hl 7 rfl) ?_
        refine lv_if_eq (tgt := 1120) hx hb dL_law_987 (by decide) (fun c_987 => ?_) (fun c_987 => ?_)
        · exact absurd c_987 (by decide)
        · refine lv_iload hx hb dL_law_990 (lv_at hl 0 rfl) ?_
          refine lv_aload_n hx hb dL_law_992 rfl (lv_at hl 4 rfl) ?_
          refine lv_iload hx hb dL_law_993 (lv_at hl 2 rfl) ?_
          refine lv_iload hx hb dL_law_995 (lv_at hl 9 rfl) ?_
          refine lv_iload hx hb dL_law_997 (lv_at hl 10 rfl) ?_
          refine q_rSW (wc := [(ax, .inr (2, [.ref ad, .ref aq, .ref aB, .ref aN, .ref aY, .ref aU, .ref aS, .int tr, .int ra, .int ca])), (ad, .inr (0, [.ref aw, .int lo, .int up, .int tp])), (aw, .inl (cI, 1002, .inl fW)), (aq, .inr (1, [.ref aP, .ref aA, .ref aT, .ref aO, .int (nI n), .ref aE, .ref aI])), (aP, .inl (cI, 12, .inl fP)), (aA, .inl (cI, 12, .inl fA)), (aT, .inl (cI, 12, .inl fT)), (aO, .inl (cI, 12, .inl fO)), (aE, .inl (cI, 12, .inl fE)), (aI, .inl (cZ, 12, .inl fI)), (aB, .inl (cI, 8, .inl fB)), (aN, .inl (cI, 40, .inl fN)), (aY, .inl (cI, 480, .inl fY)), (aU, .inl (cI, 480, .inl fU)), (aS, .inl (cZ, 96, .inl fS))]) (r := (fY ((z_n x16 * 8 + z_n y0) * 12 + z_n h0))) (As := [.ref ax, .int x16, .int y0, .int h0]) (rest := [.int x13]) ⟨hx, hb, hml, hown, hts⟩ (c_L_obliged l dC dI cI cZ cJ ax aB aN aY aU aS tr ra ca fB fN fY fU fS ad aw lo up tp fW aq aP aA aT aO aE aI n fP fA fT fO fE fI x16 y0 h0 (by rw [show z_in x16 0 4 = true by rw [ex16]; exact z_inN (a := 0) (b := 4) (by omega) (by omega) (by omega), hy7, hh11]; rfl)) (vx_cwSW 4 hts gL_law_L_obliged rfl rfl rfl (by decide +kernel) ⟨Nat.le_of_ble_eq_true rfl, Nat.le_of_ble_eq_true rfl⟩) hK (hP.sub [0, 1, 2, 3, 4, 5, 6, 7, 8, 9, 10, 11, 12, 13, 14] rfl) rfl hl.1 rfl (Nat.le_of_ble_eq_true rfl) dL_law_999 ⟨show 17 + k + 1 + 0 ≤ 115 by omega, show 2223 + 6 * k + 6 + 0 ≤ 2959 by omega⟩ ?_
          refine lv_topi (fun v_1 ev_1 => ?_)
          obtain rfl : v_1 = fY ((pn * 8 + z_n y0) * 12 + z_n h0) := ev_1.trans (by rw [show z_n x16 = pn by rw [ex16]; exact z_nI (by omega)])
          refine lv_iadd hx hb dL_law_1002 ?_
          refine lv_istore (lv' := [(13, .int (x13 + (fY ((pn * 8 + z_n y0) * 12 + z_n h0)))), (14, .long x14), (16, .int x16), (0, .ref b), (1, .ref ax), (2, .ref am), (3, .ref ae), (4, .int 1), (5, .int x5), (10, .int y0), (11, .int h0)]) hx hb dL_law_1003 hl (by decide) rfl (fun ls hl => ?_)
          refine lv_aload_n hx hb dL_law_1005 rfl (lv_at hl 4 rfl) ?_
          refine lv_iload hx hb dL_law_1006 (lv_at hl 2 rfl) ?_
          refine lv_iload hx hb dL_law_1008 (lv_at hl 9 rfl) ?_
          refine lv_iload hx hb dL_law_1010 (lv_at hl 10 rfl) ?_
          refine q_rSW (wc := [(ax, .inr (2, [.ref ad, .ref aq, .ref aB, .ref aN, .ref aY, .ref aU, .ref aS, .int tr, .int ra, .int ca])), (ad, .inr (0, [.ref aw, .int lo, .int up, .int tp])), (aw, .inl (cI, 1002, .inl fW)), (aq, .inr (1, [.ref aP, .ref aA, .ref aT, .ref aO, .int (nI n), .ref aE, .ref aI])), (aP, .inl (cI, 12, .inl fP)), (aA, .inl (cI, 12, .inl fA)), (aT, .inl (cI, 12, .inl fT)), (aO, .inl (cI, 12, .inl fO)), (aE, .inl (cI, 12, .inl fE)), (aI, .inl (cZ, 12, .inl fI)), (aB, .inl (cI, 8, .inl fB)), (aN, .inl (cI, 40, .inl fN)), (aY, .inl (cI, 480, .inl fY)), (aU, .inl (cI, 480, .inl fU)), (aS, .inl (cZ, 96, .inl fS))]) (r := (fY ((z_n x16 * 8 + z_n y0) * 12 + z_n h0))) (As := [.ref ax, .int x16, .int y0, .int h0]) (rest := []) ⟨hx, hb, hml, hown, hts⟩ (c_L_obliged l dC dI cI cZ cJ ax aB aN aY aU aS tr ra ca fB fN fY fU fS ad aw lo up tp fW aq aP aA aT aO aE aI n fP fA fT fO fE fI x16 y0 h0 (by rw [show z_in x16 0 4 = true by rw [ex16]; exact z_inN (a := 0) (b := 4) (by omega) (by omega) (by omega), hy7, hh11]; rfl)) (vx_cwSW 4 hts gL_law_L_obliged rfl rfl rfl (by decide +kernel) ⟨Nat.le_of_ble_eq_true rfl, Nat.le_of_ble_eq_true rfl⟩) hK (hP.sub [0, 1, 2, 3, 4, 5, 6, 7, 8, 9, 10, 11, 12, 13, 14] rfl) rfl hl.1 rfl (Nat.le_of_ble_eq_true rfl) dL_law_1012 ⟨show 17 + k + 1 + 0 ≤ 115 by omega, show 2223 + 6 * k + 6 + 0 ≤ 2959 by omega⟩ ?_
          refine lv_topi (fun v_2 ev_2 => ?_)
          obtain rfl : v_2 = fY ((pn * 8 + z_n y0) * 12 + z_n h0) := ev_2.trans (by rw [show z_n x16 = pn by rw [ex16]; exact z_nI (by omega)])
          refine lv_if_lt (tgt := 1081) hx hb dL_law_1015 (by decide) (fun c_1015 => ?_) (fun c_1015 => ?_)
          · exact absurd c_1015 (by have h9 := (hJ.2.2.2.2.2.2.1 (z_n y0) (z_n h0) hy8 hh12).1 pn hp; rw [h9]; exact z_nlt.mpr (nI_le (a := 0) (Nat.zero_le _) (z_n31 _)))
          · refine lv_aload_n hx hb dL_law_1018 rfl (lv_at hl 4 rfl) ?_
            refine lv_iload hx hb dL_law_1019 (lv_at hl 2 rfl) ?_
            refine lv_iload hx hb dL_law_1021 (lv_at hl 9 rfl) ?_
            refine q_rSW (wc := [(ax, .inr (2, [.ref ad, .ref aq, .ref aB, .ref aN, .ref aY, .ref aU, .ref aS, .int tr, .int ra, .int ca])), (ad, .inr (0, [.ref aw, .int lo, .int up, .int tp])), (aw, .inl (cI, 1002, .inl fW)), (aq, .inr (1, [.ref aP, .ref aA, .ref aT, .ref aO, .int (nI n), .ref aE, .ref aI])), (aP, .inl (cI, 12, .inl fP)), (aA, .inl (cI, 12, .inl fA)), (aT, .inl (cI, 12, .inl fT)), (aO, .inl (cI, 12, .inl fO)), (aE, .inl (cI, 12, .inl fE)), (aI, .inl (cZ, 12, .inl fI)), (aB, .inl (cI, 8, .inl fB)), (aN, .inl (cI, 40, .inl fN)), (aY, .inl (cI, 480, .inl fY)), (aU, .inl (cI, 480, .inl fU)), (aS, .inl (cZ, 96, .inl fS))]) (r := (z_pc (z_lk fY fU fS (z_n x16) (z_n y0) 12) ra (fN (z_n x16 * 8 + z_n y0)) ca)) (As := [.ref ax, .int x16, .int y0]) (rest := []) ⟨hx, hb, hml, hown, hts⟩ (c_L_penalty l dC dI cI cZ cJ ax aB aN aY aU aS tr ra ca fB fN fY fU fS ad aw lo up tp fW aq aP aA aT aO aE aI n fP fA fT fO fE fI x16 y0 (z_pyok ex16 hp hy7)) (vx_cwSW 3 hts gL_law_L_penalty rfl rfl rfl (by decide +kernel) ⟨Nat.le_of_ble_eq_true rfl, Nat.le_of_ble_eq_true rfl⟩) hK (hP.sub [0, 1, 2, 3, 4, 5, 6, 7, 8, 9, 10, 11, 12, 13, 14] rfl) rfl hl.1 rfl (Nat.le_of_ble_eq_true rfl) dL_law_1023 ⟨show 17 + k + 1 + 0 ≤ 115 by omega, show 2223 + 6 * k + 6 + 0 ≤ 2959 by omega⟩ ?_
            refine lv_topi (fun v_3 ev_3 => ?_)
            obtain rfl : v_3 = z_pc (z_lk fY fU fS pn (z_n y0) 12) ra (fN (pn * 8 + z_n y0)) ca := ev_3.trans (by rw [show z_n x16 = pn by rw [ex16]; exact z_nI (by omega)])
            refine lv_if_lt (tgt := 1081) hx hb dL_law_1026 (by decide) (fun c_1026 => ?_) (fun c_1026 => ?_)
            · exact absurd c_1026 n1
            · have jn_1051 : ∀ (ls : Array Slot), lv_has ls 19 [(13, .int (x13 + (fY ((pn * 8 + z_n y0) * 12 + z_n h0)))), (14, .long x14), (16, .int x16), (0, .ref b), (1, .ref ax), (2, .ref am), (3, .ref ae), (4, .int 1), (5, .int x5), (10, .int y0), (11, .int h0)] → W p l e room_1 s m #[Value.ref b] below meth c H locs (17 + k + 1) (2223 + 6 * k + 6) (lw_Z below #[Value.ref b] s) (F0 m 1051 ls []) := by
                intro    ls hl
                refine lv_aload_n hx hb dL_law_1051 rfl (lv_at hl 4 rfl) ?_
                refine lv_iload hx hb dL_law_1052 (lv_at hl 2 rfl) ?_
                refine lv_iload hx hb dL_law_1054 (lv_at hl 9 rfl) ?_
                refine q_rSW (wc := [(ax, .inr (2, [.ref ad, .ref aq, .ref aB, .ref aN, .ref aY, .ref aU, .ref aS, .int tr, .int ra, .int ca])), (ad, .inr (0, [.ref aw, .int lo, .int up, .int tp])), (aw, .inl (cI, 1002, .inl fW)), (aq, .inr (1, [.ref aP, .ref aA, .ref aT, .ref aO, .int (nI n), .ref aE, .ref aI])), (aP, .inl (cI, 12, .inl fP)), (aA, .inl (cI, 12, .inl fA)), (aT, .inl (cI, 12, .inl fT)), (aO, .inl (cI, 12, .inl fO)), (aE, .inl (cI, 12, .inl fE)), (aI, .inl (cZ, 12, .inl fI)), (aB, .inl (cI, 8, .inl fB)), (aN, .inl (cI, 40, .inl fN)), (aY, .inl (cI, 480, .inl fY)), (aU, .inl (cI, 480, .inl fU)), (aS, .inl (cZ, 96, .inl fS))]) (r := (z_pc (z_lk fY fU fS (z_n x16) (z_n y0) 12) ra (fN (z_n x16 * 8 + z_n y0)) ca)) (As := [.ref ax, .int x16, .int y0]) (rest := []) ⟨hx, hb, hml, hown, hts⟩ (c_L_penalty l dC dI cI cZ cJ ax aB aN aY aU aS tr ra ca fB fN fY fU fS ad aw lo up tp fW aq aP aA aT aO aE aI n fP fA fT fO fE fI x16 y0 (z_pyok ex16 hp hy7)) (vx_cwSW 3 hts gL_law_L_penalty rfl rfl rfl (by decide +kernel) ⟨Nat.le_of_ble_eq_true rfl, Nat.le_of_ble_eq_true rfl⟩) hK (hP.sub [0, 1, 2, 3, 4, 5, 6, 7, 8, 9, 10, 11, 12, 13, 14] rfl) rfl hl.1 rfl (Nat.le_of_ble_eq_true rfl) dL_law_1056 ⟨show 17 + k + 1 + 0 ≤ 115 by omega, show 2223 + 6 * k + 6 + 0 ≤ 2959 by omega⟩ ?_
                refine lv_topi (fun v_4 ev_4 => ?_)
                obtain rfl : v_4 = z_pc (z_lk fY fU fS pn (z_n y0) 12) ra (fN (pn * 8 + z_n y0)) ca := ev_4.trans (by rw [show z_n x16 = pn by rw [ex16]; exact z_nI (by omega)])
                refine lv_i2l hx hb dL_law_1059 rfl ?_
                refine lv_ldc2 (v := 2) hx hb hown (hts (.constantLong RL 154 (2)) (by decide +kernel)) dL_law_1060 ?_
                refine lv_aload_n hx hb dL_law_1063 rfl (lv_at hl 4 rfl) ?_
                refine lv_iload hx hb dL_law_1064 (lv_at hl 2 rfl) ?_
                refine lv_iload hx hb dL_law_1066 (lv_at hl 9 rfl) ?_
                refine q_rSW (wc := [(ax, .inr (2, [.ref ad, .ref aq, .ref aB, .ref aN, .ref aY, .ref aU, .ref aS, .int tr, .int ra, .int ca])), (ad, .inr (0, [.ref aw, .int lo, .int up, .int tp])), (aw, .inl (cI, 1002, .inl fW)), (aq, .inr (1, [.ref aP, .ref aA, .ref aT, .ref aO, .int (nI n), .ref aE, .ref aI])), (aP, .inl (cI, 12, .inl fP)), (aA, .inl (cI, 12, .inl fA)), (aT, .inl (cI, 12, .inl fT)), (aO, .inl (cI, 12, .inl fO)), (aE, .inl (cI, 12, .inl fE)), (aI, .inl (cZ, 12, .inl fI)), (aB, .inl (cI, 8, .inl fB)), (aN, .inl (cI, 40, .inl fN)), (aY, .inl (cI, 480, .inl fY)), (aU, .inl (cI, 480, .inl fU)), (aS, .inl (cZ, 96, .inl fS))]) (r := (fN (z_n x16 * 8 + z_n y0))) (As := [.ref ax, .int x16, .int y0]) (rest := [.long 2, .long ((z_pc (z_lk fY fU fS pn (z_n y0) 12) ra (fN (pn * 8 + z_n y0)) ca).toInt64)]) ⟨hx, hb, hml, hown, hts⟩ (c_L_income l dC dI cI cZ cJ ax aB aN aY aU aS tr ra ca fB fN fY fU fS ad aw lo up tp fW aq aP aA aT aO aE aI n fP fA fT fO fE fI x16 y0 (z_pyok ex16 hp hy7)) (vx_cwSW 3 hts gL_law_L_income rfl rfl rfl (by decide +kernel) ⟨Nat.le_of_ble_eq_true rfl, Nat.le_of_ble_eq_true rfl⟩) hK (hP.sub [0, 1, 2, 3, 4, 5, 6, 7, 8, 9, 10, 11, 12, 13, 14] rfl) rfl hl.1 rfl (Nat.le_of_ble_eq_true rfl) dL_law_1068 ⟨show 17 + k + 1 + 0 ≤ 115 by omega, show 2223 + 6 * k + 6 + 0 ≤ 2959 by omega⟩ ?_
                refine lv_topi (fun v_5 ev_5 => ?_)
                obtain rfl : v_5 = fN (pn * 8 + z_n y0) := ev_5.trans (by rw [show z_n x16 = pn by rw [ex16]; exact z_nI (by omega)])
                refine lv_i2l hx hb dL_law_1071 rfl ?_
                refine lv_lmul hx hb dL_law_1072 ?_
                refine W.lcmp hx hb dL_law_1073 ?_
                refine lv_if_gt (tgt := 1081) hx hb dL_law_1074 (by decide) (fun c_1074 => ?_) (fun c_1074 => ?_)
                · exact absurd ((lg_cmp_gt _ _).mp c_1074) n3
                · refine lv_iconst (v := 1) hx hb dL_law_1077 (by decide) ?_
                  refine lv_goto (tgt := 1082) hx hb dL_law_1078 (by decide) ?_
                  refine lv_istore (lv' := [(4, .int 1), (13, .int (x13 + (fY ((pn * 8 + z_n y0) * 12 + z_n h0)))), (14, .long x14), (16, .int x16), (0, .ref b), (1, .ref ax), (2, .ref am), (3, .ref ae), (5, .int x5), (10, .int y0), (11, .int h0)]) hx hb dL_law_1082 hl (by decide) rfl (fun ls hl => ?_)
                  refine lv_iconst (v := 0) hx hb dL_law_1084 (by decide) ?_
                  refine lv_istore (lv' := [(17, .int 0), (4, .int 1), (13, .int (x13 + (fY ((pn * 8 + z_n y0) * 12 + z_n h0)))), (14, .long x14), (16, .int x16), (0, .ref b), (1, .ref ax), (2, .ref am), (3, .ref ae), (5, .int x5), (10, .int y0), (11, .int h0)]) hx hb dL_law_1085 hl (by decide) rfl (fun ls hl => ?_)
                  have lp_1087 : ∀ (wyq yq : Nat) (z14 : Int64) (z17 : Int32), yq ≤ 8 → 8 < yq + wyq → z14 = z_py fY fU fS fN ra ca pn (z_ps fY fU fS fN ra ca pn) yq → z17 = nI yq → ∀ (ls : Array Slot), lv_has ls 19 [(14, .long z14), (17, .int z17), (4, .int 1), (13, .int (x13 + (fY ((pn * 8 + z_n y0) * 12 + z_n h0)))), (16, .int x16), (0, .ref b), (1, .ref ax), (2, .ref am), (3, .ref ae), (5, .int x5), (10, .int y0), (11, .int h0)] → W p l e room_1 s m #[Value.ref b] below meth c H locs (17 + k + 1) (2223 + 6 * k + 6) (lw_Z below #[Value.ref b] s) (F0 m 1087 ls []) := by
                    intro wyq
                    induction wyq with
                    | zero => intro yq z14 z17 hk_yq hw_yq; exact absurd hw_yq (by omega)
                    | succ wyq ih_yq =>
                      intro yq z14 z17 hk_yq hw_yq ez14 ez17   ls hl
                      refine lv_iload hx hb dL_law_1087 (lv_at hl 1 rfl) ?_
                      refine lv_bipush (v := 8) hx hb dL_law_1089 (by decide) ?_
                      refine lv_icmp_ge (tgt := 1114) hx hb dL_law_1091 (by decide) (fun c_1091 => ?_) (fun c_1091 => ?_)
                      · have hyq : yq = 8 := q_ex ez17 hk_yq (by omega) c_1091
                        refine lv_iinc (v := x16 + 1) (lv' := [(16, .int (x16 + 1)), (14, .long z14), (17, .int z17), (4, .int 1), (13, .int (x13 + (fY ((pn * 8 + z_n y0) * 12 + z_n h0)))), (0, .ref b), (1, .ref ax), (2, .ref am), (3, .ref ae), (5, .int x5), (10, .int y0), (11, .int h0)]) hx hb dL_law_1114 hl (k := 4) rfl rfl (by decide) rfl (fun ls hl => ?_)
                        refine lv_goto (tgt := 979) hx hb dL_law_1117 (by decide) ?_
                        exact ih_pn (pn + 1) (x13 + (fY ((pn * 8 + z_n y0) * 12 + z_n h0))) z14 (x16 + 1) (by omega) (by omega) (by rw [ex13]; rfl) (by rw [ez14, hyq]; rfl) (q_s1 ex16)   ls (lv_sub hl [4, 1, 0, 5, 6, 7, 8, 3, 9, 10, 11] rfl)
                      · have hyq : yq < 8 := q_lt ez17 hk_yq (by omega) c_1091
                        refine lv_lload hx hb dL_law_1094 (lv_at hl 0 rfl) ?_
                        refine lv_aload_n hx hb dL_law_1096 rfl (lv_at hl 6 rfl) ?_
                        refine lv_iload hx hb dL_law_1097 (lv_at hl 4 rfl) ?_
                        refine lv_iload hx hb dL_law_1099 (lv_at hl 1 rfl) ?_
                        refine q_rSW (wc := [(ax, .inr (2, [.ref ad, .ref aq, .ref aB, .ref aN, .ref aY, .ref aU, .ref aS, .int tr, .int ra, .int ca])), (ad, .inr (0, [.ref aw, .int lo, .int up, .int tp])), (aw, .inl (cI, 1002, .inl fW)), (aq, .inr (1, [.ref aP, .ref aA, .ref aT, .ref aO, .int (nI n), .ref aE, .ref aI])), (aP, .inl (cI, 12, .inl fP)), (aA, .inl (cI, 12, .inl fA)), (aT, .inl (cI, 12, .inl fT)), (aO, .inl (cI, 12, .inl fO)), (aE, .inl (cI, 12, .inl fE)), (aI, .inl (cZ, 12, .inl fI)), (aB, .inl (cI, 8, .inl fB)), (aN, .inl (cI, 40, .inl fN)), (aY, .inl (cI, 480, .inl fY)), (aU, .inl (cI, 480, .inl fU)), (aS, .inl (cZ, 96, .inl fS))]) (r := (z_pc (z_lk fY fU fS (z_n x16) (z_n z17) 12) ra (fN (z_n x16 * 8 + z_n z17)) ca)) (As := [.ref ax, .int x16, .int z17]) (rest := [.long z14]) ⟨hx, hb, hml, hown, hts⟩ (c_L_penalty l dC dI cI cZ cJ ax aB aN aY aU aS tr ra ca fB fN fY fU fS ad aw lo up tp fW aq aP aA aT aO aE aI n fP fA fT fO fE fI x16 z17 (z_pyok2 ex16 hp ez17 hyq)) (vx_cwSW 3 hts gL_law_L_penalty rfl rfl rfl (by decide +kernel) ⟨Nat.le_of_ble_eq_true rfl, Nat.le_of_ble_eq_true rfl⟩) hK (hP.sub [0, 1, 2, 3, 4, 5, 6, 7, 8, 9, 10, 11, 12, 13, 14] rfl) rfl hl.1 rfl (Nat.le_of_ble_eq_true rfl) dL_law_1101 ⟨show 17 + k + 1 + 0 ≤ 115 by omega, show 2223 + 6 * k + 6 + 0 ≤ 2959 by omega⟩ ?_
                        refine lv_topi (fun v_6 ev_6 => ?_)
                        obtain rfl : v_6 = z_pc (z_lk fY fU fS pn yq 12) ra (fN (pn * 8 + yq)) ca := ev_6.trans (by rw [show z_n x16 = pn by rw [ex16]; exact z_nI (by omega), show z_n z17 = yq by rw [ez17]; exact z_nI (by omega)])
                        refine lv_i2l hx hb dL_law_1104 rfl ?_
                        refine lv_ladd hx hb dL_law_1105 ?_
                        refine lv_lstore (lv' := [(14, .long (z14 + ((z_pc (z_lk fY fU fS pn yq 12) ra (fN (pn * 8 + yq)) ca).toInt64))), (17, .int z17), (4, .int 1), (13, .int (x13 + (fY ((pn * 8 + z_n y0) * 12 + z_n h0)))), (16, .int x16), (0, .ref b), (1, .ref ax), (2, .ref am), (3, .ref ae), (5, .int x5), (10, .int y0), (11, .int h0)]) hx hb dL_law_1106 hl (by decide) rfl (fun ls hl => ?_)
                        refine lv_iinc (v := z17 + 1) (lv' := [(17, .int (z17 + 1)), (14, .long (z14 + ((z_pc (z_lk fY fU fS pn yq 12) ra (fN (pn * 8 + yq)) ca).toInt64))), (4, .int 1), (13, .int (x13 + (fY ((pn * 8 + z_n y0) * 12 + z_n h0)))), (16, .int x16), (0, .ref b), (1, .ref ax), (2, .ref am), (3, .ref ae), (5, .int x5), (10, .int y0), (11, .int h0)]) hx hb dL_law_1108 hl (k := 1) rfl rfl (by decide) rfl (fun ls hl => ?_)
                        refine lv_goto (tgt := 1087) hx hb dL_law_1111 (by decide) ?_
                        exact ih_yq (yq + 1) (z14 + ((z_pc (z_lk fY fU fS pn yq 12) ra (fN (pn * 8 + yq)) ca).toInt64)) (z17 + 1) (by omega) (by omega) (by rw [ez14]; rfl) (q_s1 ez17)   ls (lv_sub hl [1, 0, 2, 3, 4, 5, 6, 7, 8, 9, 10, 11] rfl)
                  exact lp_1087 (8 + 1) 0 x14 0 (by omega) (by omega) (ex14) (rfl)   ls (lv_sub hl [3, 0, 1, 2, 4, 5, 6, 7, 8, 9, 10, 11] rfl)
              refine lv_aload_n hx hb dL_law_1029 rfl (lv_at hl 4 rfl) ?_
              refine lv_iload hx hb dL_law_1030 (lv_at hl 2 rfl) ?_
              refine lv_iload hx hb dL_law_1032 (lv_at hl 9 rfl) ?_
              refine q_rSW (wc := [(ax, .inr (2, [.ref ad, .ref aq, .ref aB, .ref aN, .ref aY, .ref aU, .ref aS, .int tr, .int ra, .int ca])), (ad, .inr (0, [.ref aw, .int lo, .int up, .int tp])), (aw, .inl (cI, 1002, .inl fW)), (aq, .inr (1, [.ref aP, .ref aA, .ref aT, .ref aO, .int (nI n), .ref aE, .ref aI])), (aP, .inl (cI, 12, .inl fP)), (aA, .inl (cI, 12, .inl fA)), (aT, .inl (cI, 12, .inl fT)), (aO, .inl (cI, 12, .inl fO)), (aE, .inl (cI, 12, .inl fE)), (aI, .inl (cZ, 12, .inl fI)), (aB, .inl (cI, 8, .inl fB)), (aN, .inl (cI, 40, .inl fN)), (aY, .inl (cI, 480, .inl fY)), (aU, .inl (cI, 480, .inl fU)), (aS, .inl (cZ, 96, .inl fS))]) (r := (z_lk fY fU fS (z_n x16) (z_n y0) 12)) (As := [.ref ax, .int x16, .int y0]) (rest := []) ⟨hx, hb, hml, hown, hts⟩ (c_L_lack l dC dI cI cZ cJ ax aB aN aY aU aS tr ra ca fB fN fY fU fS ad aw lo up tp fW aq aP aA aT aO aE aI n fP fA fT fO fE fI x16 y0 (z_pyok ex16 hp hy7)) (vx_cwSW 3 hts gL_law_L_lack rfl rfl rfl (by decide +kernel) ⟨Nat.le_of_ble_eq_true rfl, Nat.le_of_ble_eq_true rfl⟩) hK (hP.sub [0, 1, 2, 3, 4, 5, 6, 7, 8, 9, 10, 11, 12, 13, 14] rfl) rfl hl.1 rfl (Nat.le_of_ble_eq_true rfl) dL_law_1034 ⟨show 17 + k + 1 + 0 ≤ 115 by omega, show 2223 + 6 * k + 6 + 0 ≤ 2959 by omega⟩ ?_
              refine lv_topi (fun v_7 ev_7 => ?_)
              obtain rfl : v_7 = z_lk fY fU fS pn (z_n y0) 12 := ev_7.trans (by rw [show z_n x16 = pn by rw [ex16]; exact z_nI (by omega)])
              refine lv_if_gt (tgt := 1051) hx hb dL_law_1037 (by decide) (fun c_1037 => ?_) (fun c_1037 => ?_)
              · exact jn_1051    ls (lv_sub hl [0, 1, 2, 3, 4, 5, 6, 7, 8, 9, 10] rfl)
              · refine lv_aload_n hx hb dL_law_1040 rfl (lv_at hl 4 rfl) ?_
                refine lv_iload hx hb dL_law_1041 (lv_at hl 2 rfl) ?_
                refine lv_iload hx hb dL_law_1043 (lv_at hl 9 rfl) ?_
                refine q_rSW (wc := [(ax, .inr (2, [.ref ad, .ref aq, .ref aB, .ref aN, .ref aY, .ref aU, .ref aS, .int tr, .int ra, .int ca])), (ad, .inr (0, [.ref aw, .int lo, .int up, .int tp])), (aw, .inl (cI, 1002, .inl fW)), (aq, .inr (1, [.ref aP, .ref aA, .ref aT, .ref aO, .int (nI n), .ref aE, .ref aI])), (aP, .inl (cI, 12, .inl fP)), (aA, .inl (cI, 12, .inl fA)), (aT, .inl (cI, 12, .inl fT)), (aO, .inl (cI, 12, .inl fO)), (aE, .inl (cI, 12, .inl fE)), (aI, .inl (cZ, 12, .inl fI)), (aB, .inl (cI, 8, .inl fB)), (aN, .inl (cI, 40, .inl fN)), (aY, .inl (cI, 480, .inl fY)), (aU, .inl (cI, 480, .inl fU)), (aS, .inl (cZ, 96, .inl fS))]) (r := (z_pc (z_lk fY fU fS (z_n x16) (z_n y0) 12) ra (fN (z_n x16 * 8 + z_n y0)) ca)) (As := [.ref ax, .int x16, .int y0]) (rest := []) ⟨hx, hb, hml, hown, hts⟩ (c_L_penalty l dC dI cI cZ cJ ax aB aN aY aU aS tr ra ca fB fN fY fU fS ad aw lo up tp fW aq aP aA aT aO aE aI n fP fA fT fO fE fI x16 y0 (z_pyok ex16 hp hy7)) (vx_cwSW 3 hts gL_law_L_penalty rfl rfl rfl (by decide +kernel) ⟨Nat.le_of_ble_eq_true rfl, Nat.le_of_ble_eq_true rfl⟩) hK (hP.sub [0, 1, 2, 3, 4, 5, 6, 7, 8, 9, 10, 11, 12, 13, 14] rfl) rfl hl.1 rfl (Nat.le_of_ble_eq_true rfl) dL_law_1045 ⟨show 17 + k + 1 + 0 ≤ 115 by omega, show 2223 + 6 * k + 6 + 0 ≤ 2959 by omega⟩ ?_
                refine lv_topi (fun v_8 ev_8 => ?_)
                obtain rfl : v_8 = z_pc (z_lk fY fU fS pn (z_n y0) 12) ra (fN (pn * 8 + z_n y0)) ca := ev_8.trans (by rw [show z_n x16 = pn by rw [ex16]; exact z_nI (by omega)])
                refine lv_if_ne (tgt := 1081) hx hb dL_law_1048 (by decide) (fun c_1048 => ?_) (fun c_1048 => ?_)
                · exact absurd (n2 c_1037) c_1048
                · exact jn_1051    ls (lv_sub hl [0, 1, 2, 3, 4, 5, 6, 7, 8, 9, 10] rfl)
  exact lp_979 (5 + 1) 0 0 0 0 (by omega) (by omega) (rfl) (rfl) (rfl)   ls (lv_sub hl [2, 1, 0, 3, 4, 5, 6, 7, 8, 9, 10] rfl)
