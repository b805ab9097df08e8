/-! The law's loop. -/
theorem z_ceE (xs : Nat → Int32) (nS k : Nat) : ∃ yv : Nat, yv < 2 ^ 31 ∧ z_ce xs nS k = nI yv := by
  unfold z_ce
  exact pk_andE _ 31 (by decide)
set_option maxHeartbeats 4000000 in
set_option maxRecDepth 100000 in
theorem law_loop {p : Program} {l : Launch} {e : Env} {s : State} {m : MethodId} {below : List Frame} {meth : Method} {c : Code} {b : Nat} {dC : Nat → ClassId} {dI : Nat → Nat → Nat} {cI cZ cJ : ClassId} (hfl : l.stackTraces = false) (hx : p.tables.exec = Jvm.exec) (hb : c.code = code) (hml : c.maxLocals = 19) (hown : s.vm.findClass RL = some m.cls) (hts : ∀ w ∈ wsL_law, w.before #[Value.ref b] s = true) (hXL : q_XKL s) (hNC : q_NC s) (hK : va_K (dC, dI) vwCl (q_T cI cZ cJ) s)  {L : Nat} {xs : Nat → Int32} (hX : va_X b L xs s s.heap) (hbl : b < s.heap.size) (hL : L ≤ 260) (hr : meth.sig.returnType = ret) (hlocks : meth.locks = false) {ax aB aN aY aU aS ad aw aq aP aA aT aO aE aI am ae : Nat}  : ∀ (w k : Nat), 50 < k + w → k ≤ 50 → ∀ (tr ra ca : Int32) (fB fN fY fU fS : Nat → Int32) (lo up tp : Int32) (fW : Nat → Int32) (n : Nat) (fP fA fT fO fE fI : Nat → Int32), z_K k ra ca fW n fP fA fT fO fE fB fN fY fU → ∀ (H : Heap) (locs : List Loc), va_P (dC, dI) vwCl [(ax, .inr (2, [.ref ad, .ref aq, .ref aB, .ref aN, .ref aY, .ref aU, .ref aS, .int tr, .int ra, .int ca])), (ad, .inr (0, [.ref aw, .int lo, .int up, .int tp])), (aw, .inl (cI, 1002, .inl fW)), (aq, .inr (1, [.ref aP, .ref aA, .ref aT, .ref aO, .int (nI n), .ref aE, .ref aI])), (aP, .inl (cI, 12, .inl fP)), (aA, .inl (cI, 12, .inl fA)), (aT, .inl (cI, 12, .inl fT)), (aO, .inl (cI, 12, .inl fO)), (aE, .inl (cI, 12, .inl fE)), (aI, .inl (cZ, 12, .inl fI)), (aB, .inl (cI, 8, .inl fB)), (aN, .inl (cI, 40, .inl fN)), (aY, .inl (cI, 480, .inl fY)), (aU, .inl (cI, 480, .inl fU)), (aS, .inl (cZ, 96, .inl fS)), (am, .inl (cI, 12, .inl fA)), (ae, .inl (cI, 12, .inl fE))] H → va_D (fun q : Nat => s.heap.size ≤ q) [(ax, .inr (2, [.ref ad, .ref aq, .ref aB, .ref aN, .ref aY, .ref aU, .ref aS, .int tr, .int ra, .int ca])), (ad, .inr (0, [.ref aw, .int lo, .int up, .int tp])), (aw, .inl (cI, 1002, .inl fW)), (aq, .inr (1, [.ref aP, .ref aA, .ref aT, .ref aO, .int (nI n), .ref aE, .ref aI])), (aP, .inl (cI, 12, .inl fP)), (aA, .inl (cI, 12, .inl fA)), (aT, .inl (cI, 12, .inl fT)), (aO, .inl (cI, 12, .inl fO)), (aE, .inl (cI, 12, .inl fE)), (aI, .inl (cZ, 12, .inl fI)), (aB, .inl (cI, 8, .inl fB)), (aN, .inl (cI, 40, .inl fN)), (aY, .inl (cI, 480, .inl fY)), (aU, .inl (cI, 480, .inl fU)), (aS, .inl (cZ, 96, .inl fS)), (am, .inl (cI, 12, .inl fA)), (ae, .inl (cI, 12, .inl fE))] → va_S (fun q : Nat => s.heap.size ≤ q) s.heap H locs → ∀ (ls : Array Slot), lv_has ls 19 [(0, .ref b), (1, .ref ax), (2, .ref am), (3, .ref ae), (4, .int 1), (5, .int (nI k))] → W p l e room_1 s m #[Value.ref b] below meth c H locs (17 + k) (2223 + 6 * k) (lw_Z below #[Value.ref b] s) (F0 m 51 ls []) := by
  intro w
  induction w with
  | zero => intro k h1 h2; exact absurd h1 (by omega)
  | succ w ih =>
    intro k hw hk50 tr ra ca fB fN fY fU fS lo up tp fW n fP fA fT fO fE fI hJ H locs hP hD hS ls hl
    refine lv_iload hx hb dL_law_51 (lv_at hl 5 rfl) ?_
    refine lv_bipush (v := 50) hx hb dL_law_53 (by decide) ?_
    refine lv_icmp_ge (tgt := 1159) hx hb dL_law_55 (by decide) (fun c_55 => ?_) (fun c_55 => ?_)
    · refine lv_iload hx hb dL_law_1159 (lv_at hl 4 rfl) ?_
      refine va_forget (fun q hq => hS.2.2 q hq) ?_
      refine W.widen (k := 115) (n := 2959) (by omega) (by omega) ?_
      exact lw_ret hx hb hr hlocks dL_law_1161
    · have hk : k < 50 := q_lt (x := nI k) rfl hk50 (by omega) c_55
      have hN0 : lw_N0 p l e s m below meth c b dC dI cI cZ cJ ax aB aN aY aU aS ad aw aq aP aA aT aO aE aI am ae (nI k) k := by
        intro tr ra ca fB fN fY fU fS lo up tp fW n fP fA fT fO fE fI H locs hP hD hS hJ ls hl
        rw [nI_1] at hl
        have h2 := ih (k + 1) (by omega) (by omega) tr ra ca fB fN fY fU fS lo up tp fW n fP fA fT fO fE fI hJ H locs hP hD hS ls hl
        rw [show 17 + (k + 1) = 17 + k + 1 by omega, show 2223 + 6 * (k + 1) = 2223 + 6 * k + 6 by omega] at h2
        exact h2
      refine lv_iload hx hb dL_law_58 (lv_at hl 4 rfl) ?_
      refine lv_if_eq (tgt := 1159) hx hb dL_law_60 (by decide) (fun c_60 => ?_) (fun c_60 => ?_)
      · exact absurd c_60 (by decide)
      · refine lv_aload_n hx hb dL_law_63 rfl (lv_at hl 0 rfl) ?_
        refine lv_iload hx hb dL_law_64 (lv_at hl 5 rfl) ?_
        obtain ⟨yv, hyv, eyv⟩ := z_ceE xs L k
        obtain ⟨zv, hzv⟩ : ∃ v, v = yv / 16 := ⟨_, rfl⟩
        obtain ⟨kv, hkv⟩ : ∃ v, v = yv % 16 := ⟨_, rfl⟩
        have hp4 : z_in (nI (zv % 5)) 0 4 = true := z_inN (a := 0) (b := 4) (by omega) (by omega) (by omega)
        have hy7 : z_in (nI ((zv / 5) % 8)) 0 7 = true := z_inN (a := 0) (b := 7) (by omega) (by omega) (by omega)
        have hh11 : z_in (nI ((zv / 40) % 12)) 0 11 = true := z_inN (a := 0) (b := 11) (by omega) (by omega) (by omega)
        have hN : lw_N1 p l e s m below meth c b dC dI cI cZ cJ ax aB aN aY aU aS ad aw aq aP aA aT aO aE aI am ae (nI k) (nI ((zv / 5) % 8)) (nI ((zv / 40) % 12)) k := by
          intro tr ra ca fB fN fY fU fS lo up tp fW n fP fA fT fO fE fI H locs hP hD hS hJ ls hl
          exact lt_tail hfl hx hb hml hown hts hXL hNC hK hk hy7 hh11 hJ hP hD hS hl hN0
        refine q_cSX (r := (z_ce xs L k)) (As := [.ref b, .int (nI k)]) (rest := []) ⟨hx, hb, hml, hown, hts⟩ (c_L_cell l b L k xs (by omega) (by omega)) (va_cwS 2 hts gL_law_L_cell rfl rfl rfl (by decide +kernel) ⟨Nat.le_of_ble_eq_true rfl, Nat.le_of_ble_eq_true rfl⟩) (q_Xat hX hbl (fun h9 => absurd hbl (Nat.not_lt.mpr h9)) hS).1 (q_Xat hX hbl (fun h9 => absurd hbl (Nat.not_lt.mpr h9)) hS).2 rfl hl.1 rfl (Nat.le_of_ble_eq_true rfl) dL_law_66 ⟨show 17 + k + 0 ≤ 115 by omega, show 2223 + 6 * k + 0 ≤ 2959 by omega⟩ ?_
        refine lv_topi (fun v_1 ev_1 => ?_)
        obtain rfl : v_1 = nI yv := ev_1.trans (eyv)
        refine lv_istore (lv' := [(6, .int (nI yv)), (0, .ref b), (1, .ref ax), (2, .ref am), (3, .ref ae), (4, .int 1), (5, .int (nI k))]) hx hb dL_law_69 hl (by decide) rfl (fun ls hl => ?_)
        refine lv_iload hx hb dL_law_71 (lv_at hl 0 rfl) ?_
        refine lv_bipush (v := 16) hx hb dL_law_73 (by decide) ?_
        refine lv_idiv hx hb dL_law_75 (by decide) ?_
        refine lv_topi (fun v_2 ev_2 => ?_)
        obtain rfl : v_2 = nI (yv / 16) := ev_2.trans (pk_div (a := yv) (d := 16) (by omega) (by omega) (by omega))
        refine lv_topi (fun v_3 ev_3 => ?_)
        obtain rfl : v_3 = nI zv := ev_3.trans (by rw [hzv])
        refine lv_istore (lv' := [(7, .int (nI zv)), (6, .int (nI yv)), (0, .ref b), (1, .ref ax), (2, .ref am), (3, .ref ae), (4, .int 1), (5, .int (nI k))]) hx hb dL_law_76 hl (by decide) rfl (fun ls hl => ?_)
        refine lv_iload hx hb dL_law_78 (lv_at hl 1 rfl) ?_
        refine lv_bipush (v := 16) hx hb dL_law_80 (by decide) ?_
        refine lv_irem hx hb dL_law_82 (by decide) ?_
        refine lv_topi (fun v_4 ev_4 => ?_)
        obtain rfl : v_4 = nI (yv % 16) := ev_4.trans (pk_rem (a := yv) (d := 16) (by omega) (by omega) (by omega))
        refine lv_topi (fun v_5 ev_5 => ?_)
        obtain rfl : v_5 = nI kv := ev_5.trans (by rw [hkv])
        refine lv_istore (lv' := [(8, .int (nI kv)), (7, .int (nI zv)), (6, .int (nI yv)), (0, .ref b), (1, .ref ax), (2, .ref am), (3, .ref ae), (4, .int 1), (5, .int (nI k))]) hx hb dL_law_83 hl (by decide) rfl (fun ls hl => ?_)
        refine lv_iload hx hb dL_law_85 (lv_at hl 1 rfl) ?_
        refine lv_iconst (v := 5) hx hb dL_law_87 (by decide) ?_
        refine lv_irem hx hb dL_law_88 (by decide) ?_
        refine lv_topi (fun v_6 ev_6 => ?_)
        obtain rfl : v_6 = nI (zv % 5) := ev_6.trans (pk_rem (a := zv) (d := 5) (by omega) (by omega) (by omega))
        refine lv_istore (lv' := [(9, .int (nI (zv % 5))), (8, .int (nI kv)), (7, .int (nI zv)), (6, .int (nI yv)), (0, .ref b), (1, .ref ax), (2, .ref am), (3, .ref ae), (4, .int 1), (5, .int (nI k))]) hx hb dL_law_89 hl (by decide) rfl (fun ls hl => ?_)
        refine lv_iload hx hb dL_law_91 (lv_at hl 2 rfl) ?_
        refine lv_iconst (v := 5) hx hb dL_law_93 (by decide) ?_
        refine lv_idiv hx hb dL_law_94 (by decide) ?_
        refine lv_topi (fun v_7 ev_7 => ?_)
        obtain rfl : v_7 = nI (zv / 5) := ev_7.trans (pk_div (a := zv) (d := 5) (by omega) (by omega) (by omega))
        refine lv_bipush (v := 8) hx hb dL_law_95 (by decide) ?_
        refine lv_irem hx hb dL_law_97 (by decide) ?_
        refine lv_topi (fun v_8 ev_8 => ?_)
        obtain rfl : v_8 = nI ((zv / 5) % 8) := ev_8.trans (pk_rem (a := zv / 5) (d := 8) (by omega) (by omega) (by omega))
        refine lv_istore (lv' := [(10, .int (nI ((zv / 5) % 8))), (9, .int (nI (zv % 5))), (8, .int (nI kv)), (7, .int (nI zv)), (6, .int (nI yv)), (0, .ref b), (1, .ref ax), (2, .ref am), (3, .ref ae), (4, .int 1), (5, .int (nI k))]) hx hb dL_law_98 hl (by decide) rfl (fun ls hl => ?_)
        refine lv_iload hx hb dL_law_100 (lv_at hl 3 rfl) ?_
        refine lv_bipush (v := 40) hx hb dL_law_102 (by decide) ?_
        refine lv_idiv hx hb dL_law_104 (by decide) ?_
        refine lv_topi (fun v_9 ev_9 => ?_)
        obtain rfl : v_9 = nI (zv / 40) := ev_9.trans (pk_div (a := zv) (d := 40) (by omega) (by omega) (by omega))
        refine lv_bipush (v := 12) hx hb dL_law_105 (by decide) ?_
        refine lv_irem hx hb dL_law_107 (by decide) ?_
        refine lv_topi (fun v_10 ev_10 => ?_)
        obtain rfl : v_10 = nI ((zv / 40) % 12) := ev_10.trans (pk_rem (a := zv / 40) (d := 12) (by omega) (by omega) (by omega))
        refine lv_istore (lv' := [(11, .int (nI ((zv / 40) % 12))), (10, .int (nI ((zv / 5) % 8))), (9, .int (nI (zv % 5))), (8, .int (nI kv)), (7, .int (nI zv)), (6, .int (nI yv)), (0, .ref b), (1, .ref ax), (2, .ref am), (3, .ref ae), (4, .int 1), (5, .int (nI k))]) hx hb dL_law_108 hl (by decide) rfl (fun ls hl => ?_)
        refine lv_aload_n hx hb dL_law_110 rfl (lv_at hl 7 rfl) ?_
        refine q_rV (wc := [(ax, .inr (2, [.ref ad, .ref aq, .ref aB, .ref aN, .ref aY, .ref aU, .ref aS, .int tr, .int ra, .int ca])), (ad, .inr (0, [.ref aw, .int lo, .int up, .int tp])), (aw, .inl (cI, 1002, .inl fW)), (aq, .inr (1, [.ref aP, .ref aA, .ref aT, .ref aO, .int (nI n), .ref aE, .ref aI])), (aP, .inl (cI, 12, .inl fP)), (aA, .inl (cI, 12, .inl fA)), (aT, .inl (cI, 12, .inl fT)), (aO, .inl (cI, 12, .inl fO)), (aE, .inl (cI, 12, .inl fE)), (aI, .inl (cZ, 12, .inl fI)), (aB, .inl (cI, 8, .inl fB)), (aN, .inl (cI, 40, .inl fN)), (aY, .inl (cI, 480, .inl fY)), (aU, .inl (cI, 480, .inl fU)), (aS, .inl (cZ, 96, .inl fS))]) (r := (nI n)) (As := []) (rest := []) ⟨hx, hb, hml, hown, hts⟩ (c_X2_offers l dC dI cI cZ cJ ax aB aN aY aU aS tr ra ca fB fN fY fU fS ad aw lo up tp fW aq aP aA aT aO aE aI n fP fA fT fO fE fI) (cwV 0 hts gL_law_X2_offers rfl rfl rfl (by decide +kernel) ⟨Nat.le_of_ble_eq_true rfl, Nat.le_of_ble_eq_true rfl⟩) hK (hP.sub [0, 1, 2, 3, 4, 5, 6, 7, 8, 9, 10, 11, 12, 13, 14] rfl) 2 0 rfl rfl rfl rfl hl.1 rfl (Nat.le_of_ble_eq_true rfl) dL_law_111 ⟨show 17 + k + 0 ≤ 115 by omega, show 2223 + 6 * k + 0 ≤ 2959 by omega⟩ ?_
        refine lv_istore (lv' := [(12, .int (nI n)), (11, .int (nI ((zv / 40) % 12))), (10, .int (nI ((zv / 5) % 8))), (9, .int (nI (zv % 5))), (8, .int (nI kv)), (7, .int (nI zv)), (6, .int (nI yv)), (0, .ref b), (1, .ref ax), (2, .ref am), (3, .ref ae), (4, .int 1), (5, .int (nI k))]) hx hb dL_law_114 hl (by decide) rfl (fun ls hl => ?_)
        refine lv_iload hx hb dL_law_116 (lv_at hl 4 rfl) ?_
        refine lv_bipush (v := 7) hx hb dL_law_118 (by decide) ?_
        refine lv_icmp_ge (tgt := 283) hx hb dL_law_120 (by decide) (fun c_120 => ?_) (fun c_120 => ?_)
        · refine lv_iload hx hb dL_law_283 (lv_at hl 4 rfl) ?_
          refine lv_bipush (v := 7) hx hb dL_law_285 (by decide) ?_
          refine lv_icmp_ne (tgt := 355) hx hb dL_law_287 (by decide) (fun c_287 => ?_) (fun c_287 => ?_)
          · refine lv_iload hx hb dL_law_355 (lv_at hl 4 rfl) ?_
            refine lv_bipush (v := 10) hx hb dL_law_357 (by decide) ?_
            refine lv_icmp_ge (tgt := 600) hx hb dL_law_359 (by decide) (fun c_359 => ?_) (fun c_359 => ?_)
            · refine lv_iload hx hb dL_law_600 (lv_at hl 4 rfl) ?_
              refine lv_bipush (v := 12) hx hb dL_law_602 (by decide) ?_
              refine lv_icmp_ge (tgt := 792) hx hb dL_law_604 (by decide) (fun c_604 => ?_) (fun c_604 => ?_)
              · refine lv_iload hx hb dL_law_792 (lv_at hl 4 rfl) ?_
                refine lv_bipush (v := 12) hx hb dL_law_794 (by decide) ?_
                refine lv_icmp_ne (tgt := 848) hx hb dL_law_796 (by decide) (fun c_796 => ?_) (fun c_796 => ?_)
                · refine lv_iload hx hb dL_law_848 (lv_at hl 4 rfl) ?_
                  refine lv_bipush (v := 15) hx hb dL_law_850 (by decide) ?_
                  refine lv_icmp_ge (tgt := 940) hx hb dL_law_852 (by decide) (fun c_852 => ?_) (fun c_852 => ?_)
                  · exact lc_pen hfl hx hb hml hown hts hXL hNC hK hk hy7 hh11 (zv := zv) (by omega) hp4 hJ hP hD hS (lv_sub hl [7, 8, 9, 10, 11, 12, 5, 3, 2, 1, 0] rfl) hN
                  · exact lc_tell hfl hx hb hml hown hts hXL hNC hK hk hy7 hh11 (zv := zv) (by omega) hp4 hJ hP hD hS (lv_sub hl [7, 8, 9, 10, 11, 12, 5, 3, 2, 1, 0] rfl) hN
                · exact lc_stress hfl hx hb hml hown hts hXL hNC hK hk hy7 hh11 (zv := zv) (by omega) hp4 hJ hP hD hS (lv_sub hl [7, 8, 9, 10, 11, 12, 5, 3, 2, 1, 0] rfl) hN
              · exact lc_trade hfl hx hb hml hown hts hXL hNC hK hk hy7 hh11 (zv := zv) (by omega) hp4 hJ hP hD hS (lv_sub hl [7, 8, 9, 10, 11, 12, 5, 3, 2, 1, 0] rfl) hN
            · exact lc_run hfl hx hb hml hown hts hXL hNC hK hk hy7 hh11 (zv := zv) (by omega) hp4 hJ hP hD hS (lv_sub hl [7, 8, 9, 10, 11, 12, 5, 3, 2, 1, 0] rfl) hN
          · exact lc_demand hfl hx hb hml hown hts hXL hNC hK hk hy7 hh11 (zv := zv) (by omega) hp4 hJ hP hD hS (lv_sub hl [7, 8, 9, 10, 11, 12, 5, 3, 2, 1, 0] rfl) hN
        · exact lc_offer hfl hx hb hml hown hts hXL hNC hK hk hy7 hh11 (zv := zv) (by omega) hp4 hJ hP hD hS (lv_sub hl [7, 8, 9, 10, 11, 12, 5, 3, 2, 1, 0] rfl) hN
