set_option maxHeartbeats 4000000 in
set_option maxRecDepth 100000 in
theorem c_X2_take (l : Launch) (dC : Nat → ClassId) (dI : Nat → Nat → Nat) (cI cZ cJ : ClassId) (ax aB aN aY aU aS : Nat) (tr ra ca : Int32) (fB fN fY fU fS : Nat → Int32) (ad aw : Nat) (lo up tp : Int32) (fW : Nat → Int32) (aq aP aA aT aO aE aI n : Nat) (fP fA fT fO fE fI : Nat → Int32) (jo fy0 pr : Int32) (j pn y T : Nat) (hj : jo = nI j) (hj12 : j < 12) (hp : fP j = nI pn) (hp5 : pn < 5) (hy : fy0 = nI y) (hy8 : y < 8) (hT : fT j = nI T) (hT4 : T ≤ 4) : Met l yX2_take wsX2_take ({ frames := 2, cells := 0, slots := 0, locals := 43 }) (va_Pc [.ref ax, .int jo, .int fy0, .int pr] (q_M (dC, dI) vwCl (q_T cI cZ cJ) [(ax, .inr (2, [.ref ad, .ref aq, .ref aB, .ref aN, .ref aY, .ref aU, .ref aS, .int tr, .int ra, .int ca])), (ad, .inr (0, [.ref aw, .int lo, .int up, .int tp])), (aw, .inl (cI, 1002, .inl fW)), (aq, .inr (1, [.ref aP, .ref aA, .ref aT, .ref aO, .int (nI n), .ref aE, .ref aI])), (aP, .inl (cI, 12, .inl fP)), (aA, .inl (cI, 12, .inl fA)), (aT, .inl (cI, 12, .inl fT)), (aO, .inl (cI, 12, .inl fO)), (aE, .inl (cI, 12, .inl fE)), (aI, .inl (cZ, 12, .inl fI)), (aB, .inl (cI, 8, .inl fB)), (aN, .inl (cI, 40, .inl fN)), (aY, .inl (cI, 480, .inl fY)), (aU, .inl (cI, 480, .inl fU)), (aS, .inl (cZ, 96, .inl fS))])) (q_W none (dC, dI) vwCl [(ax, .inr (2, [.ref ad, .ref aq, .ref aB, .ref aN, .ref aY, .ref aU, .ref aS, .int tr, .int ra, .int ca])), (ad, .inr (0, [.ref aw, .int lo, .int up, .int tp])), (aw, .inl (cI, 1002, .inl fW)), (aq, .inr (1, [.ref aP, .ref aA, .ref aT, .ref aO, .int (nI n), .ref aE, .ref aI])), (aP, .inl (cI, 12, .inl fP)), (aA, .inl (cI, 12, .inl fA)), (aT, .inl (cI, 12, .inl fT)), (aO, .inl (cI, 12, .inl fO)), (aE, .inl (cI, 12, .inl fE)), (aI, .inl (cZ, 12, .inl fI)), (aB, .inl (cI, 8, .inl (z_ad fB y (min (y + T) 8) (fA j)))), (aN, .inl (cI, 40, .inl (z_ad fN (pn * 8 + y) (pn * 8 + (min (y + T) 8)) (fA j * pr)))), (aY, .inl (cI, 480, .inl (z_ad fY ((pn * 8 + y) * 12) ((pn * 8 + (min (y + T) 8)) * 12) (fA j)))), (aU, .inl (cI, 480, .inl fU)), (aS, .inl (cZ, 96, .inl fS))] (q_B [(ax, .inr (2, [.ref ad, .ref aq, .ref aB, .ref aN, .ref aY, .ref aU, .ref aS, .int tr, .int ra, .int ca])), (ad, .inr (0, [.ref aw, .int lo, .int up, .int tp])), (aw, .inl (cI, 1002, .inl fW)), (aq, .inr (1, [.ref aP, .ref aA, .ref aT, .ref aO, .int (nI n), .ref aE, .ref aI])), (aP, .inl (cI, 12, .inl fP)), (aA, .inl (cI, 12, .inl fA)), (aT, .inl (cI, 12, .inl fT)), (aO, .inl (cI, 12, .inl fO)), (aE, .inl (cI, 12, .inl fE)), (aI, .inl (cZ, 12, .inl fI)), (aB, .inl (cI, 8, .inl fB)), (aN, .inl (cI, 40, .inl fN)), (aY, .inl (cI, 480, .inl fY)), (aU, .inl (cI, 480, .inl fU)), (aS, .inl (cZ, 96, .inl fS))])) 0 0 (q_B [(ax, .inr (2, [.ref ad, .ref aq, .ref aB, .ref aN, .ref aY, .ref aU, .ref aS, .int tr, .int ra, .int ca])), (ad, .inr (0, [.ref aw, .int lo, .int up, .int tp])), (aw, .inl (cI, 1002, .inl fW)), (aq, .inr (1, [.ref aP, .ref aA, .ref aT, .ref aO, .int (nI n), .ref aE, .ref aI])), (aP, .inl (cI, 12, .inl fP)), (aA, .inl (cI, 12, .inl fA)), (aT, .inl (cI, 12, .inl fT)), (aO, .inl (cI, 12, .inl fO)), (aE, .inl (cI, 12, .inl fE)), (aI, .inl (cZ, 12, .inl fI)), (aB, .inl (cI, 8, .inl fB)), (aN, .inl (cI, 40, .inl fN)), (aY, .inl (cI, 480, .inl fY)), (aU, .inl (cI, 480, .inl fU)), (aS, .inl (cZ, 96, .inl fS))]) := by
  refine Met.ofW (cc := cX2_take) (maxL := 9) (ret := none) (by decide) rfl ?_
  intro p e s m args below meth c s₁ B hml hv
  obtain ⟨rfl, hP, hK, hD0⟩ := hv
  have hx := B.exec
  have hb := B.bytes
  have hr := B.returns
  have hts := atoms_spec (ws := wsX2_take) B.pre
  have hown : s.vm.findClass RX2 = some m.cls := findClass_of_methodNamed B.named
  have hlocks := B.notSynchronized
  have hD := q_Bself hD0
  generalize hAe : q_B [(ax, .inr (2, [.ref ad, .ref aq, .ref aB, .ref aN, .ref aY, .ref aU, .ref aS, .int tr, .int ra, .int ca])), (ad, .inr (0, [.ref aw, .int lo, .int up, .int tp])), (aw, .inl (cI, 1002, .inl fW)), (aq, .inr (1, [.ref aP, .ref aA, .ref aT, .ref aO, .int (nI n), .ref aE, .ref aI])), (aP, .inl (cI, 12, .inl fP)), (aA, .inl (cI, 12, .inl fA)), (aT, .inl (cI, 12, .inl fT)), (aO, .inl (cI, 12, .inl fO)), (aE, .inl (cI, 12, .inl fE)), (aI, .inl (cZ, 12, .inl fI)), (aB, .inl (cI, 8, .inl fB)), (aN, .inl (cI, 40, .inl fN)), (aY, .inl (cI, 480, .inl fY)), (aU, .inl (cI, 480, .inl fU)), (aS, .inl (cZ, 96, .inl fS))] = A at hD ⊢
  have hS : va_S A s.heap s.heap [] := va_S.rf
  have hP : va_P (dC, dI) vwCl [(ax, .inr (2, [.ref ad, .ref aq, .ref aB, .ref aN, .ref aY, .ref aU, .ref aS, .int tr, .int ra, .int ca])), (ad, .inr (0, [.ref aw, .int lo, .int up, .int tp])), (aw, .inl (cI, 1002, .inl fW)), (aq, .inr (1, [.ref aP, .ref aA, .ref aT, .ref aO, .int (nI n), .ref aE, .ref aI])), (aP, .inl (cI, 12, .inl fP)), (aA, .inl (cI, 12, .inl fA)), (aT, .inl (cI, 12, .inl fT)), (aO, .inl (cI, 12, .inl fO)), (aE, .inl (cI, 12, .inl fE)), (aI, .inl (cZ, 12, .inl fI)), (aB, .inl (cI, 8, .inl fB)), (aN, .inl (cI, 40, .inl fN)), (aY, .inl (cI, 480, .inl fY)), (aU, .inl (cI, 480, .inl fU)), (aS, .inl (cZ, 96, .inl fS))] s.heap := hP
  have hl := lv_entry ([.ref ax, .int jo, .int fy0, .int pr]) (n := 9) (Nat.le_of_ble_eq_true rfl)
  rw [lg_entry_eq]
  generalize (lg_sl ([.ref ax, .int jo, .int fy0, .int pr]) ++ List.replicate (9 - (lg_sl ([.ref ax, .int jo, .int fy0, .int pr])).length) Slot.unset).toArray = ls at hl ⊢
  have hl : lv_has ls 9 [(0, .ref ax), (1, .int jo), (2, .int fy0), (3, .int pr)] := hl
  refine lv_aload_n hx hb dX2_take_0 rfl (lv_at hl 0 rfl) ?_
  refine va_get (D := (dC, dI)) (ci := 2) (v := .ref aq) (C := RX2) (T := TX2) (N := 10) hx hb hts (by decide +kernel) hown hK hP 0 rfl rfl 1 (by decide) (hts (.fieldLink RX2 19 "CapacityRound" "queue" "LCapacityRound$Queue;") (by decide +kernel)) (fun _ h9 => h9) rfl dX2_take_1 ?_
  refine va_get (D := (dC, dI)) (ci := 1) (v := .ref aP) (C := RX1) (T := TX1) (N := 7) hx hb hts (by decide +kernel) hown hK hP 3 rfl rfl 0 (by decide) (hts (.fieldLink RX2 177 "CapacityRound$Queue" "parties" "[I") (by decide +kernel)) (fun _ h9 => h9) rfl dX2_take_4 ?_
  refine lv_iload_n hx hb dX2_take_7 rfl (lv_at hl 1 rfl) ?_
  refine q_iald hx hb hK hP 4 0 rfl rfl j (hj) (hj12) (by decide) dX2_take_8 ?_
  refine lv_topi (fun v_1 ev_1 => ?_)
  obtain rfl : v_1 = nI pn := ev_1.trans (hp)
  refine lv_istore (lv' := [(4, .int (nI pn)), (0, .ref ax), (1, .int jo), (2, .int fy0), (3, .int pr)]) hx hb dX2_take_9 hl (by decide) rfl (fun ls hl => ?_)
  refine lv_aload_n hx hb dX2_take_11 rfl (lv_at hl 1 rfl) ?_
  refine va_get (D := (dC, dI)) (ci := 2) (v := .ref aq) (C := RX2) (T := TX2) (N := 10) hx hb hts (by decide +kernel) hown hK hP 0 rfl rfl 1 (by decide) (hts (.fieldLink RX2 19 "CapacityRound" "queue" "LCapacityRound$Queue;") (by decide +kernel)) (fun _ h9 => h9) rfl dX2_take_12 ?_
  refine va_get (D := (dC, dI)) (ci := 1) (v := .ref aA) (C := RX1) (T := TX1) (N := 7) hx hb hts (by decide +kernel) hown hK hP 3 rfl rfl 1 (by decide) (hts (.fieldLink RX2 180 "CapacityRound$Queue" "amounts" "[I") (by decide +kernel)) (fun _ h9 => h9) rfl dX2_take_15 ?_
  refine lv_iload_n hx hb dX2_take_18 rfl (lv_at hl 2 rfl) ?_
  refine q_iald hx hb hK hP 5 0 rfl rfl j (hj) (hj12) (by decide) dX2_take_19 ?_
  refine lv_istore (lv' := [(5, .int (fA j)), (4, .int (nI pn)), (0, .ref ax), (1, .int jo), (2, .int fy0), (3, .int pr)]) hx hb dX2_take_20 hl (by decide) rfl (fun ls hl => ?_)
  refine lv_iload_n hx hb dX2_take_22 rfl (lv_at hl 4 rfl) ?_
  refine lv_aload_n hx hb dX2_take_23 rfl (lv_at hl 2 rfl) ?_
  refine va_get (D := (dC, dI)) (ci := 2) (v := .ref aq) (C := RX2) (T := TX2) (N := 10) hx hb hts (by decide +kernel) hown hK hP 0 rfl rfl 1 (by decide) (hts (.fieldLink RX2 19 "CapacityRound" "queue" "LCapacityRound$Queue;") (by decide +kernel)) (fun _ h9 => h9) rfl dX2_take_24 ?_
  refine va_get (D := (dC, dI)) (ci := 1) (v := .ref aT) (C := RX1) (T := TX1) (N := 7) hx hb hts (by decide +kernel) hown hK hP 3 rfl rfl 2 (by decide) (hts (.fieldLink RX2 183 "CapacityRound$Queue" "terms" "[I") (by decide +kernel)) (fun _ h9 => h9) rfl dX2_take_27 ?_
  refine lv_iload_n hx hb dX2_take_30 rfl (lv_at hl 3 rfl) ?_
  refine q_iald hx hb hK hP 6 0 rfl rfl j (hj) (hj12) (by decide) dX2_take_31 ?_
  refine lv_topi (fun v_2 ev_2 => ?_)
  obtain rfl : v_2 = nI T := ev_2.trans (hT)
  refine lv_iadd hx hb dX2_take_32 ?_
  refine lv_bipush (v := 8) hx hb dX2_take_33 (by decide) ?_
  refine va_mmin hx hb (by rw [hml]; exact hl.1.symm) hown (hts (.methodLink RX2 186 Lib.Math.min.name) (by decide +kernel)) (hts (.static Lib.Math.min.name) (by decide +kernel)) (hts (.initialized "java/lang/Math") (by decide +kernel)) (hts (.code Lib.Math.min.name Lib.Math.min.code 2 (some .int)) (by decide +kernel)) (Nat.le_of_ble_eq_true rfl) (Nat.le_of_ble_eq_true rfl) (Nat.zero_le _) (Nat.zero_le _) dX2_take_35 ?_
  refine lv_topi (fun v_3 ev_3 => ?_)
  obtain rfl : v_3 = nI (min (y + T) 8) := ev_3.trans (z_mn hy hy8 hT4)
  refine lv_istore (lv' := [(6, .int (nI (min (y + T) 8))), (5, .int (fA j)), (4, .int (nI pn)), (0, .ref ax), (1, .int jo), (2, .int fy0), (3, .int pr)]) hx hb dX2_take_38 hl (by decide) rfl (fun ls hl => ?_)
  refine lv_iload_n hx hb dX2_take_40 rfl (lv_at hl 5 rfl) ?_
  refine lv_istore (lv' := [(7, .int fy0), (6, .int (nI (min (y + T) 8))), (5, .int (fA j)), (4, .int (nI pn)), (0, .ref ax), (1, .int jo), (2, .int fy0), (3, .int pr)]) hx hb dX2_take_41 hl (by decide) rfl (fun ls hl => ?_)
  have lp_43 : ∀ (wk k : Nat) (x7 : Int32), y ≤ k → k ≤ min (y + T) 8 → min (y + T) 8 < k + wk → x7 = nI k → ∀ (H : Heap) (locs : List Loc), va_P (dC, dI) vwCl [(ax, .inr (2, [.ref ad, .ref aq, .ref aB, .ref aN, .ref aY, .ref aU, .ref aS, .int tr, .int ra, .int ca])), (ad, .inr (0, [.ref aw, .int lo, .int up, .int tp])), (aw, .inl (cI, 1002, .inl fW)), (aq, .inr (1, [.ref aP, .ref aA, .ref aT, .ref aO, .int (nI n), .ref aE, .ref aI])), (aP, .inl (cI, 12, .inl fP)), (aA, .inl (cI, 12, .inl fA)), (aT, .inl (cI, 12, .inl fT)), (aO, .inl (cI, 12, .inl fO)), (aE, .inl (cI, 12, .inl fE)), (aI, .inl (cZ, 12, .inl fI)), (aB, .inl (cI, 8, .inl (z_ad fB y k (fA j)))), (aN, .inl (cI, 40, .inl (z_ad fN (pn * 8 + y) (pn * 8 + k) (fA j * pr)))), (aY, .inl (cI, 480, .inl (z_ad fY ((pn * 8 + y) * 12) ((pn * 8 + k) * 12) (fA j)))), (aU, .inl (cI, 480, .inl fU)), (aS, .inl (cZ, 96, .inl fS))] H → va_D A [(ax, .inr (2, [.ref ad, .ref aq, .ref aB, .ref aN, .ref aY, .ref aU, .ref aS, .int tr, .int ra, .int ca])), (ad, .inr (0, [.ref aw, .int lo, .int up, .int tp])), (aw, .inl (cI, 1002, .inl fW)), (aq, .inr (1, [.ref aP, .ref aA, .ref aT, .ref aO, .int (nI n), .ref aE, .ref aI])), (aP, .inl (cI, 12, .inl fP)), (aA, .inl (cI, 12, .inl fA)), (aT, .inl (cI, 12, .inl fT)), (aO, .inl (cI, 12, .inl fO)), (aE, .inl (cI, 12, .inl fE)), (aI, .inl (cZ, 12, .inl fI)), (aB, .inl (cI, 8, .inl (z_ad fB y k (fA j)))), (aN, .inl (cI, 40, .inl (z_ad fN (pn * 8 + y) (pn * 8 + k) (fA j * pr)))), (aY, .inl (cI, 480, .inl (z_ad fY ((pn * 8 + y) * 12) ((pn * 8 + k) * 12) (fA j)))), (aU, .inl (cI, 480, .inl fU)), (aS, .inl (cZ, 96, .inl fS))] → va_S A s.heap H locs → ∀ (ls : Array Slot), lv_has ls 9 [(7, .int x7), (6, .int (nI (min (y + T) 8))), (5, .int (fA j)), (4, .int (nI pn)), (0, .ref ax), (1, .int jo), (2, .int fy0), (3, .int pr)] → W p l e (headSpec wsX2_take ({ frames := 2, cells := 0, slots := 0, locals := 43 })).room s m [.ref ax, .int jo, .int fy0, .int pr].toArray below meth c H locs 0 0 (MQ below (q_W none (dC, dI) vwCl [(ax, .inr (2, [.ref ad, .ref aq, .ref aB, .ref aN, .ref aY, .ref aU, .ref aS, .int tr, .int ra, .int ca])), (ad, .inr (0, [.ref aw, .int lo, .int up, .int tp])), (aw, .inl (cI, 1002, .inl fW)), (aq, .inr (1, [.ref aP, .ref aA, .ref aT, .ref aO, .int (nI n), .ref aE, .ref aI])), (aP, .inl (cI, 12, .inl fP)), (aA, .inl (cI, 12, .inl fA)), (aT, .inl (cI, 12, .inl fT)), (aO, .inl (cI, 12, .inl fO)), (aE, .inl (cI, 12, .inl fE)), (aI, .inl (cZ, 12, .inl fI)), (aB, .inl (cI, 8, .inl (z_ad fB y (min (y + T) 8) (fA j)))), (aN, .inl (cI, 40, .inl (z_ad fN (pn * 8 + y) (pn * 8 + (min (y + T) 8)) (fA j * pr)))), (aY, .inl (cI, 480, .inl (z_ad fY ((pn * 8 + y) * 12) ((pn * 8 + (min (y + T) 8)) * 12) (fA j)))), (aU, .inl (cI, 480, .inl fU)), (aS, .inl (cZ, 96, .inl fS))] A) [.ref ax, .int jo, .int fy0, .int pr].toArray s 0 0 A) (F0 m 43 ls []) := by
    intro wk
    induction wk with
    | zero => intro k x7 hlo_k hk_k hw_k; exact absurd hw_k (by omega)
    | succ wk ih_k =>
      intro k x7 hlo_k hk_k hw_k ex7  H locs hP hD hS ls hl
      refine lv_iload hx hb dX2_take_43 (lv_at hl 0 rfl) ?_
      refine lv_iload hx hb dX2_take_45 (lv_at hl 1 rfl) ?_
      refine lv_icmp_ge (tgt := 122) hx hb dX2_take_47 (by decide) (fun c_47 => ?_) (fun c_47 => ?_)
      · have hkn : k = min (y + T) 8 := q_ex ex7 hk_k (by omega) c_47
        have hP : va_P (dC, dI) vwCl [(ax, .inr (2, [.ref ad, .ref aq, .ref aB, .ref aN, .ref aY, .ref aU, .ref aS, .int tr, .int ra, .int ca])), (ad, .inr (0, [.ref aw, .int lo, .int up, .int tp])), (aw, .inl (cI, 1002, .inl fW)), (aq, .inr (1, [.ref aP, .ref aA, .ref aT, .ref aO, .int (nI n), .ref aE, .ref aI])), (aP, .inl (cI, 12, .inl fP)), (aA, .inl (cI, 12, .inl fA)), (aT, .inl (cI, 12, .inl fT)), (aO, .inl (cI, 12, .inl fO)), (aE, .inl (cI, 12, .inl fE)), (aI, .inl (cZ, 12, .inl fI)), (aB, .inl (cI, 8, .inl (z_ad fB y (min (y + T) 8) (fA j)))), (aN, .inl (cI, 40, .inl (z_ad fN (pn * 8 + y) (pn * 8 + (min (y + T) 8)) (fA j * pr)))), (aY, .inl (cI, 480, .inl (z_ad fY ((pn * 8 + y) * 12) ((pn * 8 + (min (y + T) 8)) * 12) (fA j)))), (aU, .inl (cI, 480, .inl fU)), (aS, .inl (cZ, 96, .inl fS))] H := (by rw [hkn] at hP; exact hP)
        exact W.vret hx hb hr (fun tS htS hWS => ⟨rfl, by rw [htS]; exact hP, hS.F htS⟩) hS.2.2 dX2_take_122
      · have hkn : k < min (y + T) 8 := q_lt ex7 hk_k (by omega) c_47
        refine lv_aload_n hx hb dX2_take_50 rfl (lv_at hl 4 rfl) ?_
        refine va_get (D := (dC, dI)) (ci := 2) (v := .ref aB) (C := RX2) (T := TX2) (N := 10) hx hb hts (by decide +kernel) hown hK hP 0 rfl rfl 2 (by decide) (hts (.fieldLink RX2 23 "CapacityRound" "boughtByYear" "[I") (by decide +kernel)) (fun _ h9 => h9) rfl dX2_take_51 ?_
        refine lv_iload hx hb dX2_take_54 (lv_at hl 0 rfl) ?_
        refine lv_dup2_11 hx hb dX2_take_56 rfl rfl ?_
        refine q_iald hx hb hK hP 10 0 rfl rfl k (ex7) (by omega) (by decide) dX2_take_57 ?_
        refine lv_iload hx hb dX2_take_58 (lv_at hl 2 rfl) ?_
        refine lv_iadd hx hb dX2_take_60 ?_
        refine q_iast hx hb hK hP hD hS 10 0 rfl rfl k (ex7) (by omega) (by decide) dX2_take_61 (fun H locs hP hD hS => ?_)
        rw [show upd (z_ad fB y k (fA j)) k ((z_ad fB y k (fA j)) k + fA j) = z_ad fB y (k + 1) (fA j) from z_ads hlo_k] at hP hD
        have hP : va_P (dC, dI) vwCl [(ax, .inr (2, [.ref ad, .ref aq, .ref aB, .ref aN, .ref aY, .ref aU, .ref aS, .int tr, .int ra, .int ca])), (ad, .inr (0, [.ref aw, .int lo, .int up, .int tp])), (aw, .inl (cI, 1002, .inl fW)), (aq, .inr (1, [.ref aP, .ref aA, .ref aT, .ref aO, .int (nI n), .ref aE, .ref aI])), (aP, .inl (cI, 12, .inl fP)), (aA, .inl (cI, 12, .inl fA)), (aT, .inl (cI, 12, .inl fT)), (aO, .inl (cI, 12, .inl fO)), (aE, .inl (cI, 12, .inl fE)), (aI, .inl (cZ, 12, .inl fI)), (aB, .inl (cI, 8, .inl (z_ad fB y (k + 1) (fA j)))), (aN, .inl (cI, 40, .inl (z_ad fN (pn * 8 + y) (pn * 8 + k) (fA j * pr)))), (aY, .inl (cI, 480, .inl (z_ad fY ((pn * 8 + y) * 12) ((pn * 8 + k) * 12) (fA j)))), (aU, .inl (cI, 480, .inl fU)), (aS, .inl (cZ, 96, .inl fS))] H := hP
        have hD : va_D A [(ax, .inr (2, [.ref ad, .ref aq, .ref aB, .ref aN, .ref aY, .ref aU, .ref aS, .int tr, .int ra, .int ca])), (ad, .inr (0, [.ref aw, .int lo, .int up, .int tp])), (aw, .inl (cI, 1002, .inl fW)), (aq, .inr (1, [.ref aP, .ref aA, .ref aT, .ref aO, .int (nI n), .ref aE, .ref aI])), (aP, .inl (cI, 12, .inl fP)), (aA, .inl (cI, 12, .inl fA)), (aT, .inl (cI, 12, .inl fT)), (aO, .inl (cI, 12, .inl fO)), (aE, .inl (cI, 12, .inl fE)), (aI, .inl (cZ, 12, .inl fI)), (aB, .inl (cI, 8, .inl (z_ad fB y (k + 1) (fA j)))), (aN, .inl (cI, 40, .inl (z_ad fN (pn * 8 + y) (pn * 8 + k) (fA j * pr)))), (aY, .inl (cI, 480, .inl (z_ad fY ((pn * 8 + y) * 12) ((pn * 8 + k) * 12) (fA j)))), (aU, .inl (cI, 480, .inl fU)), (aS, .inl (cZ, 96, .inl fS))] := hD
        refine lv_aload_n hx hb dX2_take_62 rfl (lv_at hl 4 rfl) ?_
        refine va_get (D := (dC, dI)) (ci := 2) (v := .ref aN) (C := RX2) (T := TX2) (N := 10) hx hb hts (by decide +kernel) hown hK hP 0 rfl rfl 3 (by decide) (hts (.fieldLink RX2 27 "CapacityRound" "incomes" "[I") (by decide +kernel)) (fun _ h9 => h9) rfl dX2_take_63 ?_
        refine lv_iload hx hb dX2_take_66 (lv_at hl 3 rfl) ?_
        refine lv_iload hx hb dX2_take_68 (lv_at hl 0 rfl) ?_
        refine q_rS (wc := []) (r := (nI pn * 8 + x7)) (As := [.int (nI pn), .int x7]) (rest := [.ref aN]) ⟨hx, hb, hml, hown, hts⟩ (c_X2_yearCell l dC dI cI cZ cJ (nI pn) x7) (va_cwS 2 hts gX2_take_X2_yearCell rfl rfl rfl (by decide +kernel) ⟨Nat.le_of_ble_eq_true rfl, Nat.le_of_ble_eq_true rfl⟩) hK (hP.sub [] rfl) rfl hl.1 rfl (Nat.le_of_ble_eq_true rfl) dX2_take_70 ⟨Nat.zero_le _, Nat.zero_le _⟩ ?_
        refine lv_dup2_11 hx hb dX2_take_73 rfl rfl ?_
        refine q_iald hx hb hK hP 11 0 rfl rfl (pn * 8 + k) (z_yc rfl ex7) (by omega) (by decide) dX2_take_74 ?_
        refine lv_iload hx hb dX2_take_75 (lv_at hl 2 rfl) ?_
        refine lv_iload_n hx hb dX2_take_77 rfl (lv_at hl 7 rfl) ?_
        refine lv_imul hx hb dX2_take_78 ?_
        refine lv_iadd hx hb dX2_take_79 ?_
        refine q_iast hx hb hK hP hD hS 11 0 rfl rfl (pn * 8 + k) (z_yc rfl ex7) (by omega) (by decide) dX2_take_80 (fun H locs hP hD hS => ?_)
        rw [show upd (z_ad fN (pn * 8 + y) (pn * 8 + k) (fA j * pr)) (pn * 8 + k) ((z_ad fN (pn * 8 + y) (pn * 8 + k) (fA j * pr)) (pn * 8 + k) + fA j * pr) = z_ad fN (pn * 8 + y) (pn * 8 + (k + 1)) (fA j * pr) from z_ads (by omega)] at hP hD
        have hP : va_P (dC, dI) vwCl [(ax, .inr (2, [.ref ad, .ref aq, .ref aB, .ref aN, .ref aY, .ref aU, .ref aS, .int tr, .int ra, .int ca])), (ad, .inr (0, [.ref aw, .int lo, .int up, .int tp])), (aw, .inl (cI, 1002, .inl fW)), (aq, .inr (1, [.ref aP, .ref aA, .ref aT, .ref aO, .int (nI n), .ref aE, .ref aI])), (aP, .inl (cI, 12, .inl fP)), (aA, .inl (cI, 12, .inl fA)), (aT, .inl (cI, 12, .inl fT)), (aO, .inl (cI, 12, .inl fO)), (aE, .inl (cI, 12, .inl fE)), (aI, .inl (cZ, 12, .inl fI)), (aB, .inl (cI, 8, .inl (z_ad fB y (k + 1) (fA j)))), (aN, .inl (cI, 40, .inl (z_ad fN (pn * 8 + y) (pn * 8 + (k + 1)) (fA j * pr)))), (aY, .inl (cI, 480, .inl (z_ad fY ((pn * 8 + y) * 12) ((pn * 8 + k) * 12) (fA j)))), (aU, .inl (cI, 480, .inl fU)), (aS, .inl (cZ, 96, .inl fS))] H := hP
        have hD : va_D A [(ax, .inr (2, [.ref ad, .ref aq, .ref aB, .ref aN, .ref aY, .ref aU, .ref aS, .int tr, .int ra, .int ca])), (ad, .inr (0, [.ref aw, .int lo, .int up, .int tp])), (aw, .inl (cI, 1002, .inl fW)), (aq, .inr (1, [.ref aP, .ref aA, .ref aT, .ref aO, .int (nI n), .ref aE, .ref aI])), (aP, .inl (cI, 12, .inl fP)), (aA, .inl (cI, 12, .inl fA)), (aT, .inl (cI, 12, .inl fT)), (aO, .inl (cI, 12, .inl fO)), (aE, .inl (cI, 12, .inl fE)), (aI, .inl (cZ, 12, .inl fI)), (aB, .inl (cI, 8, .inl (z_ad fB y (k + 1) (fA j)))), (aN, .inl (cI, 40, .inl (z_ad fN (pn * 8 + y) (pn * 8 + (k + 1)) (fA j * pr)))), (aY, .inl (cI, 480, .inl (z_ad fY ((pn * 8 + y) * 12) ((pn * 8 + k) * 12) (fA j)))), (aU, .inl (cI, 480, .inl fU)), (aS, .inl (cZ, 96, .inl fS))] := hD
        refine lv_iconst (v := 0) hx hb dX2_take_81 (by decide) ?_
        refine lv_istore (lv' := [(8, .int 0), (7, .int x7), (6, .int (nI (min (y + T) 8))), (5, .int (fA j)), (4, .int (nI pn)), (0, .ref ax), (1, .int jo), (2, .int fy0), (3, .int pr)]) hx hb dX2_take_82 hl (by decide) rfl (fun ls hl => ?_)
        have lp_84 : ∀ (wh h : Nat) (x8 : Int32), h ≤ 12 → 12 < h + wh → x8 = nI h → ∀ (H : Heap) (locs : List Loc), va_P (dC, dI) vwCl [(ax, .inr (2, [.ref ad, .ref aq, .ref aB, .ref aN, .ref aY, .ref aU, .ref aS, .int tr, .int ra, .int ca])), (ad, .inr (0, [.ref aw, .int lo, .int up, .int tp])), (aw, .inl (cI, 1002, .inl fW)), (aq, .inr (1, [.ref aP, .ref aA, .ref aT, .ref aO, .int (nI n), .ref aE, .ref aI])), (aP, .inl (cI, 12, .inl fP)), (aA, .inl (cI, 12, .inl fA)), (aT, .inl (cI, 12, .inl fT)), (aO, .inl (cI, 12, .inl fO)), (aE, .inl (cI, 12, .inl fE)), (aI, .inl (cZ, 12, .inl fI)), (aB, .inl (cI, 8, .inl (z_ad fB y (k + 1) (fA j)))), (aN, .inl (cI, 40, .inl (z_ad fN (pn * 8 + y) (pn * 8 + (k + 1)) (fA j * pr)))), (aY, .inl (cI, 480, .inl (z_ad fY ((pn * 8 + y) * 12) ((pn * 8 + k) * 12 + h) (fA j)))), (aU, .inl (cI, 480, .inl fU)), (aS, .inl (cZ, 96, .inl fS))] H → va_D A [(ax, .inr (2, [.ref ad, .ref aq, .ref aB, .ref aN, .ref aY, .ref aU, .ref aS, .int tr, .int ra, .int ca])), (ad, .inr (0, [.ref aw, .int lo, .int up, .int tp])), (aw, .inl (cI, 1002, .inl fW)), (aq, .inr (1, [.ref aP, .ref aA, .ref aT, .ref aO, .int (nI n), .ref aE, .ref aI])), (aP, .inl (cI, 12, .inl fP)), (aA, .inl (cI, 12, .inl fA)), (aT, .inl (cI, 12, .inl fT)), (aO, .inl (cI, 12, .inl fO)), (aE, .inl (cI, 12, .inl fE)), (aI, .inl (cZ, 12, .inl fI)), (aB, .inl (cI, 8, .inl (z_ad fB y (k + 1) (fA j)))), (aN, .inl (cI, 40, .inl (z_ad fN (pn * 8 + y) (pn * 8 + (k + 1)) (fA j * pr)))), (aY, .inl (cI, 480, .inl (z_ad fY ((pn * 8 + y) * 12) ((pn * 8 + k) * 12 + h) (fA j)))), (aU, .inl (cI, 480, .inl fU)), (aS, .inl (cZ, 96, .inl fS))] → va_S A s.heap H locs → ∀ (ls : Array Slot), lv_has ls 9 [(8, .int x8), (7, .int x7), (6, .int (nI (min (y + T) 8))), (5, .int (fA j)), (4, .int (nI pn)), (0, .ref ax), (1, .int jo), (2, .int fy0), (3, .int pr)] → W p l e (headSpec wsX2_take ({ frames := 2, cells := 0, slots := 0, locals := 43 })).room s m [.ref ax, .int jo, .int fy0, .int pr].toArray below meth c H locs 0 0 (MQ below (q_W none (dC, dI) vwCl [(ax, .inr (2, [.ref ad, .ref aq, .ref aB, .ref aN, .ref aY, .ref aU, .ref aS, .int tr, .int ra, .int ca])), (ad, .inr (0, [.ref aw, .int lo, .int up, .int tp])), (aw, .inl (cI, 1002, .inl fW)), (aq, .inr (1, [.ref aP, .ref aA, .ref aT, .ref aO, .int (nI n), .ref aE, .ref aI])), (aP, .inl (cI, 12, .inl fP)), (aA, .inl (cI, 12, .inl fA)), (aT, .inl (cI, 12, .inl fT)), (aO, .inl (cI, 12, .inl fO)), (aE, .inl (cI, 12, .inl fE)), (aI, .inl (cZ, 12, .inl fI)), (aB, .inl (cI, 8, .inl (z_ad fB y (min (y + T) 8) (fA j)))), (aN, .inl (cI, 40, .inl (z_ad fN (pn * 8 + y) (pn * 8 + (min (y + T) 8)) (fA j * pr)))), (aY, .inl (cI, 480, .inl (z_ad fY ((pn * 8 + y) * 12) ((pn * 8 + (min (y + T) 8)) * 12) (fA j)))), (aU, .inl (cI, 480, .inl fU)), (aS, .inl (cZ, 96, .inl fS))] A) [.ref ax, .int jo, .int fy0, .int pr].toArray s 0 0 A) (F0 m 84 ls []) := by
          intro wh
          induction wh with
          | zero => intro h x8 hk_h hw_h; exact absurd hw_h (by omega)
          | succ wh ih_h =>
            intro h x8 hk_h hw_h ex8  H locs hP hD hS ls hl
            refine lv_iload hx hb dX2_take_84 (lv_at hl 0 rfl) ?_
            refine lv_bipush (v := 12) hx hb dX2_take_86 (by decide) ?_
            refine lv_icmp_ge (tgt := 116) hx hb dX2_take_88 (by decide) (fun c_88 => ?_) (fun c_88 => ?_)
            · have hh : h = 12 := q_ex ex8 hk_h (by omega) c_88
              refine lv_iinc (v := x7 + 1) (lv' := [(7, .int (x7 + 1)), (8, .int x8), (6, .int (nI (min (y + T) 8))), (5, .int (fA j)), (4, .int (nI pn)), (0, .ref ax), (1, .int jo), (2, .int fy0), (3, .int pr)]) hx hb dX2_take_116 hl (k := 1) rfl rfl (by decide) rfl (fun ls hl => ?_)
              refine lv_goto (tgt := 43) hx hb dX2_take_119 (by decide) ?_
              exact ih_k (k + 1) (x7 + 1) (by omega) (by omega) (by omega) (q_s1 ex7)  _ _ (by rw [show (pn * 8 + (k + 1)) * 12 = (pn * 8 + k) * 12 + h by omega]; exact hP) (by rw [show (pn * 8 + (k + 1)) * 12 = (pn * 8 + k) * 12 + h by omega]; exact hD) hS ls (lv_sub hl [0, 2, 3, 4, 5, 6, 7, 8] rfl)
            · have hh : h < 12 := q_lt ex8 hk_h (by omega) c_88
              refine lv_aload_n hx hb dX2_take_91 rfl (lv_at hl 5 rfl) ?_
              refine va_get (D := (dC, dI)) (ci := 2) (v := .ref aY) (C := RX2) (T := TX2) (N := 10) hx hb hts (by decide +kernel) hown hK hP 0 rfl rfl 4 (by decide) (hts (.fieldLink RX2 30 "CapacityRound" "obligations" "[I") (by decide +kernel)) (fun _ h9 => h9) rfl dX2_take_92 ?_
              refine lv_iload hx hb dX2_take_95 (lv_at hl 4 rfl) ?_
              refine lv_iload hx hb dX2_take_97 (lv_at hl 1 rfl) ?_
              refine lv_iload hx hb dX2_take_99 (lv_at hl 0 rfl) ?_
              refine q_rS (wc := []) (r := ((nI pn * 8 + x7) * 12 + x8)) (As := [.int (nI pn), .int x7, .int x8]) (rest := [.ref aY]) ⟨hx, hb, hml, hown, hts⟩ (c_X2_hourCell l dC dI cI cZ cJ (nI pn) x7 x8) (va_cwS 3 hts gX2_take_X2_hourCell rfl rfl rfl (by decide +kernel) ⟨Nat.le_of_ble_eq_true rfl, Nat.le_of_ble_eq_true rfl⟩) hK (hP.sub [] rfl) rfl hl.1 rfl (Nat.le_of_ble_eq_true rfl) dX2_take_101 ⟨Nat.zero_le _, Nat.zero_le _⟩ ?_
              refine lv_dup2_11 hx hb dX2_take_104 rfl rfl ?_
              refine q_iald hx hb hK hP 12 0 rfl rfl ((pn * 8 + k) * 12 + h) (z_hc rfl ex7 ex8) (by omega) (by decide) dX2_take_105 ?_
              refine lv_iload hx hb dX2_take_106 (lv_at hl 3 rfl) ?_
              refine lv_iadd hx hb dX2_take_108 ?_
              refine q_iast hx hb hK hP hD hS 12 0 rfl rfl ((pn * 8 + k) * 12 + h) (z_hc rfl ex7 ex8) (by omega) (by decide) dX2_take_109 (fun H locs hP hD hS => ?_)
              rw [show upd (z_ad fY ((pn * 8 + y) * 12) ((pn * 8 + k) * 12 + h) (fA j)) ((pn * 8 + k) * 12 + h) ((z_ad fY ((pn * 8 + y) * 12) ((pn * 8 + k) * 12 + h) (fA j)) ((pn * 8 + k) * 12 + h) + fA j) = z_ad fY ((pn * 8 + y) * 12) ((pn * 8 + k) * 12 + (h + 1)) (fA j) from z_ads (by omega)] at hP hD
              have hP : va_P (dC, dI) vwCl [(ax, .inr (2, [.ref ad, .ref aq, .ref aB, .ref aN, .ref aY, .ref aU, .ref aS, .int tr, .int ra, .int ca])), (ad, .inr (0, [.ref aw, .int lo, .int up, .int tp])), (aw, .inl (cI, 1002, .inl fW)), (aq, .inr (1, [.ref aP, .ref aA, .ref aT, .ref aO, .int (nI n), .ref aE, .ref aI])), (aP, .inl (cI, 12, .inl fP)), (aA, .inl (cI, 12, .inl fA)), (aT, .inl (cI, 12, .inl fT)), (aO, .inl (cI, 12, .inl fO)), (aE, .inl (cI, 12, .inl fE)), (aI, .inl (cZ, 12, .inl fI)), (aB, .inl (cI, 8, .inl (z_ad fB y (k + 1) (fA j)))), (aN, .inl (cI, 40, .inl (z_ad fN (pn * 8 + y) (pn * 8 + (k + 1)) (fA j * pr)))), (aY, .inl (cI, 480, .inl (z_ad fY ((pn * 8 + y) * 12) ((pn * 8 + k) * 12 + (h + 1)) (fA j)))), (aU, .inl (cI, 480, .inl fU)), (aS, .inl (cZ, 96, .inl fS))] H := hP
              have hD : va_D A [(ax, .inr (2, [.ref ad, .ref aq, .ref aB, .ref aN, .ref aY, .ref aU, .ref aS, .int tr, .int ra, .int ca])), (ad, .inr (0, [.ref aw, .int lo, .int up, .int tp])), (aw, .inl (cI, 1002, .inl fW)), (aq, .inr (1, [.ref aP, .ref aA, .ref aT, .ref aO, .int (nI n), .ref aE, .ref aI])), (aP, .inl (cI, 12, .inl fP)), (aA, .inl (cI, 12, .inl fA)), (aT, .inl (cI, 12, .inl fT)), (aO, .inl (cI, 12, .inl fO)), (aE, .inl (cI, 12, .inl fE)), (aI, .inl (cZ, 12, .inl fI)), (aB, .inl (cI, 8, .inl (z_ad fB y (k + 1) (fA j)))), (aN, .inl (cI, 40, .inl (z_ad fN (pn * 8 + y) (pn * 8 + (k + 1)) (fA j * pr)))), (aY, .inl (cI, 480, .inl (z_ad fY ((pn * 8 + y) * 12) ((pn * 8 + k) * 12 + (h + 1)) (fA j)))), (aU, .inl (cI, 480, .inl fU)), (aS, .inl (cZ, 96, .inl fS))] := hD
              refine lv_iinc (v := x8 + 1) (lv' := [(8, .int (x8 + 1)), (7, .int x7), (6, .int (nI (min (y + T) 8))), (5, .int (fA j)), (4, .int (nI pn)), (0, .ref ax), (1, .int jo), (2, .int fy0), (3, .int pr)]) hx hb dX2_take_110 hl (k := 0) rfl rfl (by decide) rfl (fun ls hl => ?_)
              refine lv_goto (tgt := 84) hx hb dX2_take_113 (by decide) ?_
              exact ih_h (h + 1) (x8 + 1) (by omega) (by omega) (q_s1 ex8)  _ _ hP hD hS ls (lv_sub hl [0, 1, 2, 3, 4, 5, 6, 7, 8] rfl)
        exact lp_84 (12 + 1) 0 0 (by omega) (by omega) (rfl)  _ _ hP hD hS ls (lv_sub hl [0, 1, 2, 3, 4, 5, 6, 7, 8] rfl)
  exact lp_43 (min (y + T) 8 + 1) y fy0 (Nat.le_refl _) (by omega) (by omega) (hy)  _ _ (by simp only [z_ad0]; exact hP) (by simp only [z_ad0]; exact hD) hS ls (lv_sub hl [0, 1, 2, 3, 4, 5, 6, 7] rfl)
set_option maxHeartbeats 4000000 in
set_option maxRecDepth 100000 in
theorem c_X2_leastObligation (l : Launch) (dC : Nat → ClassId) (dI : Nat → Nat → Nat) (cI cZ cJ : ClassId) (ax aB aN aY aU aS : Nat) (tr ra ca : Int32) (fB fN fY fU fS : Nat → Int32) (ad aw : Nat) (lo up tp : Int32) (fW : Nat → Int32) (aq aP aA aT aO aE aI n : Nat) (fP fA fT fO fE fI : Nat → Int32) (pa y0 f0 g0 : Int32) (pn y f g : Nat) (hp : pa = nI pn) (hp5 : pn < 5) (hy : y0 = nI y) (hy8 : y < 8) (hf : f0 = nI f) (hg : g0 = nI g) (hfg : f ≤ g) (hg12 : g < 12) : Met l yX2_leastObligation wsX2_leastObligation ({ frames := 2, cells := 0, slots := 0, locals := 43 }) (va_Pc [.ref ax, .int pa, .int y0, .int f0, .int g0] (q_R (dC, dI) vwCl (q_T cI cZ cJ) [(ax, .inr (2, [.ref ad, .ref aq, .ref aB, .ref aN, .ref aY, .ref aU, .ref aS, .int tr, .int ra, .int ca])), (ad, .inr (0, [.ref aw, .int lo, .int up, .int tp])), (aw, .inl (cI, 1002, .inl fW)), (aq, .inr (1, [.ref aP, .ref aA, .ref aT, .ref aO, .int (nI n), .ref aE, .ref aI])), (aP, .inl (cI, 12, .inl fP)), (aA, .inl (cI, 12, .inl fA)), (aT, .inl (cI, 12, .inl fT)), (aO, .inl (cI, 12, .inl fO)), (aE, .inl (cI, 12, .inl fE)), (aI, .inl (cZ, 12, .inl fI)), (aB, .inl (cI, 8, .inl fB)), (aN, .inl (cI, 40, .inl fN)), (aY, .inl (cI, 480, .inl fY)), (aU, .inl (cI, 480, .inl fU)), (aS, .inl (cZ, 96, .inl fS))])) (QcRead (z_ls fY ((pn * 8 + y) * 12 + f) (g - f))) 0 0 (fun _ => False) := by
  refine Met.ofW (cc := cX2_leastObligation) (maxL := 7) (ret := (some .int)) (by decide) rfl ?_
  intro p e s m args below meth c s₁ B hml hv
  obtain ⟨rfl, hP, hK⟩ := hv
  have hx := B.exec
  have hb := B.bytes
  have hr := B.returns
  have hts := atoms_spec (ws := wsX2_leastObligation) B.pre
  have hown : s.vm.findClass RX2 = some m.cls := findClass_of_methodNamed B.named
  have hlocks := B.notSynchronized
  have hP : va_P (dC, dI) vwCl [(ax, .inr (2, [.ref ad, .ref aq, .ref aB, .ref aN, .ref aY, .ref aU, .ref aS, .int tr, .int ra, .int ca])), (ad, .inr (0, [.ref aw, .int lo, .int up, .int tp])), (aw, .inl (cI, 1002, .inl fW)), (aq, .inr (1, [.ref aP, .ref aA, .ref aT, .ref aO, .int (nI n), .ref aE, .ref aI])), (aP, .inl (cI, 12, .inl fP)), (aA, .inl (cI, 12, .inl fA)), (aT, .inl (cI, 12, .inl fT)), (aO, .inl (cI, 12, .inl fO)), (aE, .inl (cI, 12, .inl fE)), (aI, .inl (cZ, 12, .inl fI)), (aB, .inl (cI, 8, .inl fB)), (aN, .inl (cI, 40, .inl fN)), (aY, .inl (cI, 480, .inl fY)), (aU, .inl (cI, 480, .inl fU)), (aS, .inl (cZ, 96, .inl fS))] s.heap := hP
  have hl := lv_entry ([.ref ax, .int pa, .int y0, .int f0, .int g0]) (n := 7) (Nat.le_of_ble_eq_true rfl)
  rw [lg_entry_eq]
  generalize (lg_sl ([.ref ax, .int pa, .int y0, .int f0, .int g0]) ++ List.replicate (7 - (lg_sl ([.ref ax, .int pa, .int y0, .int f0, .int g0])).length) Slot.unset).toArray = ls at hl ⊢
  have hl : lv_has ls 7 [(0, .ref ax), (1, .int pa), (2, .int y0), (3, .int f0), (4, .int g0)] := hl
  refine lv_aload_n hx hb dX2_leastObligation_0 rfl (lv_at hl 0 rfl) ?_
  refine va_get (D := (dC, dI)) (ci := 2) (v := .ref aY) (C := RX2) (T := TX2) (N := 10) hx hb hts (by decide +kernel) hown hK hP 0 rfl rfl 4 (by decide) (hts (.fieldLink RX2 30 "CapacityRound" "obligations" "[I") (by decide +kernel)) (fun _ h9 => h9) rfl dX2_leastObligation_1 ?_
  refine lv_iload_n hx hb dX2_leastObligation_4 rfl (lv_at hl 1 rfl) ?_
  refine lv_iload_n hx hb dX2_leastObligation_5 rfl (lv_at hl 2 rfl) ?_
  refine lv_iload_n hx hb dX2_leastObligation_6 rfl (lv_at hl 3 rfl) ?_
  refine q_rS (wc := []) (r := ((pa * 8 + y0) * 12 + f0)) (As := [.int pa, .int y0, .int f0]) (rest := [.ref aY]) ⟨hx, hb, hml, hown, hts⟩ (c_X2_hourCell l dC dI cI cZ cJ pa y0 f0) (va_cwS 3 hts gX2_leastObligation_X2_hourCell rfl rfl rfl (by decide +kernel) ⟨Nat.le_of_ble_eq_true rfl, Nat.le_of_ble_eq_true rfl⟩) hK (hP.sub [] rfl) rfl hl.1 rfl (Nat.le_of_ble_eq_true rfl) dX2_leastObligation_7 ⟨Nat.zero_le _, Nat.zero_le _⟩ ?_
  refine q_iald hx hb hK hP 12 0 rfl rfl ((pn * 8 + y) * 12 + f) (z_hc hp hy hf) (by omega) (by decide) dX2_leastObligation_10 ?_
  refine lv_istore (lv' := [(5, .int (fY ((pn * 8 + y) * 12 + f))), (0, .ref ax), (1, .int pa), (2, .int y0), (3, .int f0), (4, .int g0)]) hx hb dX2_leastObligation_11 hl (by decide) rfl (fun ls hl => ?_)
  refine lv_iload_n hx hb dX2_leastObligation_13 rfl (lv_at hl 4 rfl) ?_
  refine lv_iconst (v := 1) hx hb dX2_leastObligation_14 (by decide) ?_
  refine lv_iadd hx hb dX2_leastObligation_15 ?_
  refine lv_istore (lv' := [(6, .int (f0 + 1)), (5, .int (fY ((pn * 8 + y) * 12 + f))), (0, .ref ax), (1, .int pa), (2, .int y0), (3, .int f0), (4, .int g0)]) hx hb dX2_leastObligation_16 hl (by decide) rfl (fun ls hl => ?_)
  have lp_18 : ∀ (wk k : Nat) (x5 : Int32) (x6 : Int32), k ≤ (g - f) → (g - f) < k + wk → x5 = z_ls fY ((pn * 8 + y) * 12 + f) k → x6 = nI (f + k + 1) → ∀ (ls : Array Slot), lv_has ls 7 [(5, .int x5), (6, .int x6), (0, .ref ax), (1, .int pa), (2, .int y0), (3, .int f0), (4, .int g0)] → W p l e (headSpec wsX2_leastObligation ({ frames := 2, cells := 0, slots := 0, locals := 43 })).room s m [.ref ax, .int pa, .int y0, .int f0, .int g0].toArray below meth c s.heap [] 0 0 (MQ below (QcRead (z_ls fY ((pn * 8 + y) * 12 + f) (g - f))) [.ref ax, .int pa, .int y0, .int f0, .int g0].toArray s 0 0 (fun _ => False)) (F0 m 18 ls []) := by
    intro wk
    induction wk with
    | zero => intro k x5 x6 hk_k hw_k; exact absurd hw_k (by omega)
    | succ wk ih_k =>
      intro k x5 x6 hk_k hw_k ex5 ex6   ls hl
      refine lv_iload hx hb dX2_leastObligation_18 (lv_at hl 1 rfl) ?_
      refine lv_iload hx hb dX2_leastObligation_20 (lv_at hl 6 rfl) ?_
      refine lv_icmp_gt (tgt := 50) hx hb dX2_leastObligation_22 (by decide) (fun c_22 => ?_) (fun c_22 => ?_)
      · have hkn : k = g - f := by have h9 := (q_cgt (y := g0) (x := x6) hg ex6 (by omega) (by omega)).mp c_22; omega
        refine lv_iload hx hb dX2_leastObligation_50 (lv_at hl 0 rfl) ?_
        exact W.iret (v := x5) hx hb hr (fun tS htS hWS => ⟨congrArg (fun z => Outcome.returned (some (Value.int z))) (ex5.trans (by rw [hkn]) : (x5 : Int32) = z_ls fY ((pn * 8 + y) * 12 + f) (g - f)), htS⟩) (fun _ h => nomatch h) dX2_leastObligation_52
      · have hkn : k < g - f := by have h9 := (not_congr (q_cgt (y := g0) (x := x6) hg ex6 (by omega) (by omega))).mp c_22; omega
        refine lv_iload hx hb dX2_leastObligation_25 (lv_at hl 0 rfl) ?_
        refine lv_aload_n hx hb dX2_leastObligation_27 rfl (lv_at hl 2 rfl) ?_
        refine va_get (D := (dC, dI)) (ci := 2) (v := .ref aY) (C := RX2) (T := TX2) (N := 10) hx hb hts (by decide +kernel) hown hK hP 0 rfl rfl 4 (by decide) (hts (.fieldLink RX2 30 "CapacityRound" "obligations" "[I") (by decide +kernel)) (fun _ h9 => h9) rfl dX2_leastObligation_28 ?_
        refine lv_iload_n hx hb dX2_leastObligation_31 rfl (lv_at hl 3 rfl) ?_
        refine lv_iload_n hx hb dX2_leastObligation_32 rfl (lv_at hl 4 rfl) ?_
        refine lv_iload hx hb dX2_leastObligation_33 (lv_at hl 1 rfl) ?_
        refine q_rS (wc := []) (r := ((pa * 8 + y0) * 12 + x6)) (As := [.int pa, .int y0, .int x6]) (rest := [.ref aY, .int x5]) ⟨hx, hb, hml, hown, hts⟩ (c_X2_hourCell l dC dI cI cZ cJ pa y0 x6) (va_cwS 3 hts gX2_leastObligation_X2_hourCell rfl rfl rfl (by decide +kernel) ⟨Nat.le_of_ble_eq_true rfl, Nat.le_of_ble_eq_true rfl⟩) hK (hP.sub [] rfl) rfl hl.1 rfl (Nat.le_of_ble_eq_true rfl) dX2_leastObligation_35 ⟨Nat.zero_le _, Nat.zero_le _⟩ ?_
        refine q_iald hx hb hK hP 12 0 rfl rfl ((pn * 8 + y) * 12 + (f + k + 1)) (z_hc hp hy ex6) (by omega) (by decide) dX2_leastObligation_38 ?_
        refine lv_topi (fun v_1 ev_1 => ?_)
        obtain rfl : v_1 = fY ((pn * 8 + y) * 12 + f + (k + 1)) := ev_1.trans (congrArg fY (by omega))
        refine va_mmin hx hb (by rw [hml]; exact hl.1.symm) hown (hts (.methodLink RX2 186 Lib.Math.min.name) (by decide +kernel)) (hts (.static Lib.Math.min.name) (by decide +kernel)) (hts (.initialized "java/lang/Math") (by decide +kernel)) (hts (.code Lib.Math.min.name Lib.Math.min.code 2 (some .int)) (by decide +kernel)) (Nat.le_of_ble_eq_true rfl) (Nat.le_of_ble_eq_true rfl) (Nat.zero_le _) (Nat.zero_le _) dX2_leastObligation_39 ?_
        refine lv_istore (lv' := [(5, .int (if fY ((pn * 8 + y) * 12 + f + (k + 1)) < x5 then fY ((pn * 8 + y) * 12 + f + (k + 1)) else x5)), (6, .int x6), (0, .ref ax), (1, .int pa), (2, .int y0), (3, .int f0), (4, .int g0)]) hx hb dX2_leastObligation_42 hl (by decide) rfl (fun ls hl => ?_)
        refine lv_iinc (v := x6 + 1) (lv' := [(6, .int (x6 + 1)), (5, .int (if fY ((pn * 8 + y) * 12 + f + (k + 1)) < x5 then fY ((pn * 8 + y) * 12 + f + (k + 1)) else x5)), (0, .ref ax), (1, .int pa), (2, .int y0), (3, .int f0), (4, .int g0)]) hx hb dX2_leastObligation_44 hl (k := 1) rfl rfl (by decide) rfl (fun ls hl => ?_)
        refine lv_goto (tgt := 18) hx hb dX2_leastObligation_47 (by decide) ?_
        exact ih_k (k + 1) (if fY ((pn * 8 + y) * 12 + f + (k + 1)) < x5 then fY ((pn * 8 + y) * 12 + f + (k + 1)) else x5) (x6 + 1) (by omega) (by omega) (by rw [z_ls, ← ex5]) (q_s1 ex6)   ls (lv_sub hl [1, 0, 2, 3, 4, 5, 6] rfl)
  exact lp_18 ((g - f) + 1) 0 (fY ((pn * 8 + y) * 12 + f)) (f0 + 1) (by omega) (by omega) (rfl) (by rw [hf]; exact nI_1 f)   ls (lv_sub hl [1, 0, 2, 3, 4, 5, 6] rfl)
set_option maxHeartbeats 4000000 in
set_option maxRecDepth 100000 in
theorem c_X2_lackOf (l : Launch) (dC : Nat → ClassId) (dI : Nat → Nat → Nat) (cI cZ cJ : ClassId) (ax aB aN aY aU aS : Nat) (tr ra ca : Int32) (fB fN fY fU fS : Nat → Int32) (ad aw : Nat) (lo up tp : Int32) (fW : Nat → Int32) (aq aP aA aT aO aE aI n : Nat) (fP fA fT fO fE fI : Nat → Int32) (pa y0 : Int32) (pn y : Nat) (hp : pa = nI pn) (hp5 : pn < 5) (hy : y0 = nI y) (hy8 : y < 8) : Met l yX2_lackOf wsX2_lackOf ({ frames := 2, cells := 0, slots := 0, locals := 43 }) (va_Pc [.ref ax, .int pa, .int y0] (q_R (dC, dI) vwCl (q_T cI cZ cJ) [(ax, .inr (2, [.ref ad, .ref aq, .ref aB, .ref aN, .ref aY, .ref aU, .ref aS, .int tr, .int ra, .int ca])), (ad, .inr (0, [.ref aw, .int lo, .int up, .int tp])), (aw, .inl (cI, 1002, .inl fW)), (aq, .inr (1, [.ref aP, .ref aA, .ref aT, .ref aO, .int (nI n), .ref aE, .ref aI])), (aP, .inl (cI, 12, .inl fP)), (aA, .inl (cI, 12, .inl fA)), (aT, .inl (cI, 12, .inl fT)), (aO, .inl (cI, 12, .inl fO)), (aE, .inl (cI, 12, .inl fE)), (aI, .inl (cZ, 12, .inl fI)), (aB, .inl (cI, 8, .inl fB)), (aN, .inl (cI, 40, .inl fN)), (aY, .inl (cI, 480, .inl fY)), (aU, .inl (cI, 480, .inl fU)), (aS, .inl (cZ, 96, .inl fS))])) (QcRead (z_lk fY fU fS pn y 12)) 0 0 (fun _ => False) := by
  refine Met.ofW (cc := cX2_lackOf) (maxL := 6) (ret := (some .int)) (by decide) rfl ?_
  intro p e s m args below meth c s₁ B hml hv
  obtain ⟨rfl, hP, hK⟩ := hv
  have hx := B.exec
  have hb := B.bytes
  have hr := B.returns
  have hts := atoms_spec (ws := wsX2_lackOf) B.pre
  have hown : s.vm.findClass RX2 = some m.cls := findClass_of_methodNamed B.named
  have hlocks := B.notSynchronized
  have hP : va_P (dC, dI) vwCl [(ax, .inr (2, [.ref ad, .ref aq, .ref aB, .ref aN, .ref aY, .ref aU, .ref aS, .int tr, .int ra, .int ca])), (ad, .inr (0, [.ref aw, .int lo, .int up, .int tp])), (aw, .inl (cI, 1002, .inl fW)), (aq, .inr (1, [.ref aP, .ref aA, .ref aT, .ref aO, .int (nI n), .ref aE, .ref aI])), (aP, .inl (cI, 12, .inl fP)), (aA, .inl (cI, 12, .inl fA)), (aT, .inl (cI, 12, .inl fT)), (aO, .inl (cI, 12, .inl fO)), (aE, .inl (cI, 12, .inl fE)), (aI, .inl (cZ, 12, .inl fI)), (aB, .inl (cI, 8, .inl fB)), (aN, .inl (cI, 40, .inl fN)), (aY, .inl (cI, 480, .inl fY)), (aU, .inl (cI, 480, .inl fU)), (aS, .inl (cZ, 96, .inl fS))] s.heap := hP
  have hl := lv_entry ([.ref ax, .int pa, .int y0]) (n := 6) (Nat.le_of_ble_eq_true rfl)
  rw [lg_entry_eq]
  generalize (lg_sl ([.ref ax, .int pa, .int y0]) ++ List.replicate (6 - (lg_sl ([.ref ax, .int pa, .int y0])).length) Slot.unset).toArray = ls at hl ⊢
  have hl : lv_has ls 6 [(0, .ref ax), (1, .int pa), (2, .int y0)] := hl
  refine lv_iconst (v := 0) hx hb dX2_lackOf_0 (by decide) ?_
  refine lv_istore_n (lv' := [(3, .int 0), (0, .ref ax), (1, .int pa), (2, .int y0)]) hx hb dX2_lackOf_1 rfl hl (by decide) rfl (fun ls hl => ?_)
  refine lv_iconst (v := 0) hx hb dX2_lackOf_2 (by decide) ?_
  refine lv_istore (lv' := [(4, .int 0), (3, .int 0), (0, .ref ax), (1, .int pa), (2, .int y0)]) hx hb dX2_lackOf_3 hl (by decide) rfl (fun ls hl => ?_)
  have lp_5 : ∀ (wh h : Nat) (x3 : Int32) (x4 : Int32), h ≤ 12 → 12 < h + wh → x3 = z_lk fY fU fS pn y h → x4 = nI h → ∀ (ls : Array Slot), lv_has ls 6 [(3, .int x3), (4, .int x4), (0, .ref ax), (1, .int pa), (2, .int y0)] → W p l e (headSpec wsX2_lackOf ({ frames := 2, cells := 0, slots := 0, locals := 43 })).room s m [.ref ax, .int pa, .int y0].toArray below meth c s.heap [] 0 0 (MQ below (QcRead (z_lk fY fU fS pn y 12)) [.ref ax, .int pa, .int y0].toArray s 0 0 (fun _ => False)) (F0 m 5 ls []) := by
    intro wh
    induction wh with
    | zero => intro h x3 x4 hk_h hw_h; exact absurd hw_h (by omega)
    | succ wh ih_h =>
      intro h x3 x4 hk_h hw_h ex3 ex4   ls hl
      refine lv_iload hx hb dX2_lackOf_5 (lv_at hl 1 rfl) ?_
      refine lv_bipush (v := 12) hx hb dX2_lackOf_7 (by decide) ?_
      refine lv_icmp_ge (tgt := 60) hx hb dX2_lackOf_9 (by decide) (fun c_9 => ?_) (fun c_9 => ?_)
      · have hh : h = 12 := q_ex ex4 hk_h (by omega) c_9
        refine lv_iload_n hx hb dX2_lackOf_60 rfl (lv_at hl 0 rfl) ?_
        exact W.iret (v := x3) hx hb hr (fun tS htS hWS => ⟨congrArg (fun z => Outcome.returned (some (Value.int z))) (ex3.trans (by rw [hh]) : (x3 : Int32) = z_lk fY fU fS pn y 12), htS⟩) (fun _ h => nomatch h) dX2_lackOf_61
      · have hh : h < 12 := q_lt ex4 hk_h (by omega) c_9
        refine lv_aload_n hx hb dX2_lackOf_12 rfl (lv_at hl 2 rfl) ?_
        refine va_get (D := (dC, dI)) (ci := 2) (v := .ref aS) (C := RX2) (T := TX2) (N := 10) hx hb hts (by decide +kernel) hown hK hP 0 rfl rfl 6 (by decide) (hts (.fieldLink RX2 36 "CapacityRound" "stressed" "[Z") (by decide +kernel)) (fun _ h9 => h9) rfl dX2_lackOf_13 ?_
        refine lv_iload_n hx hb dX2_lackOf_16 rfl (lv_at hl 4 rfl) ?_
        refine lv_bipush (v := 12) hx hb dX2_lackOf_17 (by decide) ?_
        refine lv_imul hx hb dX2_lackOf_19 ?_
        refine lv_iload hx hb dX2_lackOf_20 (lv_at hl 1 rfl) ?_
        refine lv_iadd hx hb dX2_lackOf_22 ?_
        refine q_zald hx hb hK hP 14 1 rfl rfl (y * 12 + h) (z_yh hy ex4) (by omega) (by decide) dX2_lackOf_23 ?_
        refine lv_if_eq (tgt := 54) hx hb dX2_lackOf_24 (by decide) (fun c_24 => ?_) (fun c_24 => ?_)
        · have hs : x3 = z_lk fY fU fS pn y (h + 1) := by rw [z_lk, if_pos c_24, ← ex3, Int32.add_zero]
          refine lv_iinc (v := x4 + 1) (lv' := [(4, .int (x4 + 1)), (3, .int x3), (0, .ref ax), (1, .int pa), (2, .int y0)]) hx hb dX2_lackOf_54 hl (k := 1) rfl rfl (by decide) rfl (fun ls hl => ?_)
          refine lv_goto (tgt := 5) hx hb dX2_lackOf_57 (by decide) ?_
          exact ih_h (h + 1) x3 (x4 + 1) (by omega) (by omega) (hs) (q_s1 ex4)   ls (lv_sub hl [1, 0, 2, 3, 4] rfl)
        · have hs : x3 + (fY ((pn * 8 + y) * 12 + h) - fU ((pn * 8 + y) * 12 + h)) = z_lk fY fU fS pn y (h + 1) := by rw [z_lk, if_neg c_24, ← ex3]
          refine lv_iload_n hx hb dX2_lackOf_27 rfl (lv_at hl 3 rfl) ?_
          refine lv_iload_n hx hb dX2_lackOf_28 rfl (lv_at hl 4 rfl) ?_
          refine lv_iload hx hb dX2_lackOf_29 (lv_at hl 1 rfl) ?_
          refine q_rS (wc := []) (r := ((pa * 8 + y0) * 12 + x4)) (As := [.int pa, .int y0, .int x4]) (rest := []) ⟨hx, hb, hml, hown, hts⟩ (c_X2_hourCell l dC dI cI cZ cJ pa y0 x4) (va_cwS 3 hts gX2_lackOf_X2_hourCell rfl rfl rfl (by decide +kernel) ⟨Nat.le_of_ble_eq_true rfl, Nat.le_of_ble_eq_true rfl⟩) hK (hP.sub [] rfl) rfl hl.1 rfl (Nat.le_of_ble_eq_true rfl) dX2_lackOf_31 ⟨Nat.zero_le _, Nat.zero_le _⟩ ?_
          refine lv_istore (lv' := [(5, .int ((pa * 8 + y0) * 12 + x4)), (3, .int x3), (4, .int x4), (0, .ref ax), (1, .int pa), (2, .int y0)]) hx hb dX2_lackOf_34 hl (by decide) rfl (fun ls hl => ?_)
          refine lv_iload_n hx hb dX2_lackOf_36 rfl (lv_at hl 1 rfl) ?_
          refine lv_aload_n hx hb dX2_lackOf_37 rfl (lv_at hl 3 rfl) ?_
          refine va_get (D := (dC, dI)) (ci := 2) (v := .ref aY) (C := RX2) (T := TX2) (N := 10) hx hb hts (by decide +kernel) hown hK hP 0 rfl rfl 4 (by decide) (hts (.fieldLink RX2 30 "CapacityRound" "obligations" "[I") (by decide +kernel)) (fun _ h9 => h9) rfl dX2_lackOf_38 ?_
          refine lv_iload hx hb dX2_lackOf_41 (lv_at hl 0 rfl) ?_
          refine q_iald hx hb hK hP 12 0 rfl rfl ((pn * 8 + y) * 12 + h) (z_hc hp hy ex4) (by omega) (by decide) dX2_lackOf_43 ?_
          refine lv_aload_n hx hb dX2_lackOf_44 rfl (lv_at hl 3 rfl) ?_
          refine va_get (D := (dC, dI)) (ci := 2) (v := .ref aU) (C := RX2) (T := TX2) (N := 10) hx hb hts (by decide +kernel) hown hK hP 0 rfl rfl 5 (by decide) (hts (.fieldLink RX2 33 "CapacityRound" "outputs" "[I") (by decide +kernel)) (fun _ h9 => h9) rfl dX2_lackOf_45 ?_
          refine lv_iload hx hb dX2_lackOf_48 (lv_at hl 0 rfl) ?_
          refine q_iald hx hb hK hP 13 0 rfl rfl ((pn * 8 + y) * 12 + h) (z_hc hp hy ex4) (by omega) (by decide) dX2_lackOf_50 ?_
          refine lv_isub hx hb dX2_lackOf_51 ?_
          refine lv_iadd hx hb dX2_lackOf_52 ?_
          refine lv_istore_n (lv' := [(3, .int (x3 + ((fY ((pn * 8 + y) * 12 + h)) - (fU ((pn * 8 + y) * 12 + h))))), (5, .int ((pa * 8 + y0) * 12 + x4)), (4, .int x4), (0, .ref ax), (1, .int pa), (2, .int y0)]) hx hb dX2_lackOf_53 rfl hl (by decide) rfl (fun ls hl => ?_)
          refine lv_iinc (v := x4 + 1) (lv' := [(4, .int (x4 + 1)), (3, .int (x3 + ((fY ((pn * 8 + y) * 12 + h)) - (fU ((pn * 8 + y) * 12 + h))))), (5, .int ((pa * 8 + y0) * 12 + x4)), (0, .ref ax), (1, .int pa), (2, .int y0)]) hx hb dX2_lackOf_54 hl (k := 2) rfl rfl (by decide) rfl (fun ls hl => ?_)
          refine lv_goto (tgt := 5) hx hb dX2_lackOf_57 (by decide) ?_
          exact ih_h (h + 1) (x3 + ((fY ((pn * 8 + y) * 12 + h)) - (fU ((pn * 8 + y) * 12 + h)))) (x4 + 1) (by omega) (by omega) (hs) (q_s1 ex4)   ls (lv_sub hl [1, 0, 3, 4, 5] rfl)
  exact lp_5 (12 + 1) 0 0 0 (by omega) (by omega) (rfl) (rfl)   ls (lv_sub hl [1, 0, 2, 3, 4] rfl)
set_option maxHeartbeats 4000000 in
set_option maxRecDepth 100000 in
theorem c_X2_penaltyOf (l : Launch) (dC : Nat → ClassId) (dI : Nat → Nat → Nat) (cI cZ cJ : ClassId) (ax aB aN aY aU aS : Nat) (tr ra ca : Int32) (fB fN fY fU fS : Nat → Int32) (ad aw : Nat) (lo up tp : Int32) (fW : Nat → Int32) (aq aP aA aT aO aE aI n : Nat) (fP fA fT fO fE fI : Nat → Int32) (pa y0 : Int32) (pn y : Nat) (hp : pa = nI pn) (hp5 : pn < 5) (hy : y0 = nI y) (hy8 : y < 8) : Met l yX2_penaltyOf wsX2_penaltyOf ({ frames := 3, cells := 0, slots := 0, locals := 68 }) (va_Pc [.ref ax, .int pa, .int y0] (q_R (dC, dI) vwCl (q_T cI cZ cJ) [(ax, .inr (2, [.ref ad, .ref aq, .ref aB, .ref aN, .ref aY, .ref aU, .ref aS, .int tr, .int ra, .int ca])), (ad, .inr (0, [.ref aw, .int lo, .int up, .int tp])), (aw, .inl (cI, 1002, .inl fW)), (aq, .inr (1, [.ref aP, .ref aA, .ref aT, .ref aO, .int (nI n), .ref aE, .ref aI])), (aP, .inl (cI, 12, .inl fP)), (aA, .inl (cI, 12, .inl fA)), (aT, .inl (cI, 12, .inl fT)), (aO, .inl (cI, 12, .inl fO)), (aE, .inl (cI, 12, .inl fE)), (aI, .inl (cZ, 12, .inl fI)), (aB, .inl (cI, 8, .inl fB)), (aN, .inl (cI, 40, .inl fN)), (aY, .inl (cI, 480, .inl fY)), (aU, .inl (cI, 480, .inl fU)), (aS, .inl (cZ, 96, .inl fS))])) (QcRead (z_pc (z_lk fY fU fS pn y 12) ra (fN (pn * 8 + y)) ca)) 0 0 (fun _ => False) := by
  refine Met.ofW (cc := cX2_penaltyOf) (maxL := 7) (ret := (some .int)) (by decide) rfl ?_
  intro p e s m args below meth c s₁ B hml hv
  obtain ⟨rfl, hP, hK⟩ := hv
  have hx := B.exec
  have hb := B.bytes
  have hr := B.returns
  have hts := atoms_spec (ws := wsX2_penaltyOf) B.pre
  have hown : s.vm.findClass RX2 = some m.cls := findClass_of_methodNamed B.named
  have hlocks := B.notSynchronized
  have hP : va_P (dC, dI) vwCl [(ax, .inr (2, [.ref ad, .ref aq, .ref aB, .ref aN, .ref aY, .ref aU, .ref aS, .int tr, .int ra, .int ca])), (ad, .inr (0, [.ref aw, .int lo, .int up, .int tp])), (aw, .inl (cI, 1002, .inl fW)), (aq, .inr (1, [.ref aP, .ref aA, .ref aT, .ref aO, .int (nI n), .ref aE, .ref aI])), (aP, .inl (cI, 12, .inl fP)), (aA, .inl (cI, 12, .inl fA)), (aT, .inl (cI, 12, .inl fT)), (aO, .inl (cI, 12, .inl fO)), (aE, .inl (cI, 12, .inl fE)), (aI, .inl (cZ, 12, .inl fI)), (aB, .inl (cI, 8, .inl fB)), (aN, .inl (cI, 40, .inl fN)), (aY, .inl (cI, 480, .inl fY)), (aU, .inl (cI, 480, .inl fU)), (aS, .inl (cZ, 96, .inl fS))] s.heap := hP
  have hl := lv_entry ([.ref ax, .int pa, .int y0]) (n := 7) (Nat.le_of_ble_eq_true rfl)
  rw [lg_entry_eq]
  generalize (lg_sl ([.ref ax, .int pa, .int y0]) ++ List.replicate (7 - (lg_sl ([.ref ax, .int pa, .int y0])).length) Slot.unset).toArray = ls at hl ⊢
  have hl : lv_has ls 7 [(0, .ref ax), (1, .int pa), (2, .int y0)] := hl
  refine lv_aload_n hx hb dX2_penaltyOf_0 rfl (lv_at hl 0 rfl) ?_
  refine lv_iload_n hx hb dX2_penaltyOf_1 rfl (lv_at hl 1 rfl) ?_
  refine lv_iload_n hx hb dX2_penaltyOf_2 rfl (lv_at hl 2 rfl) ?_
  refine q_rV (wc := [(ax, .inr (2, [.ref ad, .ref aq, .ref aB, .ref aN, .ref aY, .ref aU, .ref aS, .int tr, .int ra, .int ca])), (ad, .inr (0, [.ref aw, .int lo, .int up, .int tp])), (aw, .inl (cI, 1002, .inl fW)), (aq, .inr (1, [.ref aP, .ref aA, .ref aT, .ref aO, .int (nI n), .ref aE, .ref aI])), (aP, .inl (cI, 12, .inl fP)), (aA, .inl (cI, 12, .inl fA)), (aT, .inl (cI, 12, .inl fT)), (aO, .inl (cI, 12, .inl fO)), (aE, .inl (cI, 12, .inl fE)), (aI, .inl (cZ, 12, .inl fI)), (aB, .inl (cI, 8, .inl fB)), (aN, .inl (cI, 40, .inl fN)), (aY, .inl (cI, 480, .inl fY)), (aU, .inl (cI, 480, .inl fU)), (aS, .inl (cZ, 96, .inl fS))]) (r := (z_lk fY fU fS pn y 12)) (As := [.int pa, .int y0]) (rest := []) ⟨hx, hb, hml, hown, hts⟩ (c_X2_lackOf l dC dI cI cZ cJ ax aB aN aY aU aS tr ra ca fB fN fY fU fS ad aw lo up tp fW aq aP aA aT aO aE aI n fP fA fT fO fE fI pa y0 pn y hp hp5 hy hy8) (cwV 2 hts gX2_penaltyOf_X2_lackOf rfl rfl rfl (by decide +kernel) ⟨Nat.le_of_ble_eq_true rfl, Nat.le_of_ble_eq_true rfl⟩) hK (hP.sub [0, 1, 2, 3, 4, 5, 6, 7, 8, 9, 10, 11, 12, 13, 14] rfl) 2 0 rfl rfl rfl rfl hl.1 rfl (Nat.le_of_ble_eq_true rfl) dX2_penaltyOf_3 ⟨Nat.zero_le _, Nat.zero_le _⟩ ?_
  refine lv_i2l hx hb dX2_penaltyOf_6 rfl ?_
  refine lv_aload_n hx hb dX2_penaltyOf_7 rfl (lv_at hl 0 rfl) ?_
  refine va_get (D := (dC, dI)) (ci := 2) (v := .int ra) (C := RX2) (T := TX2) (N := 10) hx hb hts (by decide +kernel) hown hK hP 0 rfl rfl 8 (by decide) (hts (.fieldLink RX2 44 "CapacityRound" "penaltyRate" "I") (by decide +kernel)) (fun _ h9 => h9) rfl dX2_penaltyOf_8 ?_
  refine lv_i2l hx hb dX2_penaltyOf_11 rfl ?_
  refine lv_lmul hx hb dX2_penaltyOf_12 ?_
  refine lv_lstore_n (lv' := [(3, .long (((z_lk fY fU fS pn y 12).toInt64) * ra.toInt64)), (0, .ref ax), (1, .int pa), (2, .int y0)]) hx hb dX2_penaltyOf_13 rfl hl (by decide) rfl (fun ls hl => ?_)
  refine lv_aload_n hx hb dX2_penaltyOf_14 rfl (lv_at hl 1 rfl) ?_
  refine va_get (D := (dC, dI)) (ci := 2) (v := .ref aN) (C := RX2) (T := TX2) (N := 10) hx hb hts (by decide +kernel) hown hK hP 0 rfl rfl 3 (by decide) (hts (.fieldLink RX2 27 "CapacityRound" "incomes" "[I") (by decide +kernel)) (fun _ h9 => h9) rfl dX2_penaltyOf_15 ?_
  refine lv_iload_n hx hb dX2_penaltyOf_18 rfl (lv_at hl 2 rfl) ?_
  refine lv_iload_n hx hb dX2_penaltyOf_19 rfl (lv_at hl 3 rfl) ?_
  refine q_rS (wc := []) (r := (pa * 8 + y0)) (As := [.int pa, .int y0]) (rest := [.ref aN]) ⟨hx, hb, hml, hown, hts⟩ (c_X2_yearCell l dC dI cI cZ cJ pa y0) (va_cwS 2 hts gX2_penaltyOf_X2_yearCell rfl rfl rfl (by decide +kernel) ⟨Nat.le_of_ble_eq_true rfl, Nat.le_of_ble_eq_true rfl⟩) hK (hP.sub [] rfl) rfl hl.1 rfl (Nat.le_of_ble_eq_true rfl) dX2_penaltyOf_20 ⟨Nat.zero_le _, Nat.zero_le _⟩ ?_
  refine q_iald hx hb hK hP 11 0 rfl rfl (pn * 8 + y) (z_yc hp hy) (by omega) (by decide) dX2_penaltyOf_23 ?_
  refine lv_i2l hx hb dX2_penaltyOf_24 rfl ?_
  refine lv_aload_n hx hb dX2_penaltyOf_25 rfl (lv_at hl 1 rfl) ?_
  refine va_get (D := (dC, dI)) (ci := 2) (v := .int ca) (C := RX2) (T := TX2) (N := 10) hx hb hts (by decide +kernel) hown hK hP 0 rfl rfl 9 (by decide) (hts (.fieldLink RX2 47 "CapacityRound" "penaltyCap" "I") (by decide +kernel)) (fun _ h9 => h9) rfl dX2_penaltyOf_26 ?_
  refine lv_i2l hx hb dX2_penaltyOf_29 rfl ?_
  refine lv_lmul hx hb dX2_penaltyOf_30 ?_
  refine lv_ldc2 (v := 100) hx hb hown (hts (.constantLong RX2 191 (100)) (by decide +kernel)) dX2_penaltyOf_31 ?_
  refine lv_ldiv hx hb dX2_penaltyOf_34 (by decide) ?_
  refine lv_lstore (lv' := [(5, .long ((((fN (pn * 8 + y)).toInt64) * ca.toInt64) / 100)), (3, .long (((z_lk fY fU fS pn y 12).toInt64) * ra.toInt64)), (0, .ref ax), (1, .int pa), (2, .int y0)]) hx hb dX2_penaltyOf_35 hl (by decide) rfl (fun ls hl => ?_)
  refine lv_lconst (v := 0) hx hb dX2_penaltyOf_37 (by decide) ?_
  refine lv_lload_n hx hb dX2_penaltyOf_38 rfl (lv_at hl 1 rfl) ?_
  refine lv_lload hx hb dX2_penaltyOf_39 (lv_at hl 0 rfl) ?_
  refine va_mmin_long hx hb (by rw [hml]; exact hl.1.symm) hown (hts (.methodLink RX2 193 Lib.MathLoose.min_long.x) (by decide +kernel)) (hts (.static Lib.MathLoose.min_long.x) (by decide +kernel)) (hts (.initialized "java/lang/Math") (by decide +kernel)) (hts (.code Lib.MathLoose.min_long.x Lib.MathLoose.min_long.code 4 (some .long)) (by decide +kernel)) (Nat.le_of_ble_eq_true rfl) (Nat.le_of_ble_eq_true rfl) (Nat.zero_le _) (Nat.zero_le _) dX2_penaltyOf_41 ?_
  refine va_mmax_long hx hb (by rw [hml]; exact hl.1.symm) hown (hts (.methodLink RX2 196 Lib.MathLoose.max_long.x) (by decide +kernel)) (hts (.static Lib.MathLoose.max_long.x) (by decide +kernel)) (hts (.initialized "java/lang/Math") (by decide +kernel)) (hts (.code Lib.MathLoose.max_long.x Lib.MathLoose.max_long.code 4 (some .long)) (by decide +kernel)) (Nat.le_of_ble_eq_true rfl) (Nat.le_of_ble_eq_true rfl) (Nat.zero_le _) (Nat.zero_le _) dX2_penaltyOf_44 ?_
  refine lv_l2i hx hb dX2_penaltyOf_47 rfl ?_
  exact W.iret (v := (if (if (((fN (pn * 8 + y)).toInt64) * ca.toInt64) / 100 < ((z_lk fY fU fS pn y 12).toInt64) * ra.toInt64 then (((fN (pn * 8 + y)).toInt64) * ca.toInt64) / 100 else ((z_lk fY fU fS pn y 12).toInt64) * ra.toInt64) < 0 then 0 else (if (((fN (pn * 8 + y)).toInt64) * ca.toInt64) / 100 < ((z_lk fY fU fS pn y 12).toInt64) * ra.toInt64 then (((fN (pn * 8 + y)).toInt64) * ca.toInt64) / 100 else ((z_lk fY fU fS pn y 12).toInt64) * ra.toInt64)).toInt32) hx hb hr (fun tS htS hWS => ⟨congrArg (fun z => Outcome.returned (some (Value.int z))) (rfl : ((if (if (((fN (pn * 8 + y)).toInt64) * ca.toInt64) / 100 < ((z_lk fY fU fS pn y 12).toInt64) * ra.toInt64 then (((fN (pn * 8 + y)).toInt64) * ca.toInt64) / 100 else ((z_lk fY fU fS pn y 12).toInt64) * ra.toInt64) < 0 then 0 else (if (((fN (pn * 8 + y)).toInt64) * ca.toInt64) / 100 < ((z_lk fY fU fS pn y 12).toInt64) * ra.toInt64 then (((fN (pn * 8 + y)).toInt64) * ca.toInt64) / 100 else ((z_lk fY fU fS pn y 12).toInt64) * ra.toInt64)).toInt32 : Int32) = z_pc (z_lk fY fU fS pn y 12) ra (fN (pn * 8 + y)) ca), htS⟩) (fun _ h => nomatch h) dX2_penaltyOf_48
