set_option maxHeartbeats 4000000 in
set_option maxRecDepth 100000 in
theorem c_X3_thrown (l : Launch) (dC : Nat → ClassId) (dI : Nat → Nat → Nat) (cI cZ cJ : ClassId) (bm bP bA bE bT bB bN bY bU bS : Nat) (lo up tp tr ra ca tw : Int32) (n : Nat) (fP fA fE fT fB fN fY fU fS : Nat → Int32)  : Met l yX3_thrown wsX3_thrown ({ frames := 0, cells := 0, slots := 0, locals := 0 }) (va_Pc [.ref bm] (q_R (dC, dI) vwCl (q_T cI cZ cJ) [(bm, .inr (3, [.int lo, .int up, .int tp, .ref bP, .ref bA, .ref bE, .ref bT, .int (nI n), .ref bB, .ref bN, .ref bY, .ref bU, .ref bS, .int tr, .int ra, .int ca, .int tw])), (bP, .inl (cI, 12, .inl fP)), (bA, .inl (cI, 12, .inl fA)), (bE, .inl (cI, 12, .inl fE)), (bT, .inl (cI, 12, .inl fT)), (bB, .inl (cI, 8, .inl fB)), (bN, .inl (cI, 40, .inl fN)), (bY, .inl (cI, 480, .inl fY)), (bU, .inl (cI, 480, .inl fU)), (bS, .inl (cZ, 96, .inl fS))])) (QcRead tw) 0 0 (fun _ => False) := by
  refine Met.ofW (cc := cX3_thrown) (maxL := 1) (ret := (some .int)) (by decide) rfl ?_
  intro p e s m args below meth c s₁ B hml hv
  obtain ⟨rfl, hP, hK⟩ := hv
  have hx := B.exec
  have hb := B.bytes
  have hr := B.returns
  have hts := atoms_spec (ws := wsX3_thrown) B.pre
  have hown : s.vm.findClass RX3 = some m.cls := findClass_of_methodNamed B.named
  have hlocks := B.notSynchronized
  have hP : va_P (dC, dI) vwCl [(bm, .inr (3, [.int lo, .int up, .int tp, .ref bP, .ref bA, .ref bE, .ref bT, .int (nI n), .ref bB, .ref bN, .ref bY, .ref bU, .ref bS, .int tr, .int ra, .int ca, .int tw])), (bP, .inl (cI, 12, .inl fP)), (bA, .inl (cI, 12, .inl fA)), (bE, .inl (cI, 12, .inl fE)), (bT, .inl (cI, 12, .inl fT)), (bB, .inl (cI, 8, .inl fB)), (bN, .inl (cI, 40, .inl fN)), (bY, .inl (cI, 480, .inl fY)), (bU, .inl (cI, 480, .inl fU)), (bS, .inl (cZ, 96, .inl fS))] s.heap := hP
  have hl := lv_entry ([.ref bm]) (n := 1) (Nat.le_of_ble_eq_true rfl)
  rw [lg_entry_eq]
  generalize (lg_sl ([.ref bm]) ++ List.replicate (1 - (lg_sl ([.ref bm])).length) Slot.unset).toArray = ls at hl ⊢
  have hl : lv_has ls 1 [(0, .ref bm)] := hl
  refine lv_aload_n hx hb dX3_thrown_0 rfl (lv_at hl 0 rfl) ?_
  refine va_get (D := (dC, dI)) (ci := 3) (v := .int tw) (C := RX3) (T := TX3) (N := 17) hx hb hts (by decide +kernel) hown hK hP 0 rfl rfl 16 (by decide) (hts (.fieldLink RX3 54 "CapacityRoundModel" "thrown" "I") (by decide +kernel)) (fun _ h9 => h9) rfl dX3_thrown_1 ?_
  exact W.iret (v := tw) hx hb hr (fun tS htS hWS => ⟨congrArg (fun z => Outcome.returned (some (Value.int z))) (rfl : (tw : Int32) = tw), htS⟩) (fun _ h => nomatch h) dX3_thrown_4
set_option maxHeartbeats 4000000 in
set_option maxRecDepth 100000 in
theorem c_X3_goes (l : Launch) (dC : Nat → ClassId) (dI : Nat → Nat → Nat) (cI cZ cJ : ClassId) (bm bP bA bE bT bB bN bY bU bS : Nat) (lo up tp tr ra ca tw : Int32) (n : Nat) (g1 g2 g3 : Bool)  : Met l yX3_goes wsX3_goes ({ frames := 0, cells := 0, slots := 0, locals := 0 }) (va_Pc [.ref bm, .int (z_b g1), .int (z_b g2), .int (z_b g3)] (q_M (dC, dI) vwCl (q_T cI cZ cJ) [(bm, .inr (3, [.int lo, .int up, .int tp, .ref bP, .ref bA, .ref bE, .ref bT, .int (nI n), .ref bB, .ref bN, .ref bY, .ref bU, .ref bS, .int tr, .int ra, .int ca, .int tw]))])) (q_W (some (.int (z_b (g1 && g2 && g3)))) (dC, dI) vwCl [(bm, .inr (3, [.int lo, .int up, .int tp, .ref bP, .ref bA, .ref bE, .ref bT, .int (nI n), .ref bB, .ref bN, .ref bY, .ref bU, .ref bS, .int tr, .int ra, .int ca, .int (z_cd g1 g2 g3)]))] (q_B [(bm, .inr (3, [.int lo, .int up, .int tp, .ref bP, .ref bA, .ref bE, .ref bT, .int (nI n), .ref bB, .ref bN, .ref bY, .ref bU, .ref bS, .int tr, .int ra, .int ca, .int tw]))])) 0 0 (q_B [(bm, .inr (3, [.int lo, .int up, .int tp, .ref bP, .ref bA, .ref bE, .ref bT, .int (nI n), .ref bB, .ref bN, .ref bY, .ref bU, .ref bS, .int tr, .int ra, .int ca, .int tw]))]) := by
  refine Met.ofW (cc := cX3_goes) (maxL := 4) (ret := (some .boolean)) (by decide) rfl ?_
  intro p e s m args below meth c s₁ B hml hv
  obtain ⟨rfl, hP, hK, hD0⟩ := hv
  have hx := B.exec
  have hb := B.bytes
  have hr := B.returns
  have hts := atoms_spec (ws := wsX3_goes) B.pre
  have hown : s.vm.findClass RX3 = some m.cls := findClass_of_methodNamed B.named
  have hlocks := B.notSynchronized
  have hD := q_Bself hD0
  generalize hAe : q_B [(bm, .inr (3, [.int lo, .int up, .int tp, .ref bP, .ref bA, .ref bE, .ref bT, .int (nI n), .ref bB, .ref bN, .ref bY, .ref bU, .ref bS, .int tr, .int ra, .int ca, .int tw]))] = A at hD ⊢
  have hS : va_S A s.heap s.heap [] := va_S.rf
  have hP : va_P (dC, dI) vwCl [(bm, .inr (3, [.int lo, .int up, .int tp, .ref bP, .ref bA, .ref bE, .ref bT, .int (nI n), .ref bB, .ref bN, .ref bY, .ref bU, .ref bS, .int tr, .int ra, .int ca, .int tw]))] s.heap := hP
  have hl := lv_entry ([.ref bm, .int (z_b g1), .int (z_b g2), .int (z_b g3)]) (n := 4) (Nat.le_of_ble_eq_true rfl)
  rw [lg_entry_eq]
  generalize (lg_sl ([.ref bm, .int (z_b g1), .int (z_b g2), .int (z_b g3)]) ++ List.replicate (4 - (lg_sl ([.ref bm, .int (z_b g1), .int (z_b g2), .int (z_b g3)])).length) Slot.unset).toArray = ls at hl ⊢
  have hl : lv_has ls 4 [(0, .ref bm), (1, .int (z_b g1)), (2, .int (z_b g2)), (3, .int (z_b g3))] := hl
  refine lv_aload_n hx hb dX3_goes_0 rfl (lv_at hl 0 rfl) ?_
  have jn_26 : ∀ (v6 : Int32), v6 = z_cd g1 g2 g3 → ∀ (ls : Array Slot), lv_has ls 4 [(0, .ref bm), (1, .int (z_b g1)), (2, .int (z_b g2)), (3, .int (z_b g3))] → W p l e (headSpec wsX3_goes ({ frames := 0, cells := 0, slots := 0, locals := 0 })).room s m [.ref bm, .int (z_b g1), .int (z_b g2), .int (z_b g3)].toArray below meth c s.heap [] 0 0 (MQ below (q_W (some (.int (z_b (g1 && g2 && g3)))) (dC, dI) vwCl [(bm, .inr (3, [.int lo, .int up, .int tp, .ref bP, .ref bA, .ref bE, .ref bT, .int (nI n), .ref bB, .ref bN, .ref bY, .ref bU, .ref bS, .int tr, .int ra, .int ca, .int (z_cd g1 g2 g3)]))] A) [.ref bm, .int (z_b g1), .int (z_b g2), .int (z_b g3)].toArray s 0 0 A) (F0 m 26 ls [.int v6, .ref bm]) := by
    intro v6 ev6  ls hl
    subst ev6
    refine va_put (D := (dC, dI)) (ci := 3) (v := .int (z_cd g1 g2 g3)) (ty := .int) (C := RX3) (T := TX3) (N := 17) hx hb hts (by decide +kernel) tyX3 tyX3_ok nmX3 hown hK hP hD hS 0 rfl rfl 16 (by decide) (hts (.fieldLink RX3 54 "CapacityRoundModel" "thrown" "I") (by decide +kernel)) (fun _ h9 => h9) rfl (by decide +kernel) rfl rfl (Nat.le_of_ble_eq_true rfl) dX3_goes_26 (fun H locs hP hD hS => ?_)
    have hP : va_P (dC, dI) vwCl [(bm, .inr (3, [.int lo, .int up, .int tp, .ref bP, .ref bA, .ref bE, .ref bT, .int (nI n), .ref bB, .ref bN, .ref bY, .ref bU, .ref bS, .int tr, .int ra, .int ca, .int (z_cd g1 g2 g3)]))] H := hP
    have hD : va_D A [(bm, .inr (3, [.int lo, .int up, .int tp, .ref bP, .ref bA, .ref bE, .ref bT, .int (nI n), .ref bB, .ref bN, .ref bY, .ref bU, .ref bS, .int tr, .int ra, .int ca, .int (z_cd g1 g2 g3)]))] := hD
    refine lv_aload_n hx hb dX3_goes_29 rfl (lv_at hl 0 rfl) ?_
    refine va_get (D := (dC, dI)) (ci := 3) (v := .int (z_cd g1 g2 g3)) (C := RX3) (T := TX3) (N := 17) hx hb hts (by decide +kernel) hown hK hP 0 rfl rfl 16 (by decide) (hts (.fieldLink RX3 54 "CapacityRoundModel" "thrown" "I") (by decide +kernel)) (fun _ h9 => h9) rfl dX3_goes_30 ?_
    refine lv_if_ne (tgt := 40) hx hb dX3_goes_33 (by decide) (fun c_33 => ?_) (fun c_33 => ?_)
    · have hz := z_cdn c_33
      refine lv_iconst (v := 0) hx hb dX3_goes_40 (by decide) ?_
      exact W.zret (v := 0) (ty := .boolean) hx hb hr (rfl) (fun tS htS hWS => ⟨congrArg (fun z => Outcome.returned (some (Value.int z))) (by rw [hz]; rfl : (0 : Int32) = z_b (g1 && g2 && g3)), by rw [htS]; exact hP, hS.F htS⟩) hS.2.2 dX3_goes_41
    · have hz := z_cdy c_33
      refine lv_iconst (v := 1) hx hb dX3_goes_36 (by decide) ?_
      refine lv_goto (tgt := 41) hx hb dX3_goes_37 (by decide) ?_
      exact W.zret (v := 1) (ty := .boolean) hx hb hr (rfl) (fun tS htS hWS => ⟨congrArg (fun z => Outcome.returned (some (Value.int z))) (by rw [hz]; rfl : (1 : Int32) = z_b (g1 && g2 && g3)), by rw [htS]; exact hP, hS.F htS⟩) hS.2.2 dX3_goes_41
  refine lv_iload_n hx hb dX3_goes_1 rfl (lv_at hl 1 rfl) ?_
  refine lv_if_ne (tgt := 9) hx hb dX3_goes_2 (by decide) (fun c_2 => ?_) (fun c_2 => ?_)
  · have f_2 : g1 = true := z_bt c_2
    refine lv_iload_n hx hb dX3_goes_9 rfl (lv_at hl 2 rfl) ?_
    refine lv_if_ne (tgt := 17) hx hb dX3_goes_10 (by decide) (fun c_10 => ?_) (fun c_10 => ?_)
    · have f_10 : g2 = true := z_bt c_10
      refine lv_iload_n hx hb dX3_goes_17 rfl (lv_at hl 3 rfl) ?_
      refine lv_if_ne (tgt := 25) hx hb dX3_goes_18 (by decide) (fun c_18 => ?_) (fun c_18 => ?_)
      · have f_18 : g3 = true := z_bt c_18
        refine lv_iconst (v := 0) hx hb dX3_goes_25 (by decide) ?_
        refine lv_topi (fun v_1 ev_1 => ?_)
        obtain rfl : v_1 = z_cd g1 g2 g3 := ev_1.trans ((z_cd0 f_2 f_10 f_18).symm)
        exact jn_26 (z_cd g1 g2 g3) (rfl)  ls (lv_sub hl [0, 1, 2, 3] rfl)
      · have f_18 : g3 = false := z_bf c_18
        refine lv_iconst (v := 3) hx hb dX3_goes_21 (by decide) ?_
        refine lv_topi (fun v_2 ev_2 => ?_)
        obtain rfl : v_2 = z_cd g1 g2 g3 := ev_2.trans ((z_cd3 f_2 f_10 f_18).symm)
        refine lv_goto (tgt := 26) hx hb dX3_goes_22 (by decide) ?_
        exact jn_26 (z_cd g1 g2 g3) (rfl)  ls (lv_sub hl [0, 1, 2, 3] rfl)
    · have f_10 : g2 = false := z_bf c_10
      refine lv_iconst (v := 2) hx hb dX3_goes_13 (by decide) ?_
      refine lv_topi (fun v_3 ev_3 => ?_)
      obtain rfl : v_3 = z_cd g1 g2 g3 := ev_3.trans ((z_cd2 f_2 f_10).symm)
      refine lv_goto (tgt := 26) hx hb dX3_goes_14 (by decide) ?_
      exact jn_26 (z_cd g1 g2 g3) (rfl)  ls (lv_sub hl [0, 1, 2, 3] rfl)
  · have f_2 : g1 = false := z_bf c_2
    refine lv_iconst (v := 1) hx hb dX3_goes_5 (by decide) ?_
    refine lv_topi (fun v_4 ev_4 => ?_)
    obtain rfl : v_4 = z_cd g1 g2 g3 := ev_4.trans ((z_cd1 f_2).symm)
    refine lv_goto (tgt := 26) hx hb dX3_goes_6 (by decide) ?_
    exact jn_26 (z_cd g1 g2 g3) (rfl)  ls (lv_sub hl [0, 1, 2, 3] rfl)
set_option maxHeartbeats 4000000 in
set_option maxRecDepth 100000 in
theorem c_X3_valueOf (l : Launch) (dC : Nat → ClassId) (dI : Nat → Nat → Nat) (cI cZ cJ : ClassId) (bm bP bA bE bT bB bN bY bU bS : Nat) (lo up tp tr ra ca tw : Int32) (n : Nat) (fP fA fE fT fB fN fY fU fS : Nat → Int32) (u : Int32)  : Met l yX3_valueOf wsX3_valueOf ({ frames := 0, cells := 0, slots := 0, locals := 0 }) (va_Pc [.ref bm, .int u] (q_R (dC, dI) vwCl (q_T cI cZ cJ) [(bm, .inr (3, [.int lo, .int up, .int tp, .ref bP, .ref bA, .ref bE, .ref bT, .int (nI n), .ref bB, .ref bN, .ref bY, .ref bU, .ref bS, .int tr, .int ra, .int ca, .int tw])), (bP, .inl (cI, 12, .inl fP)), (bA, .inl (cI, 12, .inl fA)), (bE, .inl (cI, 12, .inl fE)), (bT, .inl (cI, 12, .inl fT)), (bB, .inl (cI, 8, .inl fB)), (bN, .inl (cI, 40, .inl fN)), (bY, .inl (cI, 480, .inl fY)), (bU, .inl (cI, 480, .inl fU)), (bS, .inl (cZ, 96, .inl fS))])) (QcRead (z_v lo up tp u)) 0 0 (fun _ => False) := by
  refine Met.ofW (cc := cX3_valueOf) (maxL := 2) (ret := (some .int)) (by decide) rfl ?_
  intro p e s m args below meth c s₁ B hml hv
  obtain ⟨rfl, hP, hK⟩ := hv
  have hx := B.exec
  have hb := B.bytes
  have hr := B.returns
  have hts := atoms_spec (ws := wsX3_valueOf) B.pre
  have hown : s.vm.findClass RX3 = some m.cls := findClass_of_methodNamed B.named
  have hlocks := B.notSynchronized
  have hP : va_P (dC, dI) vwCl [(bm, .inr (3, [.int lo, .int up, .int tp, .ref bP, .ref bA, .ref bE, .ref bT, .int (nI n), .ref bB, .ref bN, .ref bY, .ref bU, .ref bS, .int tr, .int ra, .int ca, .int tw])), (bP, .inl (cI, 12, .inl fP)), (bA, .inl (cI, 12, .inl fA)), (bE, .inl (cI, 12, .inl fE)), (bT, .inl (cI, 12, .inl fT)), (bB, .inl (cI, 8, .inl fB)), (bN, .inl (cI, 40, .inl fN)), (bY, .inl (cI, 480, .inl fY)), (bU, .inl (cI, 480, .inl fU)), (bS, .inl (cZ, 96, .inl fS))] s.heap := hP
  have hl := lv_entry ([.ref bm, .int u]) (n := 2) (Nat.le_of_ble_eq_true rfl)
  rw [lg_entry_eq]
  generalize (lg_sl ([.ref bm, .int u]) ++ List.replicate (2 - (lg_sl ([.ref bm, .int u])).length) Slot.unset).toArray = ls at hl ⊢
  have hl : lv_has ls 2 [(0, .ref bm), (1, .int u)] := hl
  refine lv_iload_n hx hb dX3_valueOf_0 rfl (lv_at hl 1 rfl) ?_
  refine lv_aload_n hx hb dX3_valueOf_1 rfl (lv_at hl 0 rfl) ?_
  refine va_get (D := (dC, dI)) (ci := 3) (v := .int lo) (C := RX3) (T := TX3) (N := 17) hx hb hts (by decide +kernel) hown hK hP 0 rfl rfl 0 (by decide) (hts (.fieldLink RX3 7 "CapacityRoundModel" "lower" "I") (by decide +kernel)) (fun _ h9 => h9) rfl dX3_valueOf_2 ?_
  refine lv_icmp_gt (tgt := 15) hx hb dX3_valueOf_5 (by decide) (fun c_5 => ?_) (fun c_5 => ?_)
  · have h5 := c_5
    refine lv_iload_n hx hb dX3_valueOf_15 rfl (lv_at hl 1 rfl) ?_
    refine lv_aload_n hx hb dX3_valueOf_16 rfl (lv_at hl 0 rfl) ?_
    refine va_get (D := (dC, dI)) (ci := 3) (v := .int up) (C := RX3) (T := TX3) (N := 17) hx hb hts (by decide +kernel) hown hK hP 0 rfl rfl 1 (by decide) (hts (.fieldLink RX3 13 "CapacityRoundModel" "upper" "I") (by decide +kernel)) (fun _ h9 => h9) rfl dX3_valueOf_17 ?_
    refine lv_icmp_le (tgt := 27) hx hb dX3_valueOf_20 (by decide) (fun c_20 => ?_) (fun c_20 => ?_)
    · have hz : tp * (up - u) / (up - lo) = z_v lo up tp u := by unfold z_v; rw [if_neg (z_nle.mpr c_5), if_pos c_20]
      refine lv_aload_n hx hb dX3_valueOf_27 rfl (lv_at hl 0 rfl) ?_
      refine va_get (D := (dC, dI)) (ci := 3) (v := .int tp) (C := RX3) (T := TX3) (N := 17) hx hb hts (by decide +kernel) hown hK hP 0 rfl rfl 2 (by decide) (hts (.fieldLink RX3 16 "CapacityRoundModel" "top" "I") (by decide +kernel)) (fun _ h9 => h9) rfl dX3_valueOf_28 ?_
      refine lv_aload_n hx hb dX3_valueOf_31 rfl (lv_at hl 0 rfl) ?_
      refine va_get (D := (dC, dI)) (ci := 3) (v := .int up) (C := RX3) (T := TX3) (N := 17) hx hb hts (by decide +kernel) hown hK hP 0 rfl rfl 1 (by decide) (hts (.fieldLink RX3 13 "CapacityRoundModel" "upper" "I") (by decide +kernel)) (fun _ h9 => h9) rfl dX3_valueOf_32 ?_
      refine lv_iload_n hx hb dX3_valueOf_35 rfl (lv_at hl 1 rfl) ?_
      refine lv_isub hx hb dX3_valueOf_36 ?_
      refine lv_imul hx hb dX3_valueOf_37 ?_
      refine lv_aload_n hx hb dX3_valueOf_38 rfl (lv_at hl 0 rfl) ?_
      refine va_get (D := (dC, dI)) (ci := 3) (v := .int up) (C := RX3) (T := TX3) (N := 17) hx hb hts (by decide +kernel) hown hK hP 0 rfl rfl 1 (by decide) (hts (.fieldLink RX3 13 "CapacityRoundModel" "upper" "I") (by decide +kernel)) (fun _ h9 => h9) rfl dX3_valueOf_39 ?_
      refine lv_aload_n hx hb dX3_valueOf_42 rfl (lv_at hl 0 rfl) ?_
      refine va_get (D := (dC, dI)) (ci := 3) (v := .int lo) (C := RX3) (T := TX3) (N := 17) hx hb hts (by decide +kernel) hown hK hP 0 rfl rfl 0 (by decide) (hts (.fieldLink RX3 7 "CapacityRoundModel" "lower" "I") (by decide +kernel)) (fun _ h9 => h9) rfl dX3_valueOf_43 ?_
      refine lv_isub hx hb dX3_valueOf_46 ?_
      refine lv_idiv hx hb dX3_valueOf_47 (z_ne (z_nle.mpr c_5) c_20) ?_
      exact W.iret (v := (tp * (up - u)) / (up - lo)) hx hb hr (fun tS htS hWS => ⟨congrArg (fun z => Outcome.returned (some (Value.int z))) (hz : ((tp * (up - u)) / (up - lo) : Int32) = z_v lo up tp u), htS⟩) (fun _ h => nomatch h) dX3_valueOf_48
    · have hz : 0 = z_v lo up tp u := by unfold z_v; rw [if_neg (z_nle.mpr c_5), if_neg c_20]
      refine lv_iconst (v := 0) hx hb dX3_valueOf_23 (by decide) ?_
      refine lv_goto (tgt := 48) hx hb dX3_valueOf_24 (by decide) ?_
      exact W.iret (v := 0) hx hb hr (fun tS htS hWS => ⟨congrArg (fun z => Outcome.returned (some (Value.int z))) (hz : (0 : Int32) = z_v lo up tp u), htS⟩) (fun _ h => nomatch h) dX3_valueOf_48
  · have hz : tp = z_v lo up tp u := by unfold z_v; rw [if_pos (z_nlt.mp c_5)]
    refine lv_aload_n hx hb dX3_valueOf_8 rfl (lv_at hl 0 rfl) ?_
    refine va_get (D := (dC, dI)) (ci := 3) (v := .int tp) (C := RX3) (T := TX3) (N := 17) hx hb hts (by decide +kernel) hown hK hP 0 rfl rfl 2 (by decide) (hts (.fieldLink RX3 16 "CapacityRoundModel" "top" "I") (by decide +kernel)) (fun _ h9 => h9) rfl dX3_valueOf_9 ?_
    refine lv_goto (tgt := 48) hx hb dX3_valueOf_12 (by decide) ?_
    exact W.iret (v := tp) hx hb hr (fun tS htS hWS => ⟨congrArg (fun z => Outcome.returned (some (Value.int z))) (hz : (tp : Int32) = z_v lo up tp u), htS⟩) (fun _ h => nomatch h) dX3_valueOf_48
set_option maxHeartbeats 4000000 in
set_option maxRecDepth 100000 in
theorem c_X3_worthOf (l : Launch) (dC : Nat → ClassId) (dI : Nat → Nat → Nat) (cI cZ cJ : ClassId) (bm bP bA bE bT bB bN bY bU bS : Nat) (lo up tp tr ra ca tw : Int32) (n : Nat) (fP fA fE fT fB fN fY fU fS : Nat → Int32) (a : Int32) (hup : up = nI (z_n up)) (hup2 : z_n up ≤ 1001) : Met l yX3_worthOf wsX3_worthOf ({ frames := 1, cells := 0, slots := 0, locals := 21 }) (va_Pc [.ref bm, .int a] (q_R (dC, dI) vwCl (q_T cI cZ cJ) [(bm, .inr (3, [.int lo, .int up, .int tp, .ref bP, .ref bA, .ref bE, .ref bT, .int (nI n), .ref bB, .ref bN, .ref bY, .ref bU, .ref bS, .int tr, .int ra, .int ca, .int tw])), (bP, .inl (cI, 12, .inl fP)), (bA, .inl (cI, 12, .inl fA)), (bE, .inl (cI, 12, .inl fE)), (bT, .inl (cI, 12, .inl fT)), (bB, .inl (cI, 8, .inl fB)), (bN, .inl (cI, 40, .inl fN)), (bY, .inl (cI, 480, .inl fY)), (bU, .inl (cI, 480, .inl fU)), (bS, .inl (cZ, 96, .inl fS))])) (QcRead (z_w lo up tp (min (z_n a) (z_n up)))) 0 0 (fun _ => False) := by
  refine Met.ofW (cc := cX3_worthOf) (maxL := 4) (ret := (some .int)) (by decide) rfl ?_
  intro p e s m args below meth c s₁ B hml hv
  obtain ⟨rfl, hP, hK⟩ := hv
  have hx := B.exec
  have hb := B.bytes
  have hr := B.returns
  have hts := atoms_spec (ws := wsX3_worthOf) B.pre
  have hown : s.vm.findClass RX3 = some m.cls := findClass_of_methodNamed B.named
  have hlocks := B.notSynchronized
  have hP : va_P (dC, dI) vwCl [(bm, .inr (3, [.int lo, .int up, .int tp, .ref bP, .ref bA, .ref bE, .ref bT, .int (nI n), .ref bB, .ref bN, .ref bY, .ref bU, .ref bS, .int tr, .int ra, .int ca, .int tw])), (bP, .inl (cI, 12, .inl fP)), (bA, .inl (cI, 12, .inl fA)), (bE, .inl (cI, 12, .inl fE)), (bT, .inl (cI, 12, .inl fT)), (bB, .inl (cI, 8, .inl fB)), (bN, .inl (cI, 40, .inl fN)), (bY, .inl (cI, 480, .inl fY)), (bU, .inl (cI, 480, .inl fU)), (bS, .inl (cZ, 96, .inl fS))] s.heap := hP
  have hl := lv_entry ([.ref bm, .int a]) (n := 4) (Nat.le_of_ble_eq_true rfl)
  rw [lg_entry_eq]
  generalize (lg_sl ([.ref bm, .int a]) ++ List.replicate (4 - (lg_sl ([.ref bm, .int a])).length) Slot.unset).toArray = ls at hl ⊢
  have hl : lv_has ls 4 [(0, .ref bm), (1, .int a)] := hl
  refine lv_iconst (v := 0) hx hb dX3_worthOf_0 (by decide) ?_
  refine lv_istore_n (lv' := [(2, .int 0), (0, .ref bm), (1, .int a)]) hx hb dX3_worthOf_1 rfl hl (by decide) rfl (fun ls hl => ?_)
  refine lv_iconst (v := 1) hx hb dX3_worthOf_2 (by decide) ?_
  refine lv_istore_n (lv' := [(3, .int 1), (2, .int 0), (0, .ref bm), (1, .int a)]) hx hb dX3_worthOf_3 rfl hl (by decide) rfl (fun ls hl => ?_)
  have lp_4 : ∀ (wk k : Nat) (x2 : Int32) (x3 : Int32), k ≤ (min (z_n a) (z_n up)) → (min (z_n a) (z_n up)) < k + wk → x2 = z_w lo up tp k → x3 = nI (k + 1) → ∀ (ls : Array Slot), lv_has ls 4 [(2, .int x2), (3, .int x3), (0, .ref bm), (1, .int a)] → W p l e (headSpec wsX3_worthOf ({ frames := 1, cells := 0, slots := 0, locals := 21 })).room s m [.ref bm, .int a].toArray below meth c s.heap [] 0 0 (MQ below (QcRead (z_w lo up tp (min (z_n a) (z_n up)))) [.ref bm, .int a].toArray s 0 0 (fun _ => False)) (F0 m 4 ls []) := by
    intro wk
    induction wk with
    | zero => intro k x2 x3 hk_k hw_k; exact absurd hw_k (by omega)
    | succ wk ih_k =>
      intro k x2 x3 hk_k hw_k ex2 ex3   ls hl
      refine lv_iload_n hx hb dX3_worthOf_4 rfl (lv_at hl 1 rfl) ?_
      refine lv_iload_n hx hb dX3_worthOf_5 rfl (lv_at hl 3 rfl) ?_
      refine lv_icmp_gt (tgt := 31) hx hb dX3_worthOf_6 (by decide) (fun c_6 => ?_) (fun c_6 => ?_)
      · have hkn : k = min (z_n a) (z_n up) := by have h9 := (z_ltn (k := k) (by omega)).mp (by rw [← ex3]; exact c_6); omega
        refine lv_iload_n hx hb dX3_worthOf_31 rfl (lv_at hl 0 rfl) ?_
        exact W.iret (v := x2) hx hb hr (fun tS htS hWS => ⟨congrArg (fun z => Outcome.returned (some (Value.int z))) (ex2.trans (by rw [hkn]) : (x2 : Int32) = z_w lo up tp (min (z_n a) (z_n up))), htS⟩) (fun _ h => nomatch h) dX3_worthOf_32
      · have h6 : ¬ z_n a < k + 1 := fun q => c_6 (by rw [ex3]; exact (z_ltn (k := k) (by omega)).mpr q)
        refine lv_iload_n hx hb dX3_worthOf_9 rfl (lv_at hl 1 rfl) ?_
        refine lv_aload_n hx hb dX3_worthOf_10 rfl (lv_at hl 2 rfl) ?_
        refine va_get (D := (dC, dI)) (ci := 3) (v := .int up) (C := RX3) (T := TX3) (N := 17) hx hb hts (by decide +kernel) hown hK hP 0 rfl rfl 1 (by decide) (hts (.fieldLink RX3 13 "CapacityRoundModel" "upper" "I") (by decide +kernel)) (fun _ h9 => h9) rfl dX3_worthOf_11 ?_
        refine lv_icmp_gt (tgt := 31) hx hb dX3_worthOf_14 (by decide) (fun c_14 => ?_) (fun c_14 => ?_)
        · have hkn : k = min (z_n a) (z_n up) := by have h9 := (q_cgt hup ex3 (by omega) (by omega)).mp c_14; omega
          refine lv_iload_n hx hb dX3_worthOf_31 rfl (lv_at hl 0 rfl) ?_
          exact W.iret (v := x2) hx hb hr (fun tS htS hWS => ⟨congrArg (fun z => Outcome.returned (some (Value.int z))) (ex2.trans (by rw [hkn]) : (x2 : Int32) = z_w lo up tp (min (z_n a) (z_n up))), htS⟩) (fun _ h => nomatch h) dX3_worthOf_32
        · have hkn : k < min (z_n a) (z_n up) := by have h9 := (not_congr (q_cgt hup ex3 (by omega) (by omega))).mp c_14; omega
          refine lv_iload_n hx hb dX3_worthOf_17 rfl (lv_at hl 0 rfl) ?_
          refine lv_aload_n hx hb dX3_worthOf_18 rfl (lv_at hl 2 rfl) ?_
          refine lv_iload_n hx hb dX3_worthOf_19 rfl (lv_at hl 1 rfl) ?_
          refine q_rV (wc := [(bm, .inr (3, [.int lo, .int up, .int tp, .ref bP, .ref bA, .ref bE, .ref bT, .int (nI n), .ref bB, .ref bN, .ref bY, .ref bU, .ref bS, .int tr, .int ra, .int ca, .int tw])), (bP, .inl (cI, 12, .inl fP)), (bA, .inl (cI, 12, .inl fA)), (bE, .inl (cI, 12, .inl fE)), (bT, .inl (cI, 12, .inl fT)), (bB, .inl (cI, 8, .inl fB)), (bN, .inl (cI, 40, .inl fN)), (bY, .inl (cI, 480, .inl fY)), (bU, .inl (cI, 480, .inl fU)), (bS, .inl (cZ, 96, .inl fS))]) (r := (z_v lo up tp x3)) (As := [.int x3]) (rest := [.int x2]) ⟨hx, hb, hml, hown, hts⟩ (c_X3_valueOf l dC dI cI cZ cJ bm bP bA bE bT bB bN bY bU bS lo up tp tr ra ca tw n fP fA fE fT fB fN fY fU fS x3) (cwV 1 hts gX3_worthOf_X3_valueOf rfl rfl rfl (by decide +kernel) ⟨Nat.le_of_ble_eq_true rfl, Nat.le_of_ble_eq_true rfl⟩) hK (hP.sub [0, 1, 2, 3, 4, 5, 6, 7, 8, 9] rfl) 3 0 rfl rfl rfl rfl hl.1 rfl (Nat.le_of_ble_eq_true rfl) dX3_worthOf_20 ⟨Nat.zero_le _, Nat.zero_le _⟩ ?_
          refine lv_iadd hx hb dX3_worthOf_23 ?_
          refine lv_istore_n (lv' := [(2, .int (x2 + (z_v lo up tp x3))), (3, .int x3), (0, .ref bm), (1, .int a)]) hx hb dX3_worthOf_24 rfl hl (by decide) rfl (fun ls hl => ?_)
          refine lv_iinc (v := x3 + 1) (lv' := [(3, .int (x3 + 1)), (2, .int (x2 + (z_v lo up tp x3))), (0, .ref bm), (1, .int a)]) hx hb dX3_worthOf_25 hl (k := 1) rfl rfl (by decide) rfl (fun ls hl => ?_)
          refine lv_goto (tgt := 4) hx hb dX3_worthOf_28 (by decide) ?_
          exact ih_k (k + 1) (x2 + (z_v lo up tp x3)) (x3 + 1) (by omega) (by omega) (by rw [ex2, ex3]; rfl) (q_s1 ex3)   ls (lv_sub hl [1, 0, 2, 3] rfl)
  exact lp_4 ((min (z_n a) (z_n up)) + 1) 0 0 1 (by omega) (by omega) (rfl) (rfl)   ls (lv_sub hl [1, 0, 2, 3] rfl)
set_option maxHeartbeats 4000000 in
set_option maxRecDepth 100000 in
theorem c_X3_rank (l : Launch) (dC : Nat → ClassId) (dI : Nat → Nat → Nat) (cI cZ cJ : ClassId) (bm bP bA bE bT bB bN bY bU bS : Nat) (lo up tp tr ra ca tw : Int32) (n : Nat) (fP fA fE fT fB fN fY fU fS : Nat → Int32) (wo : Int32) (w : Nat) (hn : n ≤ 12) (hw : wo = nI w) (hw12 : w < 12) : Met l yX3_rank wsX3_rank ({ frames := 0, cells := 0, slots := 0, locals := 0 }) (va_Pc [.ref bm, .int wo] (q_R (dC, dI) vwCl (q_T cI cZ cJ) [(bm, .inr (3, [.int lo, .int up, .int tp, .ref bP, .ref bA, .ref bE, .ref bT, .int (nI n), .ref bB, .ref bN, .ref bY, .ref bU, .ref bS, .int tr, .int ra, .int ca, .int tw])), (bP, .inl (cI, 12, .inl fP)), (bA, .inl (cI, 12, .inl fA)), (bE, .inl (cI, 12, .inl fE)), (bT, .inl (cI, 12, .inl fT)), (bB, .inl (cI, 8, .inl fB)), (bN, .inl (cI, 40, .inl fN)), (bY, .inl (cI, 480, .inl fY)), (bU, .inl (cI, 480, .inl fU)), (bS, .inl (cZ, 96, .inl fS))])) (QcRead (nI (z_rk fE w n))) 0 0 (fun _ => False) := by
  refine Met.ofW (cc := cX3_rank) (maxL := 4) (ret := (some .int)) (by decide) rfl ?_
  intro p e s m args below meth c s₁ B hml hv
  obtain ⟨rfl, hP, hK⟩ := hv
  have hx := B.exec
  have hb := B.bytes
  have hr := B.returns
  have hts := atoms_spec (ws := wsX3_rank) B.pre
  have hown : s.vm.findClass RX3 = some m.cls := findClass_of_methodNamed B.named
  have hlocks := B.notSynchronized
  have hP : va_P (dC, dI) vwCl [(bm, .inr (3, [.int lo, .int up, .int tp, .ref bP, .ref bA, .ref bE, .ref bT, .int (nI n), .ref bB, .ref bN, .ref bY, .ref bU, .ref bS, .int tr, .int ra, .int ca, .int tw])), (bP, .inl (cI, 12, .inl fP)), (bA, .inl (cI, 12, .inl fA)), (bE, .inl (cI, 12, .inl fE)), (bT, .inl (cI, 12, .inl fT)), (bB, .inl (cI, 8, .inl fB)), (bN, .inl (cI, 40, .inl fN)), (bY, .inl (cI, 480, .inl fY)), (bU, .inl (cI, 480, .inl fU)), (bS, .inl (cZ, 96, .inl fS))] s.heap := hP
  have hl := lv_entry ([.ref bm, .int wo]) (n := 4) (Nat.le_of_ble_eq_true rfl)
  rw [lg_entry_eq]
  generalize (lg_sl ([.ref bm, .int wo]) ++ List.replicate (4 - (lg_sl ([.ref bm, .int wo])).length) Slot.unset).toArray = ls at hl ⊢
  have hl : lv_has ls 4 [(0, .ref bm), (1, .int wo)] := hl
  refine lv_iconst (v := 0) hx hb dX3_rank_0 (by decide) ?_
  refine lv_istore_n (lv' := [(2, .int 0), (0, .ref bm), (1, .int wo)]) hx hb dX3_rank_1 rfl hl (by decide) rfl (fun ls hl => ?_)
  refine lv_iconst (v := 0) hx hb dX3_rank_2 (by decide) ?_
  refine lv_istore_n (lv' := [(3, .int 0), (2, .int 0), (0, .ref bm), (1, .int wo)]) hx hb dX3_rank_3 rfl hl (by decide) rfl (fun ls hl => ?_)
  have lp_4 : ∀ (wk k : Nat) (x2 : Int32) (x3 : Int32), k ≤ n → n < k + wk → x2 = nI (z_rk fE w k) → x3 = nI k → ∀ (ls : Array Slot), lv_has ls 4 [(2, .int x2), (3, .int x3), (0, .ref bm), (1, .int wo)] → W p l e (headSpec wsX3_rank ({ frames := 0, cells := 0, slots := 0, locals := 0 })).room s m [.ref bm, .int wo].toArray below meth c s.heap [] 0 0 (MQ below (QcRead (nI (z_rk fE w n))) [.ref bm, .int wo].toArray s 0 0 (fun _ => False)) (F0 m 4 ls []) := by
    intro wk
    induction wk with
    | zero => intro k x2 x3 hk_k hw_k; exact absurd hw_k (by omega)
    | succ wk ih_k =>
      intro k x2 x3 hk_k hw_k ex2 ex3   ls hl
      refine lv_iload_n hx hb dX3_rank_4 rfl (lv_at hl 1 rfl) ?_
      refine lv_aload_n hx hb dX3_rank_5 rfl (lv_at hl 2 rfl) ?_
      refine va_get (D := (dC, dI)) (ci := 3) (v := .int (nI n)) (C := RX3) (T := TX3) (N := 17) hx hb hts (by decide +kernel) hown hK hP 0 rfl rfl 7 (by decide) (hts (.fieldLink RX3 76 "CapacityRoundModel" "many" "I") (by decide +kernel)) (fun _ h9 => h9) rfl dX3_rank_6 ?_
      refine lv_icmp_ge (tgt := 61) hx hb dX3_rank_9 (by decide) (fun c_9 => ?_) (fun c_9 => ?_)
      · have hkn : k = n := q_ex ex3 hk_k (by omega) c_9
        refine lv_iload_n hx hb dX3_rank_61 rfl (lv_at hl 0 rfl) ?_
        exact W.iret (v := x2) hx hb hr (fun tS htS hWS => ⟨congrArg (fun z => Outcome.returned (some (Value.int z))) (ex2.trans (by rw [hkn]) : (x2 : Int32) = nI (z_rk fE w n)), htS⟩) (fun _ h => nomatch h) dX3_rank_62
      · have hkn : k < n := q_lt ex3 hk_k (by omega) c_9
        refine lv_iload_n hx hb dX3_rank_12 rfl (lv_at hl 0 rfl) ?_
        refine lv_aload_n hx hb dX3_rank_13 rfl (lv_at hl 2 rfl) ?_
        refine va_get (D := (dC, dI)) (ci := 3) (v := .ref bE) (C := RX3) (T := TX3) (N := 17) hx hb hts (by decide +kernel) hown hK hP 0 rfl rfl 5 (by decide) (hts (.fieldLink RX3 26 "CapacityRoundModel" "exit" "[I") (by decide +kernel)) (fun _ h9 => h9) rfl dX3_rank_14 ?_
        refine lv_iload_n hx hb dX3_rank_17 rfl (lv_at hl 1 rfl) ?_
        refine q_iald hx hb hK hP 3 0 rfl rfl k (ex3) (by omega) (by decide) dX3_rank_18 ?_
        refine lv_aload_n hx hb dX3_rank_19 rfl (lv_at hl 2 rfl) ?_
        refine va_get (D := (dC, dI)) (ci := 3) (v := .ref bE) (C := RX3) (T := TX3) (N := 17) hx hb hts (by decide +kernel) hown hK hP 0 rfl rfl 5 (by decide) (hts (.fieldLink RX3 26 "CapacityRoundModel" "exit" "[I") (by decide +kernel)) (fun _ h9 => h9) rfl dX3_rank_20 ?_
        refine lv_iload_n hx hb dX3_rank_23 rfl (lv_at hl 3 rfl) ?_
        refine q_iald hx hb hK hP 3 0 rfl rfl w (hw) (hw12) (by decide) dX3_rank_24 ?_
        refine lv_icmp_lt (tgt := 48) hx hb dX3_rank_25 (by decide) (fun c_25 => ?_) (fun c_25 => ?_)
        · have hq : z_before fE k w = true := z_bf1 c_25
          have hs : nI (z_rk fE w k) + 1 = nI (z_rk fE w k + (if z_before fE k w = true then 1 else 0)) := by rw [if_pos hq]; exact nI_1 _
          refine lv_iconst (v := 1) hx hb dX3_rank_48 (by decide) ?_
          refine lv_goto (tgt := 53) hx hb dX3_rank_49 (by decide) ?_
          refine lv_iadd hx hb dX3_rank_53 ?_
          refine lv_istore_n (lv' := [(2, .int (x2 + 1)), (3, .int x3), (0, .ref bm), (1, .int wo)]) hx hb dX3_rank_54 rfl hl (by decide) rfl (fun ls hl => ?_)
          refine lv_iinc (v := x3 + 1) (lv' := [(3, .int (x3 + 1)), (2, .int (x2 + 1)), (0, .ref bm), (1, .int wo)]) hx hb dX3_rank_55 hl (k := 1) rfl rfl (by decide) rfl (fun ls hl => ?_)
          refine lv_goto (tgt := 4) hx hb dX3_rank_58 (by decide) ?_
          exact ih_k (k + 1) (x2 + 1) (x3 + 1) (by omega) (by omega) (by rw [ex2, z_rk]; exact hs) (q_s1 ex3)   ls (lv_sub hl [1, 0, 2, 3] rfl)
        · have h25 := c_25
          refine lv_aload_n hx hb dX3_rank_28 rfl (lv_at hl 2 rfl) ?_
          refine va_get (D := (dC, dI)) (ci := 3) (v := .ref bE) (C := RX3) (T := TX3) (N := 17) hx hb hts (by decide +kernel) hown hK hP 0 rfl rfl 5 (by decide) (hts (.fieldLink RX3 26 "CapacityRoundModel" "exit" "[I") (by decide +kernel)) (fun _ h9 => h9) rfl dX3_rank_29 ?_
          refine lv_iload_n hx hb dX3_rank_32 rfl (lv_at hl 1 rfl) ?_
          refine q_iald hx hb hK hP 3 0 rfl rfl k (ex3) (by omega) (by decide) dX3_rank_33 ?_
          refine lv_aload_n hx hb dX3_rank_34 rfl (lv_at hl 2 rfl) ?_
          refine va_get (D := (dC, dI)) (ci := 3) (v := .ref bE) (C := RX3) (T := TX3) (N := 17) hx hb hts (by decide +kernel) hown hK hP 0 rfl rfl 5 (by decide) (hts (.fieldLink RX3 26 "CapacityRoundModel" "exit" "[I") (by decide +kernel)) (fun _ h9 => h9) rfl dX3_rank_35 ?_
          refine lv_iload_n hx hb dX3_rank_38 rfl (lv_at hl 3 rfl) ?_
          refine q_iald hx hb hK hP 3 0 rfl rfl w (hw) (hw12) (by decide) dX3_rank_39 ?_
          refine lv_icmp_ne (tgt := 52) hx hb dX3_rank_40 (by decide) (fun c_40 => ?_) (fun c_40 => ?_)
          · have hq : z_before fE k w = false := z_bf3 c_25 c_40
            have hs : nI (z_rk fE w k) + 0 = nI (z_rk fE w k + (if z_before fE k w = true then 1 else 0)) := by rw [hq]; exact Int32.add_zero _
            refine lv_iconst (v := 0) hx hb dX3_rank_52 (by decide) ?_
            refine lv_iadd hx hb dX3_rank_53 ?_
            refine lv_istore_n (lv' := [(2, .int (x2 + 0)), (3, .int x3), (0, .ref bm), (1, .int wo)]) hx hb dX3_rank_54 rfl hl (by decide) rfl (fun ls hl => ?_)
            refine lv_iinc (v := x3 + 1) (lv' := [(3, .int (x3 + 1)), (2, .int (x2 + 0)), (0, .ref bm), (1, .int wo)]) hx hb dX3_rank_55 hl (k := 1) rfl rfl (by decide) rfl (fun ls hl => ?_)
            refine lv_goto (tgt := 4) hx hb dX3_rank_58 (by decide) ?_
            exact ih_k (k + 1) (x2 + 0) (x3 + 1) (by omega) (by omega) (by rw [ex2, z_rk]; exact hs) (q_s1 ex3)   ls (lv_sub hl [1, 0, 2, 3] rfl)
          · have h40 := c_40
            refine lv_iload_n hx hb dX3_rank_43 rfl (lv_at hl 1 rfl) ?_
            refine lv_iload_n hx hb dX3_rank_44 rfl (lv_at hl 3 rfl) ?_
            refine lv_icmp_ge (tgt := 52) hx hb dX3_rank_45 (by decide) (fun c_45 => ?_) (fun c_45 => ?_)
            · have hq : z_before fE k w = false := z_bf4 c_25 (by have h9 := (q_cge hw ex3 (by omega) (by omega)).mp c_45; omega)
              have hs : nI (z_rk fE w k) + 0 = nI (z_rk fE w k + (if z_before fE k w = true then 1 else 0)) := by rw [hq]; exact Int32.add_zero _
              refine lv_iconst (v := 0) hx hb dX3_rank_52 (by decide) ?_
              refine lv_iadd hx hb dX3_rank_53 ?_
              refine lv_istore_n (lv' := [(2, .int (x2 + 0)), (3, .int x3), (0, .ref bm), (1, .int wo)]) hx hb dX3_rank_54 rfl hl (by decide) rfl (fun ls hl => ?_)
              refine lv_iinc (v := x3 + 1) (lv' := [(3, .int (x3 + 1)), (2, .int (x2 + 0)), (0, .ref bm), (1, .int wo)]) hx hb dX3_rank_55 hl (k := 1) rfl rfl (by decide) rfl (fun ls hl => ?_)
              refine lv_goto (tgt := 4) hx hb dX3_rank_58 (by decide) ?_
              exact ih_k (k + 1) (x2 + 0) (x3 + 1) (by omega) (by omega) (by rw [ex2, z_rk]; exact hs) (q_s1 ex3)   ls (lv_sub hl [1, 0, 2, 3] rfl)
            · have hq : z_before fE k w = true := z_bf2 c_40 (by have h9 := (not_congr (q_cge hw ex3 (by omega) (by omega))).mp c_45; omega)
              have hs : nI (z_rk fE w k) + 1 = nI (z_rk fE w k + (if z_before fE k w = true then 1 else 0)) := by rw [if_pos hq]; exact nI_1 _
              refine lv_iconst (v := 1) hx hb dX3_rank_48 (by decide) ?_
              refine lv_goto (tgt := 53) hx hb dX3_rank_49 (by decide) ?_
              refine lv_iadd hx hb dX3_rank_53 ?_
              refine lv_istore_n (lv' := [(2, .int (x2 + 1)), (3, .int x3), (0, .ref bm), (1, .int wo)]) hx hb dX3_rank_54 rfl hl (by decide) rfl (fun ls hl => ?_)
              refine lv_iinc (v := x3 + 1) (lv' := [(3, .int (x3 + 1)), (2, .int (x2 + 1)), (0, .ref bm), (1, .int wo)]) hx hb dX3_rank_55 hl (k := 1) rfl rfl (by decide) rfl (fun ls hl => ?_)
              refine lv_goto (tgt := 4) hx hb dX3_rank_58 (by decide) ?_
              exact ih_k (k + 1) (x2 + 1) (x3 + 1) (by omega) (by omega) (by rw [ex2, z_rk]; exact hs) (q_s1 ex3)   ls (lv_sub hl [1, 0, 2, 3] rfl)
  exact lp_4 (n + 1) 0 0 0 (by omega) (by omega) (rfl) (rfl)   ls (lv_sub hl [1, 0, 2, 3] rfl)
