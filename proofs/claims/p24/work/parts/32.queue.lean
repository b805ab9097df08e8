set_option maxHeartbeats 4000000 in
set_option maxRecDepth 100000 in
theorem c_X0_change (l : Launch) (dC : Nat → ClassId) (dI : Nat → Nat → Nat) (cI cZ cJ : ClassId) (ad aw : Nat) (lo up tp : Int32) (fW : Nat → Int32) (l2 u2 t2 : Int32) (h0 : fW 0 = 0) : Met l yX0_change wsX0_change ({ frames := 1, cells := 0, slots := 0, locals := 21 }) (va_Pc [.ref ad, .int l2, .int u2, .int t2] (q_M (dC, dI) vwCl (q_T cI cZ cJ) [(ad, .inr (0, [.ref aw, .int lo, .int up, .int tp])), (aw, .inl (cI, 1002, .inl fW))])) (q_W none (dC, dI) vwCl [(ad, .inr (0, [.ref aw, .int l2, .int u2, .int t2])), (aw, .inl (cI, 1002, .inl (z_wa l2 u2 t2 fW 1001)))] (q_B [(ad, .inr (0, [.ref aw, .int lo, .int up, .int tp])), (aw, .inl (cI, 1002, .inl fW))])) 0 0 (q_B [(ad, .inr (0, [.ref aw, .int lo, .int up, .int tp])), (aw, .inl (cI, 1002, .inl fW))]) := by
  refine Met.ofW (cc := cX0_change) (maxL := 5) (ret := none) (by decide) rfl ?_
  intro p e s m args below meth c s₁ B hml hv
  obtain ⟨rfl, hP, hK, hD0⟩ := hv
  have hx := B.exec
  have hb := B.bytes
  have hr := B.returns
  have hts := atoms_spec (ws := wsX0_change) B.pre
  have hown : s.vm.findClass RX0 = some m.cls := findClass_of_methodNamed B.named
  have hlocks := B.notSynchronized
  have hD := q_Bself hD0
  generalize hAe : q_B [(ad, .inr (0, [.ref aw, .int lo, .int up, .int tp])), (aw, .inl (cI, 1002, .inl fW))] = A at hD ⊢
  have hS : va_S A s.heap s.heap [] := va_S.rf
  have hP : va_P (dC, dI) vwCl [(ad, .inr (0, [.ref aw, .int lo, .int up, .int tp])), (aw, .inl (cI, 1002, .inl fW))] s.heap := hP
  have hl := lv_entry ([.ref ad, .int l2, .int u2, .int t2]) (n := 5) (Nat.le_of_ble_eq_true rfl)
  rw [lg_entry_eq]
  generalize (lg_sl ([.ref ad, .int l2, .int u2, .int t2]) ++ List.replicate (5 - (lg_sl ([.ref ad, .int l2, .int u2, .int t2])).length) Slot.unset).toArray = ls at hl ⊢
  have hl : lv_has ls 5 [(0, .ref ad), (1, .int l2), (2, .int u2), (3, .int t2)] := hl
  refine lv_aload_n hx hb dX0_change_0 rfl (lv_at hl 0 rfl) ?_
  refine lv_iload_n hx hb dX0_change_1 rfl (lv_at hl 1 rfl) ?_
  refine va_put (D := (dC, dI)) (ci := 0) (v := .int l2) (ty := .int) (C := RX0) (T := TX0) (N := 4) hx hb hts (by decide +kernel) tyX0 tyX0_ok nmX0 hown hK hP hD hS 0 rfl rfl 1 (by decide) (hts (.fieldLink RX0 17 "CapacityRound$Demand" "lowerAmount" "I") (by decide +kernel)) (fun _ h9 => h9) rfl (by decide +kernel) rfl rfl (Nat.le_of_ble_eq_true rfl) dX0_change_2 (fun H locs hP hD hS => ?_)
  have hP : va_P (dC, dI) vwCl [(ad, .inr (0, [.ref aw, .int l2, .int up, .int tp])), (aw, .inl (cI, 1002, .inl fW))] H := hP
  have hD : va_D A [(ad, .inr (0, [.ref aw, .int l2, .int up, .int tp])), (aw, .inl (cI, 1002, .inl fW))] := hD
  refine lv_aload_n hx hb dX0_change_5 rfl (lv_at hl 0 rfl) ?_
  refine lv_iload_n hx hb dX0_change_6 rfl (lv_at hl 2 rfl) ?_
  refine va_put (D := (dC, dI)) (ci := 0) (v := .int u2) (ty := .int) (C := RX0) (T := TX0) (N := 4) hx hb hts (by decide +kernel) tyX0 tyX0_ok nmX0 hown hK hP hD hS 0 rfl rfl 2 (by decide) (hts (.fieldLink RX0 21 "CapacityRound$Demand" "upperAmount" "I") (by decide +kernel)) (fun _ h9 => h9) rfl (by decide +kernel) rfl rfl (Nat.le_of_ble_eq_true rfl) dX0_change_7 (fun H locs hP hD hS => ?_)
  have hP : va_P (dC, dI) vwCl [(ad, .inr (0, [.ref aw, .int l2, .int u2, .int tp])), (aw, .inl (cI, 1002, .inl fW))] H := hP
  have hD : va_D A [(ad, .inr (0, [.ref aw, .int l2, .int u2, .int tp])), (aw, .inl (cI, 1002, .inl fW))] := hD
  refine lv_aload_n hx hb dX0_change_10 rfl (lv_at hl 0 rfl) ?_
  refine lv_iload_n hx hb dX0_change_11 rfl (lv_at hl 3 rfl) ?_
  refine va_put (D := (dC, dI)) (ci := 0) (v := .int t2) (ty := .int) (C := RX0) (T := TX0) (N := 4) hx hb hts (by decide +kernel) tyX0 tyX0_ok nmX0 hown hK hP hD hS 0 rfl rfl 3 (by decide) (hts (.fieldLink RX0 24 "CapacityRound$Demand" "topPrice" "I") (by decide +kernel)) (fun _ h9 => h9) rfl (by decide +kernel) rfl rfl (Nat.le_of_ble_eq_true rfl) dX0_change_12 (fun H locs hP hD hS => ?_)
  have hP : va_P (dC, dI) vwCl [(ad, .inr (0, [.ref aw, .int l2, .int u2, .int t2])), (aw, .inl (cI, 1002, .inl fW))] H := hP
  have hD : va_D A [(ad, .inr (0, [.ref aw, .int l2, .int u2, .int t2])), (aw, .inl (cI, 1002, .inl fW))] := hD
  refine lv_iconst (v := 1) hx hb dX0_change_15 (by decide) ?_
  refine lv_istore (lv' := [(4, .int 1), (0, .ref ad), (1, .int l2), (2, .int u2), (3, .int t2)]) hx hb dX0_change_16 hl (by decide) rfl (fun ls hl => ?_)
  have lp_18 : ∀ (wk k : Nat) (x4 : Int32), k ≤ 1001 → 1001 < k + wk → x4 = nI (k + 1) → ∀ (H : Heap) (locs : List Loc), va_P (dC, dI) vwCl [(ad, .inr (0, [.ref aw, .int l2, .int u2, .int t2])), (aw, .inl (cI, 1002, .inl (z_wa l2 u2 t2 fW k)))] H → va_D A [(ad, .inr (0, [.ref aw, .int l2, .int u2, .int t2])), (aw, .inl (cI, 1002, .inl (z_wa l2 u2 t2 fW k)))] → va_S A s.heap H locs → ∀ (ls : Array Slot), lv_has ls 5 [(4, .int x4), (0, .ref ad), (1, .int l2), (2, .int u2), (3, .int t2)] → W p l e (headSpec wsX0_change ({ frames := 1, cells := 0, slots := 0, locals := 21 })).room s m [.ref ad, .int l2, .int u2, .int t2].toArray below meth c H locs 0 0 (MQ below (q_W none (dC, dI) vwCl [(ad, .inr (0, [.ref aw, .int l2, .int u2, .int t2])), (aw, .inl (cI, 1002, .inl (z_wa l2 u2 t2 fW 1001)))] A) [.ref ad, .int l2, .int u2, .int t2].toArray s 0 0 A) (F0 m 18 ls []) := by
    intro wk
    induction wk with
    | zero => intro k x4 hk_k hw_k; exact absurd hw_k (by omega)
    | succ wk ih_k =>
      intro k x4 hk_k hw_k ex4  H locs hP hD hS ls hl
      refine lv_iload hx hb dX0_change_18 (lv_at hl 0 rfl) ?_
      refine lv_sipush (v := 1001) hx hb dX0_change_20 (by decide) ?_
      refine lv_icmp_gt (tgt := 55) hx hb dX0_change_23 (by decide) (fun c_23 => ?_) (fun c_23 => ?_)
      · have hkn : k = 1001 := by have h9 := (q_cgt (y := 1001) (n := 1001) rfl ex4 (by omega) (by omega)).mp c_23; omega
        have hP : va_P (dC, dI) vwCl [(ad, .inr (0, [.ref aw, .int l2, .int u2, .int t2])), (aw, .inl (cI, 1002, .inl (z_wa l2 u2 t2 fW 1001)))] H := (by rw [hkn] at hP; exact hP)
        exact W.vret hx hb hr (fun tS htS hWS => ⟨rfl, by rw [htS]; exact hP, hS.F htS⟩) hS.2.2 dX0_change_55
      · have hkn : k < 1001 := by have h9 := (not_congr (q_cgt (y := 1001) (n := 1001) rfl ex4 (by omega) (by omega))).mp c_23; omega
        refine lv_aload_n hx hb dX0_change_26 rfl (lv_at hl 1 rfl) ?_
        refine va_get (D := (dC, dI)) (ci := 0) (v := .ref aw) (C := RX0) (T := TX0) (N := 4) hx hb hts (by decide +kernel) hown hK hP 0 rfl rfl 0 (by decide) (hts (.fieldLink RX0 9 "CapacityRound$Demand" "worths" "[I") (by decide +kernel)) (fun _ h9 => h9) rfl dX0_change_27 ?_
        refine lv_iload hx hb dX0_change_30 (lv_at hl 0 rfl) ?_
        refine lv_aload_n hx hb dX0_change_32 rfl (lv_at hl 1 rfl) ?_
        refine va_get (D := (dC, dI)) (ci := 0) (v := .ref aw) (C := RX0) (T := TX0) (N := 4) hx hb hts (by decide +kernel) hown hK hP 0 rfl rfl 0 (by decide) (hts (.fieldLink RX0 9 "CapacityRound$Demand" "worths" "[I") (by decide +kernel)) (fun _ h9 => h9) rfl dX0_change_33 ?_
        refine lv_iload hx hb dX0_change_36 (lv_at hl 0 rfl) ?_
        refine lv_iconst (v := 1) hx hb dX0_change_38 (by decide) ?_
        refine lv_isub hx hb dX0_change_39 ?_
        refine q_iald hx hb hK hP 1 0 rfl rfl k (by rw [ex4]; exact nI_pred k) (by omega) (by decide) dX0_change_40 ?_
        refine lv_aload_n hx hb dX0_change_41 rfl (lv_at hl 1 rfl) ?_
        refine lv_iload hx hb dX0_change_42 (lv_at hl 0 rfl) ?_
        refine q_rV (wc := [(ad, .inr (0, [.ref aw, .int l2, .int u2, .int t2])), (aw, .inl (cI, 1002, .inl (z_wa l2 u2 t2 fW k)))]) (r := (z_v l2 u2 t2 x4)) (As := [.int x4]) (rest := [.int ((z_wa l2 u2 t2 fW k) k), .int x4, .ref aw]) ⟨hx, hb, hml, hown, hts⟩ (c_X0_valueOf l dC dI cI cZ cJ ad aw l2 u2 t2 (z_wa l2 u2 t2 fW k) x4) (cwV 1 hts gX0_change_X0_valueOf rfl rfl rfl (by decide +kernel) ⟨Nat.le_of_ble_eq_true rfl, Nat.le_of_ble_eq_true rfl⟩) hK (hP.sub [0, 1] rfl) 0 0 rfl rfl rfl rfl hl.1 rfl (Nat.le_of_ble_eq_true rfl) dX0_change_44 ⟨Nat.zero_le _, Nat.zero_le _⟩ ?_
        refine lv_iadd hx hb dX0_change_47 ?_
        refine q_iast hx hb hK hP hD hS 1 0 rfl rfl (k + 1) (ex4) (by omega) (by decide) dX0_change_48 (fun H locs hP hD hS => ?_)
        have hP : va_P (dC, dI) vwCl [(ad, .inr (0, [.ref aw, .int l2, .int u2, .int t2])), (aw, .inl (cI, 1002, .inl (upd (z_wa l2 u2 t2 fW k) (k + 1) (((z_wa l2 u2 t2 fW k) k) + (z_v l2 u2 t2 x4)))))] H := hP
        have hD : va_D A [(ad, .inr (0, [.ref aw, .int l2, .int u2, .int t2])), (aw, .inl (cI, 1002, .inl (upd (z_wa l2 u2 t2 fW k) (k + 1) (((z_wa l2 u2 t2 fW k) k) + (z_v l2 u2 t2 x4)))))] := hD
        refine lv_iinc (v := x4 + 1) (lv' := [(4, .int (x4 + 1)), (0, .ref ad), (1, .int l2), (2, .int u2), (3, .int t2)]) hx hb dX0_change_49 hl (k := 0) rfl rfl (by decide) rfl (fun ls hl => ?_)
        refine lv_goto (tgt := 18) hx hb dX0_change_52 (by decide) ?_
        exact ih_k (k + 1) (x4 + 1) (by omega) (by omega) (q_s1 ex4)  _ _ (by rw [← z_was h0, ← ex4]; exact hP) (by rw [← z_was h0, ← ex4]; exact hD) hS ls (lv_sub hl [0, 1, 2, 3, 4] rfl)
  exact lp_18 (1001 + 1) 0 1 (by omega) (by omega) (rfl)  _ _ (by rw [z_wa0]; exact hP) (by rw [z_wa0]; exact hD) hS ls (lv_sub hl [0, 1, 2, 3, 4] rfl)
set_option maxHeartbeats 4000000 in
set_option maxRecDepth 100000 in
theorem c_X1_isFull (l : Launch) (dC : Nat → ClassId) (dI : Nat → Nat → Nat) (cI cZ cJ : ClassId) (aq aP aA aT aO aE aI n : Nat) (fP fA fT fO fE fI : Nat → Int32) (hn : n ≤ 12) : Met l yX1_isFull wsX1_isFull ({ frames := 0, cells := 0, slots := 0, locals := 0 }) (va_Pc [.ref aq] (q_R (dC, dI) vwCl (q_T cI cZ cJ) [(aq, .inr (1, [.ref aP, .ref aA, .ref aT, .ref aO, .int (nI n), .ref aE, .ref aI])), (aP, .inl (cI, 12, .inl fP)), (aA, .inl (cI, 12, .inl fA)), (aT, .inl (cI, 12, .inl fT)), (aO, .inl (cI, 12, .inl fO)), (aE, .inl (cI, 12, .inl fE)), (aI, .inl (cZ, 12, .inl fI))])) (QcRead (z_b (decide (12 ≤ n)))) 0 0 (fun _ => False) := by
  refine Met.ofW (cc := cX1_isFull) (maxL := 1) (ret := (some .boolean)) (by decide) rfl ?_
  intro p e s m args below meth c s₁ B hml hv
  obtain ⟨rfl, hP, hK⟩ := hv
  have hx := B.exec
  have hb := B.bytes
  have hr := B.returns
  have hts := atoms_spec (ws := wsX1_isFull) B.pre
  have hown : s.vm.findClass RX1 = some m.cls := findClass_of_methodNamed B.named
  have hlocks := B.notSynchronized
  have hP : va_P (dC, dI) vwCl [(aq, .inr (1, [.ref aP, .ref aA, .ref aT, .ref aO, .int (nI n), .ref aE, .ref aI])), (aP, .inl (cI, 12, .inl fP)), (aA, .inl (cI, 12, .inl fA)), (aT, .inl (cI, 12, .inl fT)), (aO, .inl (cI, 12, .inl fO)), (aE, .inl (cI, 12, .inl fE)), (aI, .inl (cZ, 12, .inl fI))] s.heap := hP
  have hl := lv_entry ([.ref aq]) (n := 1) (Nat.le_of_ble_eq_true rfl)
  rw [lg_entry_eq]
  generalize (lg_sl ([.ref aq]) ++ List.replicate (1 - (lg_sl ([.ref aq])).length) Slot.unset).toArray = ls at hl ⊢
  have hl : lv_has ls 1 [(0, .ref aq)] := hl
  refine lv_aload_n hx hb dX1_isFull_0 rfl (lv_at hl 0 rfl) ?_
  refine va_get (D := (dC, dI)) (ci := 1) (v := .int (nI n)) (C := RX1) (T := TX1) (N := 7) hx hb hts (by decide +kernel) hown hK hP 0 rfl rfl 4 (by decide) (hts (.fieldLink RX1 31 "CapacityRound$Queue" "count" "I") (by decide +kernel)) (fun _ h9 => h9) rfl dX1_isFull_1 ?_
  refine lv_bipush (v := 12) hx hb dX1_isFull_4 (by decide) ?_
  refine lv_icmp_lt (tgt := 13) hx hb dX1_isFull_6 (by decide) (fun c_6 => ?_) (fun c_6 => ?_)
  · have hz : decide (12 ≤ n) = false := decide_eq_false (by have h9 := (q_cgt (y := nI n) (x := 12) (k := 12) rfl rfl (by omega) (by omega)).mp c_6; omega)
    refine lv_iconst (v := 0) hx hb dX1_isFull_13 (by decide) ?_
    exact W.zret (v := 0) (ty := .boolean) hx hb hr (rfl) (fun tS htS hWS => ⟨congrArg (fun z => Outcome.returned (some (Value.int z))) (by rw [hz]; rfl : (0 : Int32) = z_b (decide (12 ≤ n))), htS⟩) (fun _ h => nomatch h) dX1_isFull_14
  · have hz : decide (12 ≤ n) = true := decide_eq_true (by have h9 := (not_congr (q_cgt (y := nI n) (x := 12) (k := 12) rfl rfl (by omega) (by omega))).mp c_6; omega)
    refine lv_iconst (v := 1) hx hb dX1_isFull_9 (by decide) ?_
    refine lv_goto (tgt := 14) hx hb dX1_isFull_10 (by decide) ?_
    exact W.zret (v := 1) (ty := .boolean) hx hb hr (rfl) (fun tS htS hWS => ⟨congrArg (fun z => Outcome.returned (some (Value.int z))) (by rw [hz]; rfl : (1 : Int32) = z_b (decide (12 ≤ n))), htS⟩) (fun _ h => nomatch h) dX1_isFull_14
set_option maxHeartbeats 4000000 in
set_option maxRecDepth 100000 in
theorem c_X1_has (l : Launch) (dC : Nat → ClassId) (dI : Nat → Nat → Nat) (cI cZ cJ : ClassId) (aq aP aA aT aO aE aI n : Nat) (fP fA fT fO fE fI : Nat → Int32) (w : Int32)  : Met l yX1_has wsX1_has ({ frames := 0, cells := 0, slots := 0, locals := 0 }) (va_Pc [.ref aq, .int w] (q_R (dC, dI) vwCl (q_T cI cZ cJ) [(aq, .inr (1, [.ref aP, .ref aA, .ref aT, .ref aO, .int (nI n), .ref aE, .ref aI])), (aP, .inl (cI, 12, .inl fP)), (aA, .inl (cI, 12, .inl fA)), (aT, .inl (cI, 12, .inl fT)), (aO, .inl (cI, 12, .inl fO)), (aE, .inl (cI, 12, .inl fE)), (aI, .inl (cZ, 12, .inl fI))])) (QcRead (z_b (decide (0 ≤ w) && decide (w < nI n)))) 0 0 (fun _ => False) := by
  refine Met.ofW (cc := cX1_has) (maxL := 2) (ret := (some .boolean)) (by decide) rfl ?_
  intro p e s m args below meth c s₁ B hml hv
  obtain ⟨rfl, hP, hK⟩ := hv
  have hx := B.exec
  have hb := B.bytes
  have hr := B.returns
  have hts := atoms_spec (ws := wsX1_has) B.pre
  have hown : s.vm.findClass RX1 = some m.cls := findClass_of_methodNamed B.named
  have hlocks := B.notSynchronized
  have hP : va_P (dC, dI) vwCl [(aq, .inr (1, [.ref aP, .ref aA, .ref aT, .ref aO, .int (nI n), .ref aE, .ref aI])), (aP, .inl (cI, 12, .inl fP)), (aA, .inl (cI, 12, .inl fA)), (aT, .inl (cI, 12, .inl fT)), (aO, .inl (cI, 12, .inl fO)), (aE, .inl (cI, 12, .inl fE)), (aI, .inl (cZ, 12, .inl fI))] s.heap := hP
  have hl := lv_entry ([.ref aq, .int w]) (n := 2) (Nat.le_of_ble_eq_true rfl)
  rw [lg_entry_eq]
  generalize (lg_sl ([.ref aq, .int w]) ++ List.replicate (2 - (lg_sl ([.ref aq, .int w])).length) Slot.unset).toArray = ls at hl ⊢
  have hl : lv_has ls 2 [(0, .ref aq), (1, .int w)] := hl
  refine lv_iload_n hx hb dX1_has_0 rfl (lv_at hl 1 rfl) ?_
  refine lv_if_lt (tgt := 16) hx hb dX1_has_1 (by decide) (fun c_1 => ?_) (fun c_1 => ?_)
  · have hz : (decide (0 ≤ w) && decide (w < nI n)) = false := by rw [decide_eq_false (z_nle.mpr c_1), Bool.false_and]
    refine lv_iconst (v := 0) hx hb dX1_has_16 (by decide) ?_
    exact W.zret (v := 0) (ty := .boolean) hx hb hr (rfl) (fun tS htS hWS => ⟨congrArg (fun z => Outcome.returned (some (Value.int z))) (by rw [hz]; rfl : (0 : Int32) = z_b (decide (0 ≤ w) && decide (w < nI n))), htS⟩) (fun _ h => nomatch h) dX1_has_17
  · have h1 : 0 ≤ w := z_nlt.mp c_1
    refine lv_iload_n hx hb dX1_has_4 rfl (lv_at hl 1 rfl) ?_
    refine lv_aload_n hx hb dX1_has_5 rfl (lv_at hl 0 rfl) ?_
    refine va_get (D := (dC, dI)) (ci := 1) (v := .int (nI n)) (C := RX1) (T := TX1) (N := 7) hx hb hts (by decide +kernel) hown hK hP 0 rfl rfl 4 (by decide) (hts (.fieldLink RX1 31 "CapacityRound$Queue" "count" "I") (by decide +kernel)) (fun _ h9 => h9) rfl dX1_has_6 ?_
    refine lv_icmp_ge (tgt := 16) hx hb dX1_has_9 (by decide) (fun c_9 => ?_) (fun c_9 => ?_)
    · have hz : (decide (0 ≤ w) && decide (w < nI n)) = false := by rw [decide_eq_false (z_nlt.mpr c_9), Bool.and_false]
      refine lv_iconst (v := 0) hx hb dX1_has_16 (by decide) ?_
      exact W.zret (v := 0) (ty := .boolean) hx hb hr (rfl) (fun tS htS hWS => ⟨congrArg (fun z => Outcome.returned (some (Value.int z))) (by rw [hz]; rfl : (0 : Int32) = z_b (decide (0 ≤ w) && decide (w < nI n))), htS⟩) (fun _ h => nomatch h) dX1_has_17
    · have hz : (decide (0 ≤ w) && decide (w < nI n)) = true := by rw [decide_eq_true h1, decide_eq_true (z_nle.mp c_9)]; rfl
      refine lv_iconst (v := 1) hx hb dX1_has_12 (by decide) ?_
      refine lv_goto (tgt := 17) hx hb dX1_has_13 (by decide) ?_
      exact W.zret (v := 1) (ty := .boolean) hx hb hr (rfl) (fun tS htS hWS => ⟨congrArg (fun z => Outcome.returned (some (Value.int z))) (by rw [hz]; rfl : (1 : Int32) = z_b (decide (0 ≤ w) && decide (w < nI n))), htS⟩) (fun _ h => nomatch h) dX1_has_17
set_option maxHeartbeats 4000000 in
set_option maxRecDepth 100000 in
theorem c_X1_clear (l : Launch) (dC : Nat → ClassId) (dI : Nat → Nat → Nat) (cI cZ cJ : ClassId) (aq aP aA aT aO aE aI n : Nat) (fP fA fT fO fE fI : Nat → Int32)  : Met l yX1_clear wsX1_clear ({ frames := 0, cells := 0, slots := 0, locals := 0 }) (va_Pc [.ref aq] (q_M (dC, dI) vwCl (q_T cI cZ cJ) [(aq, .inr (1, [.ref aP, .ref aA, .ref aT, .ref aO, .int (nI n), .ref aE, .ref aI])), (aP, .inl (cI, 12, .inl fP)), (aA, .inl (cI, 12, .inl fA)), (aT, .inl (cI, 12, .inl fT)), (aO, .inl (cI, 12, .inl fO)), (aE, .inl (cI, 12, .inl fE)), (aI, .inl (cZ, 12, .inl fI))])) (q_W none (dC, dI) vwCl [(aq, .inr (1, [.ref aP, .ref aA, .ref aT, .ref aO, .int 0, .ref aE, .ref aI])), (aP, .inl (cI, 12, .inl fP)), (aA, .inl (cI, 12, .inl fA)), (aT, .inl (cI, 12, .inl fT)), (aO, .inl (cI, 12, .inl fO)), (aE, .inl (cI, 12, .inl fE)), (aI, .inl (cZ, 12, .inl fI))] (q_B [(aq, .inr (1, [.ref aP, .ref aA, .ref aT, .ref aO, .int (nI n), .ref aE, .ref aI])), (aP, .inl (cI, 12, .inl fP)), (aA, .inl (cI, 12, .inl fA)), (aT, .inl (cI, 12, .inl fT)), (aO, .inl (cI, 12, .inl fO)), (aE, .inl (cI, 12, .inl fE)), (aI, .inl (cZ, 12, .inl fI))])) 0 0 (q_B [(aq, .inr (1, [.ref aP, .ref aA, .ref aT, .ref aO, .int (nI n), .ref aE, .ref aI])), (aP, .inl (cI, 12, .inl fP)), (aA, .inl (cI, 12, .inl fA)), (aT, .inl (cI, 12, .inl fT)), (aO, .inl (cI, 12, .inl fO)), (aE, .inl (cI, 12, .inl fE)), (aI, .inl (cZ, 12, .inl fI))]) := by
  refine Met.ofW (cc := cX1_clear) (maxL := 1) (ret := none) (by decide) rfl ?_
  intro p e s m args below meth c s₁ B hml hv
  obtain ⟨rfl, hP, hK, hD0⟩ := hv
  have hx := B.exec
  have hb := B.bytes
  have hr := B.returns
  have hts := atoms_spec (ws := wsX1_clear) B.pre
  have hown : s.vm.findClass RX1 = some m.cls := findClass_of_methodNamed B.named
  have hlocks := B.notSynchronized
  have hD := q_Bself hD0
  generalize hAe : q_B [(aq, .inr (1, [.ref aP, .ref aA, .ref aT, .ref aO, .int (nI n), .ref aE, .ref aI])), (aP, .inl (cI, 12, .inl fP)), (aA, .inl (cI, 12, .inl fA)), (aT, .inl (cI, 12, .inl fT)), (aO, .inl (cI, 12, .inl fO)), (aE, .inl (cI, 12, .inl fE)), (aI, .inl (cZ, 12, .inl fI))] = A at hD ⊢
  have hS : va_S A s.heap s.heap [] := va_S.rf
  have hP : va_P (dC, dI) vwCl [(aq, .inr (1, [.ref aP, .ref aA, .ref aT, .ref aO, .int (nI n), .ref aE, .ref aI])), (aP, .inl (cI, 12, .inl fP)), (aA, .inl (cI, 12, .inl fA)), (aT, .inl (cI, 12, .inl fT)), (aO, .inl (cI, 12, .inl fO)), (aE, .inl (cI, 12, .inl fE)), (aI, .inl (cZ, 12, .inl fI))] s.heap := hP
  have hl := lv_entry ([.ref aq]) (n := 1) (Nat.le_of_ble_eq_true rfl)
  rw [lg_entry_eq]
  generalize (lg_sl ([.ref aq]) ++ List.replicate (1 - (lg_sl ([.ref aq])).length) Slot.unset).toArray = ls at hl ⊢
  have hl : lv_has ls 1 [(0, .ref aq)] := hl
  refine lv_aload_n hx hb dX1_clear_0 rfl (lv_at hl 0 rfl) ?_
  refine lv_iconst (v := 0) hx hb dX1_clear_1 (by decide) ?_
  refine va_put (D := (dC, dI)) (ci := 1) (v := .int 0) (ty := .int) (C := RX1) (T := TX1) (N := 7) hx hb hts (by decide +kernel) tyX1 tyX1_ok nmX1 hown hK hP hD hS 0 rfl rfl 4 (by decide) (hts (.fieldLink RX1 31 "CapacityRound$Queue" "count" "I") (by decide +kernel)) (fun _ h9 => h9) rfl (by decide +kernel) rfl rfl (Nat.le_of_ble_eq_true rfl) dX1_clear_2 (fun H locs hP hD hS => ?_)
  have hP : va_P (dC, dI) vwCl [(aq, .inr (1, [.ref aP, .ref aA, .ref aT, .ref aO, .int 0, .ref aE, .ref aI])), (aP, .inl (cI, 12, .inl fP)), (aA, .inl (cI, 12, .inl fA)), (aT, .inl (cI, 12, .inl fT)), (aO, .inl (cI, 12, .inl fO)), (aE, .inl (cI, 12, .inl fE)), (aI, .inl (cZ, 12, .inl fI))] H := hP
  have hD : va_D A [(aq, .inr (1, [.ref aP, .ref aA, .ref aT, .ref aO, .int 0, .ref aE, .ref aI])), (aP, .inl (cI, 12, .inl fP)), (aA, .inl (cI, 12, .inl fA)), (aT, .inl (cI, 12, .inl fT)), (aO, .inl (cI, 12, .inl fO)), (aE, .inl (cI, 12, .inl fE)), (aI, .inl (cZ, 12, .inl fI))] := hD
  exact W.vret hx hb hr (fun tS htS hWS => ⟨rfl, by rw [htS]; exact hP, hS.F htS⟩) hS.2.2 dX1_clear_5
set_option maxHeartbeats 4000000 in
set_option maxRecDepth 100000 in
theorem c_X1_add (l : Launch) (dC : Nat → ClassId) (dI : Nat → Nat → Nat) (cI cZ cJ : ClassId) (aq aP aA aT aO aE aI n : Nat) (fP fA fT fO fE fI : Nat → Int32) (pa am ex te : Int32) (o : Nat → Nat) (hn : n < 12) (hO : ∀ k, k < n → fO k = nI (o k) ∧ o k < 12) : Met l yX1_add wsX1_add ({ frames := 0, cells := 0, slots := 0, locals := 0 }) (va_Pc [.ref aq, .int pa, .int am, .int ex, .int te] (q_M (dC, dI) vwCl (q_T cI cZ cJ) [(aq, .inr (1, [.ref aP, .ref aA, .ref aT, .ref aO, .int (nI n), .ref aE, .ref aI])), (aP, .inl (cI, 12, .inl fP)), (aA, .inl (cI, 12, .inl fA)), (aT, .inl (cI, 12, .inl fT)), (aO, .inl (cI, 12, .inl fO)), (aE, .inl (cI, 12, .inl fE)), (aI, .inl (cZ, 12, .inl fI))])) (q_W (some (.int (nI n))) (dC, dI) vwCl [(aq, .inr (1, [.ref aP, .ref aA, .ref aT, .ref aO, .int (nI n + 1), .ref aE, .ref aI])), (aP, .inl (cI, 12, .inl (upd fP n pa))), (aA, .inl (cI, 12, .inl (upd fA n am))), (aT, .inl (cI, 12, .inl (upd fT n te))), (aO, .inl (cI, 12, .inl (z_ord fO n (z_pl fE ex o n)))), (aE, .inl (cI, 12, .inl (upd fE n ex))), (aI, .inl (cZ, 12, .inl fI))] (q_B [(aq, .inr (1, [.ref aP, .ref aA, .ref aT, .ref aO, .int (nI n), .ref aE, .ref aI])), (aP, .inl (cI, 12, .inl fP)), (aA, .inl (cI, 12, .inl fA)), (aT, .inl (cI, 12, .inl fT)), (aO, .inl (cI, 12, .inl fO)), (aE, .inl (cI, 12, .inl fE)), (aI, .inl (cZ, 12, .inl fI))])) 0 0 (q_B [(aq, .inr (1, [.ref aP, .ref aA, .ref aT, .ref aO, .int (nI n), .ref aE, .ref aI])), (aP, .inl (cI, 12, .inl fP)), (aA, .inl (cI, 12, .inl fA)), (aT, .inl (cI, 12, .inl fT)), (aO, .inl (cI, 12, .inl fO)), (aE, .inl (cI, 12, .inl fE)), (aI, .inl (cZ, 12, .inl fI))]) := by
  refine Met.ofW (cc := cX1_add) (maxL := 7) (ret := (some .int)) (by decide) rfl ?_
  intro p e s m args below meth c s₁ B hml hv
  obtain ⟨rfl, hP, hK, hD0⟩ := hv
  have hx := B.exec
  have hb := B.bytes
  have hr := B.returns
  have hts := atoms_spec (ws := wsX1_add) B.pre
  have hown : s.vm.findClass RX1 = some m.cls := findClass_of_methodNamed B.named
  have hlocks := B.notSynchronized
  have hD := q_Bself hD0
  generalize hAe : q_B [(aq, .inr (1, [.ref aP, .ref aA, .ref aT, .ref aO, .int (nI n), .ref aE, .ref aI])), (aP, .inl (cI, 12, .inl fP)), (aA, .inl (cI, 12, .inl fA)), (aT, .inl (cI, 12, .inl fT)), (aO, .inl (cI, 12, .inl fO)), (aE, .inl (cI, 12, .inl fE)), (aI, .inl (cZ, 12, .inl fI))] = A at hD ⊢
  have hS : va_S A s.heap s.heap [] := va_S.rf
  have hP : va_P (dC, dI) vwCl [(aq, .inr (1, [.ref aP, .ref aA, .ref aT, .ref aO, .int (nI n), .ref aE, .ref aI])), (aP, .inl (cI, 12, .inl fP)), (aA, .inl (cI, 12, .inl fA)), (aT, .inl (cI, 12, .inl fT)), (aO, .inl (cI, 12, .inl fO)), (aE, .inl (cI, 12, .inl fE)), (aI, .inl (cZ, 12, .inl fI))] s.heap := hP
  have hl := lv_entry ([.ref aq, .int pa, .int am, .int ex, .int te]) (n := 7) (Nat.le_of_ble_eq_true rfl)
  rw [lg_entry_eq]
  generalize (lg_sl ([.ref aq, .int pa, .int am, .int ex, .int te]) ++ List.replicate (7 - (lg_sl ([.ref aq, .int pa, .int am, .int ex, .int te])).length) Slot.unset).toArray = ls at hl ⊢
  have hl : lv_has ls 7 [(0, .ref aq), (1, .int pa), (2, .int am), (3, .int ex), (4, .int te)] := hl
  refine lv_aload_n hx hb dX1_add_0 rfl (lv_at hl 0 rfl) ?_
  refine va_get (D := (dC, dI)) (ci := 1) (v := .int (nI n)) (C := RX1) (T := TX1) (N := 7) hx hb hts (by decide +kernel) hown hK hP 0 rfl rfl 4 (by decide) (hts (.fieldLink RX1 31 "CapacityRound$Queue" "count" "I") (by decide +kernel)) (fun _ h9 => h9) rfl dX1_add_1 ?_
  refine lv_istore (lv' := [(5, .int (nI n)), (0, .ref aq), (1, .int pa), (2, .int am), (3, .int ex), (4, .int te)]) hx hb dX1_add_4 hl (by decide) rfl (fun ls hl => ?_)
  refine lv_iload hx hb dX1_add_6 (lv_at hl 0 rfl) ?_
  refine lv_istore (lv' := [(6, .int (nI n)), (5, .int (nI n)), (0, .ref aq), (1, .int pa), (2, .int am), (3, .int ex), (4, .int te)]) hx hb dX1_add_8 hl (by decide) rfl (fun ls hl => ?_)
  have lp_10 : ∀ (wk k : Nat) (x6 : Int32), k ≤ n → n < k + wk → x6 = nI (n - k) → (z_pl fE ex o n = z_pl fE ex o (n - k)) → ∀ (H : Heap) (locs : List Loc), va_P (dC, dI) vwCl [(aq, .inr (1, [.ref aP, .ref aA, .ref aT, .ref aO, .int (nI n), .ref aE, .ref aI])), (aP, .inl (cI, 12, .inl fP)), (aA, .inl (cI, 12, .inl fA)), (aT, .inl (cI, 12, .inl fT)), (aO, .inl (cI, 12, .inl (z_sh fO n k))), (aE, .inl (cI, 12, .inl fE)), (aI, .inl (cZ, 12, .inl fI))] H → va_D A [(aq, .inr (1, [.ref aP, .ref aA, .ref aT, .ref aO, .int (nI n), .ref aE, .ref aI])), (aP, .inl (cI, 12, .inl fP)), (aA, .inl (cI, 12, .inl fA)), (aT, .inl (cI, 12, .inl fT)), (aO, .inl (cI, 12, .inl (z_sh fO n k))), (aE, .inl (cI, 12, .inl fE)), (aI, .inl (cZ, 12, .inl fI))] → va_S A s.heap H locs → ∀ (ls : Array Slot), lv_has ls 7 [(6, .int x6), (5, .int (nI n)), (0, .ref aq), (1, .int pa), (2, .int am), (3, .int ex), (4, .int te)] → W p l e (headSpec wsX1_add ({ frames := 0, cells := 0, slots := 0, locals := 0 })).room s m [.ref aq, .int pa, .int am, .int ex, .int te].toArray below meth c H locs 0 0 (MQ below (q_W (some (.int (nI n))) (dC, dI) vwCl [(aq, .inr (1, [.ref aP, .ref aA, .ref aT, .ref aO, .int (nI n + 1), .ref aE, .ref aI])), (aP, .inl (cI, 12, .inl (upd fP n pa))), (aA, .inl (cI, 12, .inl (upd fA n am))), (aT, .inl (cI, 12, .inl (upd fT n te))), (aO, .inl (cI, 12, .inl (z_ord fO n (z_pl fE ex o n)))), (aE, .inl (cI, 12, .inl (upd fE n ex))), (aI, .inl (cZ, 12, .inl fI))] A) [.ref aq, .int pa, .int am, .int ex, .int te].toArray s 0 0 A) (F0 m 10 ls []) := by
    intro wk
    induction wk with
    | zero => intro k x6 hk_k hw_k; exact absurd hw_k (by omega)
    | succ wk ih_k =>
      intro k x6 hk_k hw_k ex6 hpl H locs hP hD hS ls hl
      refine lv_iload hx hb dX1_add_10 (lv_at hl 0 rfl) ?_
      refine lv_if_le (tgt := 55) hx hb dX1_add_12 (by decide) (fun c_12 => ?_) (fun c_12 => ?_)
      · have h0 : n - k = 0 := by have h9 := (q_cge (y := x6) (x := 0) (k := 0) ex6 rfl (by omega) (by omega)).mp c_12; omega
        have hf : n - k = z_pl fE ex o n := by rw [hpl, h0]; rfl
        refine lv_aload_n hx hb dX1_add_55 rfl (lv_at hl 2 rfl) ?_
        refine va_get (D := (dC, dI)) (ci := 1) (v := .ref aO) (C := RX1) (T := TX1) (N := 7) hx hb hts (by decide +kernel) hown hK hP 0 rfl rfl 3 (by decide) (hts (.fieldLink RX1 21 "CapacityRound$Queue" "order" "[I") (by decide +kernel)) (fun _ h9 => h9) rfl dX1_add_56 ?_
        refine lv_iload hx hb dX1_add_59 (lv_at hl 0 rfl) ?_
        refine lv_iload hx hb dX1_add_61 (lv_at hl 1 rfl) ?_
        refine q_iast hx hb hK hP hD hS 4 0 rfl rfl (n - k) (ex6) (by omega) (by decide) dX1_add_63 (fun H locs hP hD hS => ?_)
        rw [show upd (z_sh fO n k) (n - k) (nI n) = z_ord fO n (z_pl fE ex o n) from by unfold z_ord; rw [← hf, show n - (n - k) = k by omega]] at hP hD
        have hP : va_P (dC, dI) vwCl [(aq, .inr (1, [.ref aP, .ref aA, .ref aT, .ref aO, .int (nI n), .ref aE, .ref aI])), (aP, .inl (cI, 12, .inl fP)), (aA, .inl (cI, 12, .inl fA)), (aT, .inl (cI, 12, .inl fT)), (aO, .inl (cI, 12, .inl (z_ord fO n (z_pl fE ex o n)))), (aE, .inl (cI, 12, .inl fE)), (aI, .inl (cZ, 12, .inl fI))] H := hP
        have hD : va_D A [(aq, .inr (1, [.ref aP, .ref aA, .ref aT, .ref aO, .int (nI n), .ref aE, .ref aI])), (aP, .inl (cI, 12, .inl fP)), (aA, .inl (cI, 12, .inl fA)), (aT, .inl (cI, 12, .inl fT)), (aO, .inl (cI, 12, .inl (z_ord fO n (z_pl fE ex o n)))), (aE, .inl (cI, 12, .inl fE)), (aI, .inl (cZ, 12, .inl fI))] := hD
        refine lv_aload_n hx hb dX1_add_64 rfl (lv_at hl 2 rfl) ?_
        refine va_get (D := (dC, dI)) (ci := 1) (v := .ref aP) (C := RX1) (T := TX1) (N := 7) hx hb hts (by decide +kernel) hown hK hP 0 rfl rfl 0 (by decide) (hts (.fieldLink RX1 11 "CapacityRound$Queue" "parties" "[I") (by decide +kernel)) (fun _ h9 => h9) rfl dX1_add_65 ?_
        refine lv_iload hx hb dX1_add_68 (lv_at hl 1 rfl) ?_
        refine lv_iload_n hx hb dX1_add_70 rfl (lv_at hl 3 rfl) ?_
        refine q_iast hx hb hK hP hD hS 1 0 rfl rfl n (rfl) (hn) (by decide) dX1_add_71 (fun H locs hP hD hS => ?_)
        have hP : va_P (dC, dI) vwCl [(aq, .inr (1, [.ref aP, .ref aA, .ref aT, .ref aO, .int (nI n), .ref aE, .ref aI])), (aP, .inl (cI, 12, .inl (upd fP n pa))), (aA, .inl (cI, 12, .inl fA)), (aT, .inl (cI, 12, .inl fT)), (aO, .inl (cI, 12, .inl (z_ord fO n (z_pl fE ex o n)))), (aE, .inl (cI, 12, .inl fE)), (aI, .inl (cZ, 12, .inl fI))] H := hP
        have hD : va_D A [(aq, .inr (1, [.ref aP, .ref aA, .ref aT, .ref aO, .int (nI n), .ref aE, .ref aI])), (aP, .inl (cI, 12, .inl (upd fP n pa))), (aA, .inl (cI, 12, .inl fA)), (aT, .inl (cI, 12, .inl fT)), (aO, .inl (cI, 12, .inl (z_ord fO n (z_pl fE ex o n)))), (aE, .inl (cI, 12, .inl fE)), (aI, .inl (cZ, 12, .inl fI))] := hD
        refine lv_aload_n hx hb dX1_add_72 rfl (lv_at hl 2 rfl) ?_
        refine va_get (D := (dC, dI)) (ci := 1) (v := .ref aA) (C := RX1) (T := TX1) (N := 7) hx hb hts (by decide +kernel) hown hK hP 0 rfl rfl 1 (by decide) (hts (.fieldLink RX1 15 "CapacityRound$Queue" "amounts" "[I") (by decide +kernel)) (fun _ h9 => h9) rfl dX1_add_73 ?_
        refine lv_iload hx hb dX1_add_76 (lv_at hl 1 rfl) ?_
        refine lv_iload_n hx hb dX1_add_78 rfl (lv_at hl 4 rfl) ?_
        refine q_iast hx hb hK hP hD hS 2 0 rfl rfl n (rfl) (hn) (by decide) dX1_add_79 (fun H locs hP hD hS => ?_)
        have hP : va_P (dC, dI) vwCl [(aq, .inr (1, [.ref aP, .ref aA, .ref aT, .ref aO, .int (nI n), .ref aE, .ref aI])), (aP, .inl (cI, 12, .inl (upd fP n pa))), (aA, .inl (cI, 12, .inl (upd fA n am))), (aT, .inl (cI, 12, .inl fT)), (aO, .inl (cI, 12, .inl (z_ord fO n (z_pl fE ex o n)))), (aE, .inl (cI, 12, .inl fE)), (aI, .inl (cZ, 12, .inl fI))] H := hP
        have hD : va_D A [(aq, .inr (1, [.ref aP, .ref aA, .ref aT, .ref aO, .int (nI n), .ref aE, .ref aI])), (aP, .inl (cI, 12, .inl (upd fP n pa))), (aA, .inl (cI, 12, .inl (upd fA n am))), (aT, .inl (cI, 12, .inl fT)), (aO, .inl (cI, 12, .inl (z_ord fO n (z_pl fE ex o n)))), (aE, .inl (cI, 12, .inl fE)), (aI, .inl (cZ, 12, .inl fI))] := hD
        refine lv_aload_n hx hb dX1_add_80 rfl (lv_at hl 2 rfl) ?_
        refine va_get (D := (dC, dI)) (ci := 1) (v := .ref aE) (C := RX1) (T := TX1) (N := 7) hx hb hts (by decide +kernel) hown hK hP 0 rfl rfl 5 (by decide) (hts (.fieldLink RX1 24 "CapacityRound$Queue" "exits" "[I") (by decide +kernel)) (fun _ h9 => h9) rfl dX1_add_81 ?_
        refine lv_iload hx hb dX1_add_84 (lv_at hl 1 rfl) ?_
        refine lv_iload_n hx hb dX1_add_86 rfl (lv_at hl 5 rfl) ?_
        refine q_iast hx hb hK hP hD hS 5 0 rfl rfl n (rfl) (hn) (by decide) dX1_add_87 (fun H locs hP hD hS => ?_)
        have hP : va_P (dC, dI) vwCl [(aq, .inr (1, [.ref aP, .ref aA, .ref aT, .ref aO, .int (nI n), .ref aE, .ref aI])), (aP, .inl (cI, 12, .inl (upd fP n pa))), (aA, .inl (cI, 12, .inl (upd fA n am))), (aT, .inl (cI, 12, .inl fT)), (aO, .inl (cI, 12, .inl (z_ord fO n (z_pl fE ex o n)))), (aE, .inl (cI, 12, .inl (upd fE n ex))), (aI, .inl (cZ, 12, .inl fI))] H := hP
        have hD : va_D A [(aq, .inr (1, [.ref aP, .ref aA, .ref aT, .ref aO, .int (nI n), .ref aE, .ref aI])), (aP, .inl (cI, 12, .inl (upd fP n pa))), (aA, .inl (cI, 12, .inl (upd fA n am))), (aT, .inl (cI, 12, .inl fT)), (aO, .inl (cI, 12, .inl (z_ord fO n (z_pl fE ex o n)))), (aE, .inl (cI, 12, .inl (upd fE n ex))), (aI, .inl (cZ, 12, .inl fI))] := hD
        refine lv_aload_n hx hb dX1_add_88 rfl (lv_at hl 2 rfl) ?_
        refine va_get (D := (dC, dI)) (ci := 1) (v := .ref aT) (C := RX1) (T := TX1) (N := 7) hx hb hts (by decide +kernel) hown hK hP 0 rfl rfl 2 (by decide) (hts (.fieldLink RX1 18 "CapacityRound$Queue" "terms" "[I") (by decide +kernel)) (fun _ h9 => h9) rfl dX1_add_89 ?_
        refine lv_iload hx hb dX1_add_92 (lv_at hl 1 rfl) ?_
        refine lv_iload hx hb dX1_add_94 (lv_at hl 6 rfl) ?_
        refine q_iast hx hb hK hP hD hS 3 0 rfl rfl n (rfl) (hn) (by decide) dX1_add_96 (fun H locs hP hD hS => ?_)
        have hP : va_P (dC, dI) vwCl [(aq, .inr (1, [.ref aP, .ref aA, .ref aT, .ref aO, .int (nI n), .ref aE, .ref aI])), (aP, .inl (cI, 12, .inl (upd fP n pa))), (aA, .inl (cI, 12, .inl (upd fA n am))), (aT, .inl (cI, 12, .inl (upd fT n te))), (aO, .inl (cI, 12, .inl (z_ord fO n (z_pl fE ex o n)))), (aE, .inl (cI, 12, .inl (upd fE n ex))), (aI, .inl (cZ, 12, .inl fI))] H := hP
        have hD : va_D A [(aq, .inr (1, [.ref aP, .ref aA, .ref aT, .ref aO, .int (nI n), .ref aE, .ref aI])), (aP, .inl (cI, 12, .inl (upd fP n pa))), (aA, .inl (cI, 12, .inl (upd fA n am))), (aT, .inl (cI, 12, .inl (upd fT n te))), (aO, .inl (cI, 12, .inl (z_ord fO n (z_pl fE ex o n)))), (aE, .inl (cI, 12, .inl (upd fE n ex))), (aI, .inl (cZ, 12, .inl fI))] := hD
        refine lv_aload_n hx hb dX1_add_97 rfl (lv_at hl 2 rfl) ?_
        refine lv_dup hx hb dX1_add_98 rfl ?_
        refine va_get (D := (dC, dI)) (ci := 1) (v := .int (nI n)) (C := RX1) (T := TX1) (N := 7) hx hb hts (by decide +kernel) hown hK hP 0 rfl rfl 4 (by decide) (hts (.fieldLink RX1 31 "CapacityRound$Queue" "count" "I") (by decide +kernel)) (fun _ h9 => h9) rfl dX1_add_99 ?_
        refine lv_iconst (v := 1) hx hb dX1_add_102 (by decide) ?_
        refine lv_iadd hx hb dX1_add_103 ?_
        refine va_put (D := (dC, dI)) (ci := 1) (v := .int ((nI n) + 1)) (ty := .int) (C := RX1) (T := TX1) (N := 7) hx hb hts (by decide +kernel) tyX1 tyX1_ok nmX1 hown hK hP hD hS 0 rfl rfl 4 (by decide) (hts (.fieldLink RX1 31 "CapacityRound$Queue" "count" "I") (by decide +kernel)) (fun _ h9 => h9) rfl (by decide +kernel) rfl rfl (Nat.le_of_ble_eq_true rfl) dX1_add_104 (fun H locs hP hD hS => ?_)
        have hP : va_P (dC, dI) vwCl [(aq, .inr (1, [.ref aP, .ref aA, .ref aT, .ref aO, .int ((nI n) + 1), .ref aE, .ref aI])), (aP, .inl (cI, 12, .inl (upd fP n pa))), (aA, .inl (cI, 12, .inl (upd fA n am))), (aT, .inl (cI, 12, .inl (upd fT n te))), (aO, .inl (cI, 12, .inl (z_ord fO n (z_pl fE ex o n)))), (aE, .inl (cI, 12, .inl (upd fE n ex))), (aI, .inl (cZ, 12, .inl fI))] H := hP
        have hD : va_D A [(aq, .inr (1, [.ref aP, .ref aA, .ref aT, .ref aO, .int ((nI n) + 1), .ref aE, .ref aI])), (aP, .inl (cI, 12, .inl (upd fP n pa))), (aA, .inl (cI, 12, .inl (upd fA n am))), (aT, .inl (cI, 12, .inl (upd fT n te))), (aO, .inl (cI, 12, .inl (z_ord fO n (z_pl fE ex o n)))), (aE, .inl (cI, 12, .inl (upd fE n ex))), (aI, .inl (cZ, 12, .inl fI))] := hD
        refine lv_iload hx hb dX1_add_107 (lv_at hl 1 rfl) ?_
        exact W.iret (v := nI n) hx hb hr (fun tS htS hWS => ⟨congrArg (fun z => Outcome.returned (some (Value.int z))) (rfl : (nI n : Int32) = nI n), by rw [htS]; exact hP, hS.F htS⟩) hS.2.2 dX1_add_109
      · obtain ⟨t, ht⟩ : ∃ t, n - k = t + 1 := ⟨n - k - 1, by have h9 := (not_congr (q_cge (y := x6) (x := 0) (k := 0) ex6 rfl (by omega) (by omega))).mp c_12; omega⟩
        obtain ⟨ho, ho12⟩ := hO t (by omega)
        refine lv_aload_n hx hb dX1_add_15 rfl (lv_at hl 2 rfl) ?_
        refine va_get (D := (dC, dI)) (ci := 1) (v := .ref aE) (C := RX1) (T := TX1) (N := 7) hx hb hts (by decide +kernel) hown hK hP 0 rfl rfl 5 (by decide) (hts (.fieldLink RX1 24 "CapacityRound$Queue" "exits" "[I") (by decide +kernel)) (fun _ h9 => h9) rfl dX1_add_16 ?_
        refine lv_aload_n hx hb dX1_add_19 rfl (lv_at hl 2 rfl) ?_
        refine va_get (D := (dC, dI)) (ci := 1) (v := .ref aO) (C := RX1) (T := TX1) (N := 7) hx hb hts (by decide +kernel) hown hK hP 0 rfl rfl 3 (by decide) (hts (.fieldLink RX1 21 "CapacityRound$Queue" "order" "[I") (by decide +kernel)) (fun _ h9 => h9) rfl dX1_add_20 ?_
        refine lv_iload hx hb dX1_add_23 (lv_at hl 0 rfl) ?_
        refine lv_iconst (v := 1) hx hb dX1_add_25 (by decide) ?_
        refine lv_isub hx hb dX1_add_26 ?_
        refine q_iald hx hb hK hP 4 0 rfl rfl t (by rw [ex6, ht]; exact nI_pred t) (by omega) (by decide) dX1_add_27 ?_
        refine lv_topi (fun v_1 ev_1 => ?_)
        obtain rfl : v_1 = nI (o t) := ev_1.trans ((z_shl (by omega)).trans ho)
        refine q_iald hx hb hK hP 5 0 rfl rfl (o t) (rfl) (ho12) (by decide) dX1_add_28 ?_
        refine lv_iload_n hx hb dX1_add_29 rfl (lv_at hl 5 rfl) ?_
        refine lv_icmp_le (tgt := 55) hx hb dX1_add_30 (by decide) (fun c_30 => ?_) (fun c_30 => ?_)
        · have hf : n - k = z_pl fE ex o n := by rw [hpl, ht, z_pl, if_neg (z_nlt.mpr c_30)]
          refine lv_aload_n hx hb dX1_add_55 rfl (lv_at hl 2 rfl) ?_
          refine va_get (D := (dC, dI)) (ci := 1) (v := .ref aO) (C := RX1) (T := TX1) (N := 7) hx hb hts (by decide +kernel) hown hK hP 0 rfl rfl 3 (by decide) (hts (.fieldLink RX1 21 "CapacityRound$Queue" "order" "[I") (by decide +kernel)) (fun _ h9 => h9) rfl dX1_add_56 ?_
          refine lv_iload hx hb dX1_add_59 (lv_at hl 0 rfl) ?_
          refine lv_iload hx hb dX1_add_61 (lv_at hl 1 rfl) ?_
          refine q_iast hx hb hK hP hD hS 4 0 rfl rfl (n - k) (ex6) (by omega) (by decide) dX1_add_63 (fun H locs hP hD hS => ?_)
          rw [show upd (z_sh fO n k) (n - k) (nI n) = z_ord fO n (z_pl fE ex o n) from by unfold z_ord; rw [← hf, show n - (n - k) = k by omega]] at hP hD
          have hP : va_P (dC, dI) vwCl [(aq, .inr (1, [.ref aP, .ref aA, .ref aT, .ref aO, .int (nI n), .ref aE, .ref aI])), (aP, .inl (cI, 12, .inl fP)), (aA, .inl (cI, 12, .inl fA)), (aT, .inl (cI, 12, .inl fT)), (aO, .inl (cI, 12, .inl (z_ord fO n (z_pl fE ex o n)))), (aE, .inl (cI, 12, .inl fE)), (aI, .inl (cZ, 12, .inl fI))] H := hP
          have hD : va_D A [(aq, .inr (1, [.ref aP, .ref aA, .ref aT, .ref aO, .int (nI n), .ref aE, .ref aI])), (aP, .inl (cI, 12, .inl fP)), (aA, .inl (cI, 12, .inl fA)), (aT, .inl (cI, 12, .inl fT)), (aO, .inl (cI, 12, .inl (z_ord fO n (z_pl fE ex o n)))), (aE, .inl (cI, 12, .inl fE)), (aI, .inl (cZ, 12, .inl fI))] := hD
          refine lv_aload_n hx hb dX1_add_64 rfl (lv_at hl 2 rfl) ?_
          refine va_get (D := (dC, dI)) (ci := 1) (v := .ref aP) (C := RX1) (T := TX1) (N := 7) hx hb hts (by decide +kernel) hown hK hP 0 rfl rfl 0 (by decide) (hts (.fieldLink RX1 11 "CapacityRound$Queue" "parties" "[I") (by decide +kernel)) (fun _ h9 => h9) rfl dX1_add_65 ?_
          refine lv_iload hx hb dX1_add_68 (lv_at hl 1 rfl) ?_
          refine lv_iload_n hx hb dX1_add_70 rfl (lv_at hl 3 rfl) ?_
          refine q_iast hx hb hK hP hD hS 1 0 rfl rfl n (rfl) (hn) (by decide) dX1_add_71 (fun H locs hP hD hS => ?_)
          have hP : va_P (dC, dI) vwCl [(aq, .inr (1, [.ref aP, .ref aA, .ref aT, .ref aO, .int (nI n), .ref aE, .ref aI])), (aP, .inl (cI, 12, .inl (upd fP n pa))), (aA, .inl (cI, 12, .inl fA)), (aT, .inl (cI, 12, .inl fT)), (aO, .inl (cI, 12, .inl (z_ord fO n (z_pl fE ex o n)))), (aE, .inl (cI, 12, .inl fE)), (aI, .inl (cZ, 12, .inl fI))] H := hP
          have hD : va_D A [(aq, .inr (1, [.ref aP, .ref aA, .ref aT, .ref aO, .int (nI n), .ref aE, .ref aI])), (aP, .inl (cI, 12, .inl (upd fP n pa))), (aA, .inl (cI, 12, .inl fA)), (aT, .inl (cI, 12, .inl fT)), (aO, .inl (cI, 12, .inl (z_ord fO n (z_pl fE ex o n)))), (aE, .inl (cI, 12, .inl fE)), (aI, .inl (cZ, 12, .inl fI))] := hD
          refine lv_aload_n hx hb dX1_add_72 rfl (lv_at hl 2 rfl) ?_
          refine va_get (D := (dC, dI)) (ci := 1) (v := .ref aA) (C := RX1) (T := TX1) (N := 7) hx hb hts (by decide +kernel) hown hK hP 0 rfl rfl 1 (by decide) (hts (.fieldLink RX1 15 "CapacityRound$Queue" "amounts" "[I") (by decide +kernel)) (fun _ h9 => h9) rfl dX1_add_73 ?_
          refine lv_iload hx hb dX1_add_76 (lv_at hl 1 rfl) ?_
          refine lv_iload_n hx hb dX1_add_78 rfl (lv_at hl 4 rfl) ?_
          refine q_iast hx hb hK hP hD hS 2 0 rfl rfl n (rfl) (hn) (by decide) dX1_add_79 (fun H locs hP hD hS => ?_)
          have hP : va_P (dC, dI) vwCl [(aq, .inr (1, [.ref aP, .ref aA, .ref aT, .ref aO, .int (nI n), .ref aE, .ref aI])), (aP, .inl (cI, 12, .inl (upd fP n pa))), (aA, .inl (cI, 12, .inl (upd fA n am))), (aT, .inl (cI, 12, .inl fT)), (aO, .inl (cI, 12, .inl (z_ord fO n (z_pl fE ex o n)))), (aE, .inl (cI, 12, .inl fE)), (aI, .inl (cZ, 12, .inl fI))] H := hP
          have hD : va_D A [(aq, .inr (1, [.ref aP, .ref aA, .ref aT, .ref aO, .int (nI n), .ref aE, .ref aI])), (aP, .inl (cI, 12, .inl (upd fP n pa))), (aA, .inl (cI, 12, .inl (upd fA n am))), (aT, .inl (cI, 12, .inl fT)), (aO, .inl (cI, 12, .inl (z_ord fO n (z_pl fE ex o n)))), (aE, .inl (cI, 12, .inl fE)), (aI, .inl (cZ, 12, .inl fI))] := hD
          refine lv_aload_n hx hb dX1_add_80 rfl (lv_at hl 2 rfl) ?_
          refine va_get (D := (dC, dI)) (ci := 1) (v := .ref aE) (C := RX1) (T := TX1) (N := 7) hx hb hts (by decide +kernel) hown hK hP 0 rfl rfl 5 (by decide) (hts (.fieldLink RX1 24 "CapacityRound$Queue" "exits" "[I") (by decide +kernel)) (fun _ h9 => h9) rfl dX1_add_81 ?_
          refine lv_iload hx hb dX1_add_84 (lv_at hl 1 rfl) ?_
          refine lv_iload_n hx hb dX1_add_86 rfl (lv_at hl 5 rfl) ?_
          refine q_iast hx hb hK hP hD hS 5 0 rfl rfl n (rfl) (hn) (by decide) dX1_add_87 (fun H locs hP hD hS => ?_)
          have hP : va_P (dC, dI) vwCl [(aq, .inr (1, [.ref aP, .ref aA, .ref aT, .ref aO, .int (nI n), .ref aE, .ref aI])), (aP, .inl (cI, 12, .inl (upd fP n pa))), (aA, .inl (cI, 12, .inl (upd fA n am))), (aT, .inl (cI, 12, .inl fT)), (aO, .inl (cI, 12, .inl (z_ord fO n (z_pl fE ex o n)))), (aE, .inl (cI, 12, .inl (upd fE n ex))), (aI, .inl (cZ, 12, .inl fI))] H := hP
          have hD : va_D A [(aq, .inr (1, [.ref aP, .ref aA, .ref aT, .ref aO, .int (nI n), .ref aE, .ref aI])), (aP, .inl (cI, 12, .inl (upd fP n pa))), (aA, .inl (cI, 12, .inl (upd fA n am))), (aT, .inl (cI, 12, .inl fT)), (aO, .inl (cI, 12, .inl (z_ord fO n (z_pl fE ex o n)))), (aE, .inl (cI, 12, .inl (upd fE n ex))), (aI, .inl (cZ, 12, .inl fI))] := hD
          refine lv_aload_n hx hb dX1_add_88 rfl (lv_at hl 2 rfl) ?_
          refine va_get (D := (dC, dI)) (ci := 1) (v := .ref aT) (C := RX1) (T := TX1) (N := 7) hx hb hts (by decide +kernel) hown hK hP 0 rfl rfl 2 (by decide) (hts (.fieldLink RX1 18 "CapacityRound$Queue" "terms" "[I") (by decide +kernel)) (fun _ h9 => h9) rfl dX1_add_89 ?_
          refine lv_iload hx hb dX1_add_92 (lv_at hl 1 rfl) ?_
          refine lv_iload hx hb dX1_add_94 (lv_at hl 6 rfl) ?_
          refine q_iast hx hb hK hP hD hS 3 0 rfl rfl n (rfl) (hn) (by decide) dX1_add_96 (fun H locs hP hD hS => ?_)
          have hP : va_P (dC, dI) vwCl [(aq, .inr (1, [.ref aP, .ref aA, .ref aT, .ref aO, .int (nI n), .ref aE, .ref aI])), (aP, .inl (cI, 12, .inl (upd fP n pa))), (aA, .inl (cI, 12, .inl (upd fA n am))), (aT, .inl (cI, 12, .inl (upd fT n te))), (aO, .inl (cI, 12, .inl (z_ord fO n (z_pl fE ex o n)))), (aE, .inl (cI, 12, .inl (upd fE n ex))), (aI, .inl (cZ, 12, .inl fI))] H := hP
          have hD : va_D A [(aq, .inr (1, [.ref aP, .ref aA, .ref aT, .ref aO, .int (nI n), .ref aE, .ref aI])), (aP, .inl (cI, 12, .inl (upd fP n pa))), (aA, .inl (cI, 12, .inl (upd fA n am))), (aT, .inl (cI, 12, .inl (upd fT n te))), (aO, .inl (cI, 12, .inl (z_ord fO n (z_pl fE ex o n)))), (aE, .inl (cI, 12, .inl (upd fE n ex))), (aI, .inl (cZ, 12, .inl fI))] := hD
          refine lv_aload_n hx hb dX1_add_97 rfl (lv_at hl 2 rfl) ?_
          refine lv_dup hx hb dX1_add_98 rfl ?_
          refine va_get (D := (dC, dI)) (ci := 1) (v := .int (nI n)) (C := RX1) (T := TX1) (N := 7) hx hb hts (by decide +kernel) hown hK hP 0 rfl rfl 4 (by decide) (hts (.fieldLink RX1 31 "CapacityRound$Queue" "count" "I") (by decide +kernel)) (fun _ h9 => h9) rfl dX1_add_99 ?_
          refine lv_iconst (v := 1) hx hb dX1_add_102 (by decide) ?_
          refine lv_iadd hx hb dX1_add_103 ?_
          refine va_put (D := (dC, dI)) (ci := 1) (v := .int ((nI n) + 1)) (ty := .int) (C := RX1) (T := TX1) (N := 7) hx hb hts (by decide +kernel) tyX1 tyX1_ok nmX1 hown hK hP hD hS 0 rfl rfl 4 (by decide) (hts (.fieldLink RX1 31 "CapacityRound$Queue" "count" "I") (by decide +kernel)) (fun _ h9 => h9) rfl (by decide +kernel) rfl rfl (Nat.le_of_ble_eq_true rfl) dX1_add_104 (fun H locs hP hD hS => ?_)
          have hP : va_P (dC, dI) vwCl [(aq, .inr (1, [.ref aP, .ref aA, .ref aT, .ref aO, .int ((nI n) + 1), .ref aE, .ref aI])), (aP, .inl (cI, 12, .inl (upd fP n pa))), (aA, .inl (cI, 12, .inl (upd fA n am))), (aT, .inl (cI, 12, .inl (upd fT n te))), (aO, .inl (cI, 12, .inl (z_ord fO n (z_pl fE ex o n)))), (aE, .inl (cI, 12, .inl (upd fE n ex))), (aI, .inl (cZ, 12, .inl fI))] H := hP
          have hD : va_D A [(aq, .inr (1, [.ref aP, .ref aA, .ref aT, .ref aO, .int ((nI n) + 1), .ref aE, .ref aI])), (aP, .inl (cI, 12, .inl (upd fP n pa))), (aA, .inl (cI, 12, .inl (upd fA n am))), (aT, .inl (cI, 12, .inl (upd fT n te))), (aO, .inl (cI, 12, .inl (z_ord fO n (z_pl fE ex o n)))), (aE, .inl (cI, 12, .inl (upd fE n ex))), (aI, .inl (cZ, 12, .inl fI))] := hD
          refine lv_iload hx hb dX1_add_107 (lv_at hl 1 rfl) ?_
          exact W.iret (v := nI n) hx hb hr (fun tS htS hWS => ⟨congrArg (fun z => Outcome.returned (some (Value.int z))) (rfl : (nI n : Int32) = nI n), by rw [htS]; exact hP, hS.F htS⟩) hS.2.2 dX1_add_109
        · have h9 := c_30
          refine lv_aload_n hx hb dX1_add_33 rfl (lv_at hl 2 rfl) ?_
          refine va_get (D := (dC, dI)) (ci := 1) (v := .ref aO) (C := RX1) (T := TX1) (N := 7) hx hb hts (by decide +kernel) hown hK hP 0 rfl rfl 3 (by decide) (hts (.fieldLink RX1 21 "CapacityRound$Queue" "order" "[I") (by decide +kernel)) (fun _ h9 => h9) rfl dX1_add_34 ?_
          refine lv_iload hx hb dX1_add_37 (lv_at hl 0 rfl) ?_
          refine lv_aload_n hx hb dX1_add_39 rfl (lv_at hl 2 rfl) ?_
          refine va_get (D := (dC, dI)) (ci := 1) (v := .ref aO) (C := RX1) (T := TX1) (N := 7) hx hb hts (by decide +kernel) hown hK hP 0 rfl rfl 3 (by decide) (hts (.fieldLink RX1 21 "CapacityRound$Queue" "order" "[I") (by decide +kernel)) (fun _ h9 => h9) rfl dX1_add_40 ?_
          refine lv_iload hx hb dX1_add_43 (lv_at hl 0 rfl) ?_
          refine lv_iconst (v := 1) hx hb dX1_add_45 (by decide) ?_
          refine lv_isub hx hb dX1_add_46 ?_
          refine q_iald hx hb hK hP 4 0 rfl rfl t (by rw [ex6, ht]; exact nI_pred t) (by omega) (by decide) dX1_add_47 ?_
          refine lv_topi (fun v_2 ev_2 => ?_)
          obtain rfl : v_2 = nI (o t) := ev_2.trans ((z_shl (by omega)).trans ho)
          refine q_iast hx hb hK hP hD hS 4 0 rfl rfl (t + 1) (by rw [ex6, ht]) (by omega) (by decide) dX1_add_48 (fun H locs hP hD hS => ?_)
          have hP : va_P (dC, dI) vwCl [(aq, .inr (1, [.ref aP, .ref aA, .ref aT, .ref aO, .int (nI n), .ref aE, .ref aI])), (aP, .inl (cI, 12, .inl fP)), (aA, .inl (cI, 12, .inl fA)), (aT, .inl (cI, 12, .inl fT)), (aO, .inl (cI, 12, .inl (upd (z_sh fO n k) (t + 1) (nI (o t))))), (aE, .inl (cI, 12, .inl fE)), (aI, .inl (cZ, 12, .inl fI))] H := hP
          have hD : va_D A [(aq, .inr (1, [.ref aP, .ref aA, .ref aT, .ref aO, .int (nI n), .ref aE, .ref aI])), (aP, .inl (cI, 12, .inl fP)), (aA, .inl (cI, 12, .inl fA)), (aT, .inl (cI, 12, .inl fT)), (aO, .inl (cI, 12, .inl (upd (z_sh fO n k) (t + 1) (nI (o t))))), (aE, .inl (cI, 12, .inl fE)), (aI, .inl (cZ, 12, .inl fI))] := hD
          refine lv_iinc (v := x6 + (-1)) (lv' := [(6, .int (x6 + (-1))), (5, .int (nI n)), (0, .ref aq), (1, .int pa), (2, .int am), (3, .int ex), (4, .int te)]) hx hb dX1_add_49 hl (k := 0) rfl rfl (by decide) rfl (fun ls hl => ?_)
          refine lv_goto (tgt := 10) hx hb dX1_add_52 (by decide) ?_
          exact ih_k (k + 1) (x6 + (-1)) (by omega) (by omega) (by rw [ex6, ht, pk_m1, show n - (k + 1) = t by omega]) (by rw [hpl, ht, z_pl, if_pos (z_nle.mp c_30), show n - (k + 1) = t by omega]) _ _ (by rw [← z_shs ht ho]; exact hP) (by rw [← z_shs ht ho]; exact hD) hS ls (lv_sub hl [0, 1, 2, 3, 4, 5, 6] rfl)
  exact lp_10 (n + 1) 0 (nI n) (by omega) (by omega) (rfl) (rfl) _ _ (by rw [z_sh0]; exact hP) (by rw [z_sh0]; exact hD) hS ls (lv_sub hl [0, 1, 2, 3, 4, 5, 6] rfl)
set_option maxHeartbeats 4000000 in
set_option maxRecDepth 100000 in
theorem c_X1_amountUpTo (l : Launch) (dC : Nat → ClassId) (dI : Nat → Nat → Nat) (cI cZ cJ : ClassId) (aq aP aA aT aO aE aI n : Nat) (fP fA fT fO fE fI : Nat → Int32) (pr : Int32) (hn : n ≤ 12) : Met l yX1_amountUpTo wsX1_amountUpTo ({ frames := 0, cells := 0, slots := 0, locals := 0 }) (va_Pc [.ref aq, .int pr] (q_R (dC, dI) vwCl (q_T cI cZ cJ) [(aq, .inr (1, [.ref aP, .ref aA, .ref aT, .ref aO, .int (nI n), .ref aE, .ref aI])), (aP, .inl (cI, 12, .inl fP)), (aA, .inl (cI, 12, .inl fA)), (aT, .inl (cI, 12, .inl fT)), (aO, .inl (cI, 12, .inl fO)), (aE, .inl (cI, 12, .inl fE)), (aI, .inl (cZ, 12, .inl fI))])) (QcRead (z_su fA fE pr n)) 0 0 (fun _ => False) := by
  refine Met.ofW (cc := cX1_amountUpTo) (maxL := 4) (ret := (some .int)) (by decide) rfl ?_
  intro p e s m args below meth c s₁ B hml hv
  obtain ⟨rfl, hP, hK⟩ := hv
  have hx := B.exec
  have hb := B.bytes
  have hr := B.returns
  have hts := atoms_spec (ws := wsX1_amountUpTo) B.pre
  have hown : s.vm.findClass RX1 = some m.cls := findClass_of_methodNamed B.named
  have hlocks := B.notSynchronized
  have hP : va_P (dC, dI) vwCl [(aq, .inr (1, [.ref aP, .ref aA, .ref aT, .ref aO, .int (nI n), .ref aE, .ref aI])), (aP, .inl (cI, 12, .inl fP)), (aA, .inl (cI, 12, .inl fA)), (aT, .inl (cI, 12, .inl fT)), (aO, .inl (cI, 12, .inl fO)), (aE, .inl (cI, 12, .inl fE)), (aI, .inl (cZ, 12, .inl fI))] s.heap := hP
  have hl := lv_entry ([.ref aq, .int pr]) (n := 4) (Nat.le_of_ble_eq_true rfl)
  rw [lg_entry_eq]
  generalize (lg_sl ([.ref aq, .int pr]) ++ List.replicate (4 - (lg_sl ([.ref aq, .int pr])).length) Slot.unset).toArray = ls at hl ⊢
  have hl : lv_has ls 4 [(0, .ref aq), (1, .int pr)] := hl
  refine lv_iconst (v := 0) hx hb dX1_amountUpTo_0 (by decide) ?_
  refine lv_istore_n (lv' := [(2, .int 0), (0, .ref aq), (1, .int pr)]) hx hb dX1_amountUpTo_1 rfl hl (by decide) rfl (fun ls hl => ?_)
  refine lv_iconst (v := 0) hx hb dX1_amountUpTo_2 (by decide) ?_
  refine lv_istore_n (lv' := [(3, .int 0), (2, .int 0), (0, .ref aq), (1, .int pr)]) hx hb dX1_amountUpTo_3 rfl hl (by decide) rfl (fun ls hl => ?_)
  have lp_4 : ∀ (wk k : Nat) (x2 : Int32) (x3 : Int32), k ≤ n → n < k + wk → x2 = z_su fA fE pr k → x3 = nI k → ∀ (ls : Array Slot), lv_has ls 4 [(2, .int x2), (3, .int x3), (0, .ref aq), (1, .int pr)] → W p l e (headSpec wsX1_amountUpTo ({ frames := 0, cells := 0, slots := 0, locals := 0 })).room s m [.ref aq, .int pr].toArray below meth c s.heap [] 0 0 (MQ below (QcRead (z_su fA fE pr n)) [.ref aq, .int pr].toArray s 0 0 (fun _ => False)) (F0 m 4 ls []) := by
    intro wk
    induction wk with
    | zero => intro k x2 x3 hk_k hw_k; exact absurd hw_k (by omega)
    | succ wk ih_k =>
      intro k x2 x3 hk_k hw_k ex2 ex3   ls hl
      refine lv_iload_n hx hb dX1_amountUpTo_4 rfl (lv_at hl 1 rfl) ?_
      refine lv_aload_n hx hb dX1_amountUpTo_5 rfl (lv_at hl 2 rfl) ?_
      refine va_get (D := (dC, dI)) (ci := 1) (v := .int (nI n)) (C := RX1) (T := TX1) (N := 7) hx hb hts (by decide +kernel) hown hK hP 0 rfl rfl 4 (by decide) (hts (.fieldLink RX1 31 "CapacityRound$Queue" "count" "I") (by decide +kernel)) (fun _ h9 => h9) rfl dX1_amountUpTo_6 ?_
      refine lv_icmp_ge (tgt := 37) hx hb dX1_amountUpTo_9 (by decide) (fun c_9 => ?_) (fun c_9 => ?_)
      · have hkn : k = n := q_ex ex3 hk_k (by omega) c_9
        refine lv_iload_n hx hb dX1_amountUpTo_37 rfl (lv_at hl 0 rfl) ?_
        exact W.iret (v := x2) hx hb hr (fun tS htS hWS => ⟨congrArg (fun z => Outcome.returned (some (Value.int z))) (ex2.trans (by rw [hkn]) : (x2 : Int32) = z_su fA fE pr n), htS⟩) (fun _ h => nomatch h) dX1_amountUpTo_38
      · have hkn : k < n := q_lt ex3 hk_k (by omega) c_9
        refine lv_aload_n hx hb dX1_amountUpTo_12 rfl (lv_at hl 2 rfl) ?_
        refine va_get (D := (dC, dI)) (ci := 1) (v := .ref aE) (C := RX1) (T := TX1) (N := 7) hx hb hts (by decide +kernel) hown hK hP 0 rfl rfl 5 (by decide) (hts (.fieldLink RX1 24 "CapacityRound$Queue" "exits" "[I") (by decide +kernel)) (fun _ h9 => h9) rfl dX1_amountUpTo_13 ?_
        refine lv_iload_n hx hb dX1_amountUpTo_16 rfl (lv_at hl 1 rfl) ?_
        refine q_iald hx hb hK hP 5 0 rfl rfl k (ex3) (by omega) (by decide) dX1_amountUpTo_17 ?_
        refine lv_iload_n hx hb dX1_amountUpTo_18 rfl (lv_at hl 3 rfl) ?_
        refine lv_icmp_gt (tgt := 31) hx hb dX1_amountUpTo_19 (by decide) (fun c_19 => ?_) (fun c_19 => ?_)
        · have hs : x2 = z_su fA fE pr (k + 1) := by rw [z_su, if_neg (z_nle.mpr c_19), ← ex2, Int32.add_zero]
          refine lv_iinc (v := x3 + 1) (lv' := [(3, .int (x3 + 1)), (2, .int x2), (0, .ref aq), (1, .int pr)]) hx hb dX1_amountUpTo_31 hl (k := 1) rfl rfl (by decide) rfl (fun ls hl => ?_)
          refine lv_goto (tgt := 4) hx hb dX1_amountUpTo_34 (by decide) ?_
          exact ih_k (k + 1) x2 (x3 + 1) (by omega) (by omega) (hs) (q_s1 ex3)   ls (lv_sub hl [1, 0, 2, 3] rfl)
        · have hs : x2 + fA k = z_su fA fE pr (k + 1) := by rw [z_su, if_pos (z_nlt.mp c_19), ← ex2]
          refine lv_iload_n hx hb dX1_amountUpTo_22 rfl (lv_at hl 0 rfl) ?_
          refine lv_aload_n hx hb dX1_amountUpTo_23 rfl (lv_at hl 2 rfl) ?_
          refine va_get (D := (dC, dI)) (ci := 1) (v := .ref aA) (C := RX1) (T := TX1) (N := 7) hx hb hts (by decide +kernel) hown hK hP 0 rfl rfl 1 (by decide) (hts (.fieldLink RX1 15 "CapacityRound$Queue" "amounts" "[I") (by decide +kernel)) (fun _ h9 => h9) rfl dX1_amountUpTo_24 ?_
          refine lv_iload_n hx hb dX1_amountUpTo_27 rfl (lv_at hl 1 rfl) ?_
          refine q_iald hx hb hK hP 2 0 rfl rfl k (ex3) (by omega) (by decide) dX1_amountUpTo_28 ?_
          refine lv_iadd hx hb dX1_amountUpTo_29 ?_
          refine lv_istore_n (lv' := [(2, .int (x2 + (fA k))), (3, .int x3), (0, .ref aq), (1, .int pr)]) hx hb dX1_amountUpTo_30 rfl hl (by decide) rfl (fun ls hl => ?_)
          refine lv_iinc (v := x3 + 1) (lv' := [(3, .int (x3 + 1)), (2, .int (x2 + (fA k))), (0, .ref aq), (1, .int pr)]) hx hb dX1_amountUpTo_31 hl (k := 1) rfl rfl (by decide) rfl (fun ls hl => ?_)
          refine lv_goto (tgt := 4) hx hb dX1_amountUpTo_34 (by decide) ?_
          exact ih_k (k + 1) (x2 + (fA k)) (x3 + 1) (by omega) (by omega) (hs) (q_s1 ex3)   ls (lv_sub hl [1, 0, 2, 3] rfl)
  exact lp_4 (n + 1) 0 0 0 (by omega) (by omega) (rfl) (rfl)   ls (lv_sub hl [1, 0, 2, 3] rfl)
set_option maxHeartbeats 4000000 in
set_option maxRecDepth 100000 in
theorem c_X1_priceOfFirst (l : Launch) (dC : Nat → ClassId) (dI : Nat → Nat → Nat) (cI cZ cJ : ClassId) (aq aP aA aT aO aE aI n : Nat) (fP fA fT fO fE fI : Nat → Int32) (tk : Int32) (t : Nat) (o : Nat → Nat) (hn : n ≤ 12) (ht : tk = nI t) (htn : t ≤ n) (hO : ∀ k, k < n → fO k = nI (o k) ∧ o k < 12) : Met l yX1_priceOfFirst wsX1_priceOfFirst ({ frames := 0, cells := 0, slots := 0, locals := 0 }) (va_Pc [.ref aq, .int tk] (q_R (dC, dI) vwCl (q_T cI cZ cJ) [(aq, .inr (1, [.ref aP, .ref aA, .ref aT, .ref aO, .int (nI n), .ref aE, .ref aI])), (aP, .inl (cI, 12, .inl fP)), (aA, .inl (cI, 12, .inl fA)), (aT, .inl (cI, 12, .inl fT)), (aO, .inl (cI, 12, .inl fO)), (aE, .inl (cI, 12, .inl fE)), (aI, .inl (cZ, 12, .inl fI))])) (QcRead (z_po fE o t)) 0 0 (fun _ => False) := by
  refine Met.ofW (cc := cX1_priceOfFirst) (maxL := 2) (ret := (some .int)) (by decide) rfl ?_
  intro p e s m args below meth c s₁ B hml hv
  obtain ⟨rfl, hP, hK⟩ := hv
  have hx := B.exec
  have hb := B.bytes
  have hr := B.returns
  have hts := atoms_spec (ws := wsX1_priceOfFirst) B.pre
  have hown : s.vm.findClass RX1 = some m.cls := findClass_of_methodNamed B.named
  have hlocks := B.notSynchronized
  have hP : va_P (dC, dI) vwCl [(aq, .inr (1, [.ref aP, .ref aA, .ref aT, .ref aO, .int (nI n), .ref aE, .ref aI])), (aP, .inl (cI, 12, .inl fP)), (aA, .inl (cI, 12, .inl fA)), (aT, .inl (cI, 12, .inl fT)), (aO, .inl (cI, 12, .inl fO)), (aE, .inl (cI, 12, .inl fE)), (aI, .inl (cZ, 12, .inl fI))] s.heap := hP
  have hl := lv_entry ([.ref aq, .int tk]) (n := 2) (Nat.le_of_ble_eq_true rfl)
  rw [lg_entry_eq]
  generalize (lg_sl ([.ref aq, .int tk]) ++ List.replicate (2 - (lg_sl ([.ref aq, .int tk])).length) Slot.unset).toArray = ls at hl ⊢
  have hl : lv_has ls 2 [(0, .ref aq), (1, .int tk)] := hl
  refine lv_iload_n hx hb dX1_priceOfFirst_0 rfl (lv_at hl 1 rfl) ?_
  refine lv_iconst (v := 1) hx hb dX1_priceOfFirst_1 (by decide) ?_
  refine lv_icmp_lt (tgt := 13) hx hb dX1_priceOfFirst_2 (by decide) (fun c_2 => ?_) (fun c_2 => ?_)
  · have h0 : t = 0 := by have h9 := (q_cgt (y := tk) (x := 1) (k := 1) ht rfl (by omega) (by omega)).mp c_2; omega
    have hz : (0 : Int32) = z_po fE o t := by rw [h0]; rfl
    refine lv_iconst (v := 0) hx hb dX1_priceOfFirst_13 (by decide) ?_
    refine lv_goto (tgt := 30) hx hb dX1_priceOfFirst_14 (by decide) ?_
    exact W.iret (v := 0) hx hb hr (fun tS htS hWS => ⟨congrArg (fun z => Outcome.returned (some (Value.int z))) (hz : (0 : Int32) = z_po fE o t), htS⟩) (fun _ h => nomatch h) dX1_priceOfFirst_30
  · obtain ⟨j, hj⟩ : ∃ j, t = j + 1 := ⟨t - 1, by have h9 := (not_congr (q_cgt (y := tk) (x := 1) (k := 1) ht rfl (by omega) (by omega))).mp c_2; omega⟩
    obtain ⟨ho, ho12⟩ := hO j (by omega)
    refine lv_iload_n hx hb dX1_priceOfFirst_5 rfl (lv_at hl 1 rfl) ?_
    refine lv_aload_n hx hb dX1_priceOfFirst_6 rfl (lv_at hl 0 rfl) ?_
    refine va_get (D := (dC, dI)) (ci := 1) (v := .int (nI n)) (C := RX1) (T := TX1) (N := 7) hx hb hts (by decide +kernel) hown hK hP 0 rfl rfl 4 (by decide) (hts (.fieldLink RX1 31 "CapacityRound$Queue" "count" "I") (by decide +kernel)) (fun _ h9 => h9) rfl dX1_priceOfFirst_7 ?_
    refine lv_icmp_le (tgt := 17) hx hb dX1_priceOfFirst_10 (by decide) (fun c_10 => ?_) (fun c_10 => ?_)
    · have hz : fE (o j) = z_po fE o t := by rw [hj]; rfl
      refine lv_aload_n hx hb dX1_priceOfFirst_17 rfl (lv_at hl 0 rfl) ?_
      refine va_get (D := (dC, dI)) (ci := 1) (v := .ref aE) (C := RX1) (T := TX1) (N := 7) hx hb hts (by decide +kernel) hown hK hP 0 rfl rfl 5 (by decide) (hts (.fieldLink RX1 24 "CapacityRound$Queue" "exits" "[I") (by decide +kernel)) (fun _ h9 => h9) rfl dX1_priceOfFirst_18 ?_
      refine lv_aload_n hx hb dX1_priceOfFirst_21 rfl (lv_at hl 0 rfl) ?_
      refine va_get (D := (dC, dI)) (ci := 1) (v := .ref aO) (C := RX1) (T := TX1) (N := 7) hx hb hts (by decide +kernel) hown hK hP 0 rfl rfl 3 (by decide) (hts (.fieldLink RX1 21 "CapacityRound$Queue" "order" "[I") (by decide +kernel)) (fun _ h9 => h9) rfl dX1_priceOfFirst_22 ?_
      refine lv_iload_n hx hb dX1_priceOfFirst_25 rfl (lv_at hl 1 rfl) ?_
      refine lv_iconst (v := 1) hx hb dX1_priceOfFirst_26 (by decide) ?_
      refine lv_isub hx hb dX1_priceOfFirst_27 ?_
      refine q_iald hx hb hK hP 4 0 rfl rfl j (by rw [ht, hj]; exact nI_pred j) (by omega) (by decide) dX1_priceOfFirst_28 ?_
      refine lv_topi (fun v_1 ev_1 => ?_)
      obtain rfl : v_1 = nI (o j) := ev_1.trans (ho)
      refine q_iald hx hb hK hP 5 0 rfl rfl (o j) (rfl) (ho12) (by decide) dX1_priceOfFirst_29 ?_
      exact W.iret (v := fE (o j)) hx hb hr (fun tS htS hWS => ⟨congrArg (fun z => Outcome.returned (some (Value.int z))) (hz : (fE (o j) : Int32) = z_po fE o t), htS⟩) (fun _ h => nomatch h) dX1_priceOfFirst_30
    · exact absurd ((q_cge (y := tk) (x := nI n) ht rfl (by omega) (by omega)).mpr htn) c_10
set_option maxHeartbeats 4000000 in
set_option maxRecDepth 100000 in
theorem c_X1_isAmongFirst (l : Launch) (dC : Nat → ClassId) (dI : Nat → Nat → Nat) (cI cZ cJ : ClassId) (aq aP aA aT aO aE aI n : Nat) (fP fA fT fO fE fI : Nat → Int32) (wo tk : Int32) (w t : Nat) (o : Nat → Nat) (hn : n ≤ 12) (hw : wo = nI w) (hw12 : w < 12) (ht : tk = nI t) (htn : t ≤ n) (hO : ∀ k, k < n → fO k = nI (o k) ∧ o k < 12) : Met l yX1_isAmongFirst wsX1_isAmongFirst ({ frames := 0, cells := 0, slots := 0, locals := 0 }) (va_Pc [.ref aq, .int wo, .int tk] (q_R (dC, dI) vwCl (q_T cI cZ cJ) [(aq, .inr (1, [.ref aP, .ref aA, .ref aT, .ref aO, .int (nI n), .ref aE, .ref aI])), (aP, .inl (cI, 12, .inl fP)), (aA, .inl (cI, 12, .inl fA)), (aT, .inl (cI, 12, .inl fT)), (aO, .inl (cI, 12, .inl fO)), (aE, .inl (cI, 12, .inl fE)), (aI, .inl (cZ, 12, .inl fI))])) (QcRead (z_b (z_mem o w t))) 0 0 (fun _ => False) := by
  refine Met.ofW (cc := cX1_isAmongFirst) (maxL := 4) (ret := (some .boolean)) (by decide) rfl ?_
  intro p e s m args below meth c s₁ B hml hv
  obtain ⟨rfl, hP, hK⟩ := hv
  have hx := B.exec
  have hb := B.bytes
  have hr := B.returns
  have hts := atoms_spec (ws := wsX1_isAmongFirst) B.pre
  have hown : s.vm.findClass RX1 = some m.cls := findClass_of_methodNamed B.named
  have hlocks := B.notSynchronized
  have hP : va_P (dC, dI) vwCl [(aq, .inr (1, [.ref aP, .ref aA, .ref aT, .ref aO, .int (nI n), .ref aE, .ref aI])), (aP, .inl (cI, 12, .inl fP)), (aA, .inl (cI, 12, .inl fA)), (aT, .inl (cI, 12, .inl fT)), (aO, .inl (cI, 12, .inl fO)), (aE, .inl (cI, 12, .inl fE)), (aI, .inl (cZ, 12, .inl fI))] s.heap := hP
  have hl := lv_entry ([.ref aq, .int wo, .int tk]) (n := 4) (Nat.le_of_ble_eq_true rfl)
  rw [lg_entry_eq]
  generalize (lg_sl ([.ref aq, .int wo, .int tk]) ++ List.replicate (4 - (lg_sl ([.ref aq, .int wo, .int tk])).length) Slot.unset).toArray = ls at hl ⊢
  have hl : lv_has ls 4 [(0, .ref aq), (1, .int wo), (2, .int tk)] := hl
  refine lv_iconst (v := 0) hx hb dX1_isAmongFirst_0 (by decide) ?_
  refine lv_istore_n (lv' := [(3, .int 0), (0, .ref aq), (1, .int wo), (2, .int tk)]) hx hb dX1_isAmongFirst_1 rfl hl (by decide) rfl (fun ls hl => ?_)
  have lp_2 : ∀ (wk k : Nat) (x3 : Int32), k ≤ t → t < k + wk → x3 = nI k → (z_mem o w k = false) → ∀ (ls : Array Slot), lv_has ls 4 [(3, .int x3), (0, .ref aq), (1, .int wo), (2, .int tk)] → W p l e (headSpec wsX1_isAmongFirst ({ frames := 0, cells := 0, slots := 0, locals := 0 })).room s m [.ref aq, .int wo, .int tk].toArray below meth c s.heap [] 0 0 (MQ below (QcRead (z_b (z_mem o w t))) [.ref aq, .int wo, .int tk].toArray s 0 0 (fun _ => False)) (F0 m 2 ls []) := by
    intro wk
    induction wk with
    | zero => intro k x3 hk_k hw_k; exact absurd hw_k (by omega)
    | succ wk ih_k =>
      intro k x3 hk_k hw_k ex3 hm  ls hl
      refine lv_iload_n hx hb dX1_isAmongFirst_2 rfl (lv_at hl 0 rfl) ?_
      refine lv_iload_n hx hb dX1_isAmongFirst_3 rfl (lv_at hl 3 rfl) ?_
      refine lv_icmp_ge (tgt := 33) hx hb dX1_isAmongFirst_4 (by decide) (fun c_4 => ?_) (fun c_4 => ?_)
      · have hkn : k = t := q_ex ex3 hk_k (by omega) (by rw [← ht]; exact c_4)
        refine lv_iconst (v := 0) hx hb dX1_isAmongFirst_33 (by decide) ?_
        exact W.zret (v := 0) (ty := .boolean) hx hb hr (rfl) (fun tS htS hWS => ⟨congrArg (fun z => Outcome.returned (some (Value.int z))) (by rw [← hkn, hm]; rfl : (0 : Int32) = z_b (z_mem o w t)), htS⟩) (fun _ h => nomatch h) dX1_isAmongFirst_34
      · have hkn : k < t := q_lt ex3 hk_k (by omega) (by rw [← ht]; exact c_4)
        obtain ⟨ho, ho12⟩ := hO k (by omega)
        refine lv_iload_n hx hb dX1_isAmongFirst_7 rfl (lv_at hl 0 rfl) ?_
        refine lv_aload_n hx hb dX1_isAmongFirst_8 rfl (lv_at hl 1 rfl) ?_
        refine va_get (D := (dC, dI)) (ci := 1) (v := .int (nI n)) (C := RX1) (T := TX1) (N := 7) hx hb hts (by decide +kernel) hown hK hP 0 rfl rfl 4 (by decide) (hts (.fieldLink RX1 31 "CapacityRound$Queue" "count" "I") (by decide +kernel)) (fun _ h9 => h9) rfl dX1_isAmongFirst_9 ?_
        refine lv_icmp_ge (tgt := 33) hx hb dX1_isAmongFirst_12 (by decide) (fun c_12 => ?_) (fun c_12 => ?_)
        · exact absurd (q_ex ex3 (by omega) (by omega) c_12) (by omega)
        · have h9 := c_12
          refine lv_aload_n hx hb dX1_isAmongFirst_15 rfl (lv_at hl 1 rfl) ?_
          refine va_get (D := (dC, dI)) (ci := 1) (v := .ref aO) (C := RX1) (T := TX1) (N := 7) hx hb hts (by decide +kernel) hown hK hP 0 rfl rfl 3 (by decide) (hts (.fieldLink RX1 21 "CapacityRound$Queue" "order" "[I") (by decide +kernel)) (fun _ h9 => h9) rfl dX1_isAmongFirst_16 ?_
          refine lv_iload_n hx hb dX1_isAmongFirst_19 rfl (lv_at hl 0 rfl) ?_
          refine q_iald hx hb hK hP 4 0 rfl rfl k (ex3) (by omega) (by decide) dX1_isAmongFirst_20 ?_
          refine lv_topi (fun v_1 ev_1 => ?_)
          obtain rfl : v_1 = nI (o k) := ev_1.trans (ho)
          refine lv_iload_n hx hb dX1_isAmongFirst_21 rfl (lv_at hl 2 rfl) ?_
          refine lv_icmp_ne (tgt := 27) hx hb dX1_isAmongFirst_22 (by decide) (fun c_22 => ?_) (fun c_22 => ?_)
          · have hne : ¬ o k = w := fun q => c_22 (by rw [hw, q])
            refine lv_iinc (v := x3 + 1) (lv' := [(3, .int (x3 + 1)), (0, .ref aq), (1, .int wo), (2, .int tk)]) hx hb dX1_isAmongFirst_27 hl (k := 0) rfl rfl (by decide) rfl (fun ls hl => ?_)
            refine lv_goto (tgt := 2) hx hb dX1_isAmongFirst_30 (by decide) ?_
            exact ih_k (k + 1) (x3 + 1) (by omega) (by omega) (q_s1 ex3) (z_mems hm hne)  ls (lv_sub hl [0, 1, 2, 3] rfl)
          · have heq : o k = w := (q_ceq (y := nI (o k)) rfl hw (by omega) (by omega)).mp c_22
            refine lv_iconst (v := 1) hx hb dX1_isAmongFirst_25 (by decide) ?_
            exact W.zret (v := 1) (ty := .boolean) hx hb hr (rfl) (fun tS htS hWS => ⟨congrArg (fun z => Outcome.returned (some (Value.int z))) (by rw [z_memt hkn heq]; rfl : (1 : Int32) = z_b (z_mem o w t)), htS⟩) (fun _ h => nomatch h) dX1_isAmongFirst_26
  exact lp_2 (t + 1) 0 0 (by omega) (by omega) (rfl) (rfl)  ls (lv_sub hl [0, 1, 2, 3] rfl)
set_option maxHeartbeats 4000000 in
set_option maxRecDepth 100000 in
theorem c_X1_dearestIn (l : Launch) (dC : Nat → ClassId) (dI : Nat → Nat → Nat) (cI cZ cJ : ClassId) (aq aP aA aT aO aE aI n : Nat) (fP fA fT fO fE fI : Nat → Int32) (hn : n ≤ 12) : Met l yX1_dearestIn wsX1_dearestIn ({ frames := 0, cells := 0, slots := 0, locals := 0 }) (va_Pc [.ref aq] (q_R (dC, dI) vwCl (q_T cI cZ cJ) [(aq, .inr (1, [.ref aP, .ref aA, .ref aT, .ref aO, .int (nI n), .ref aE, .ref aI])), (aP, .inl (cI, 12, .inl fP)), (aA, .inl (cI, 12, .inl fA)), (aT, .inl (cI, 12, .inl fT)), (aO, .inl (cI, 12, .inl fO)), (aE, .inl (cI, 12, .inl fE)), (aI, .inl (cZ, 12, .inl fI))])) (QcRead (z_de fI fE n)) 0 0 (fun _ => False) := by
  refine Met.ofW (cc := cX1_dearestIn) (maxL := 3) (ret := (some .int)) (by decide) rfl ?_
  intro p e s m args below meth c s₁ B hml hv
  obtain ⟨rfl, hP, hK⟩ := hv
  have hx := B.exec
  have hb := B.bytes
  have hr := B.returns
  have hts := atoms_spec (ws := wsX1_dearestIn) B.pre
  have hown : s.vm.findClass RX1 = some m.cls := findClass_of_methodNamed B.named
  have hlocks := B.notSynchronized
  have hP : va_P (dC, dI) vwCl [(aq, .inr (1, [.ref aP, .ref aA, .ref aT, .ref aO, .int (nI n), .ref aE, .ref aI])), (aP, .inl (cI, 12, .inl fP)), (aA, .inl (cI, 12, .inl fA)), (aT, .inl (cI, 12, .inl fT)), (aO, .inl (cI, 12, .inl fO)), (aE, .inl (cI, 12, .inl fE)), (aI, .inl (cZ, 12, .inl fI))] s.heap := hP
  have hl := lv_entry ([.ref aq]) (n := 3) (Nat.le_of_ble_eq_true rfl)
  rw [lg_entry_eq]
  generalize (lg_sl ([.ref aq]) ++ List.replicate (3 - (lg_sl ([.ref aq])).length) Slot.unset).toArray = ls at hl ⊢
  have hl : lv_has ls 3 [(0, .ref aq)] := hl
  refine lv_iconst (v := (-1)) hx hb dX1_dearestIn_0 (by decide) ?_
  refine lv_istore_n (lv' := [(1, .int (-1)), (0, .ref aq)]) hx hb dX1_dearestIn_1 rfl hl (by decide) rfl (fun ls hl => ?_)
  refine lv_iconst (v := 0) hx hb dX1_dearestIn_2 (by decide) ?_
  refine lv_istore_n (lv' := [(2, .int 0), (1, .int (-1)), (0, .ref aq)]) hx hb dX1_dearestIn_3 rfl hl (by decide) rfl (fun ls hl => ?_)
  have lp_4 : ∀ (wk k : Nat) (x1 : Int32) (x2 : Int32), k ≤ n → n < k + wk → x1 = z_de fI fE k → x2 = nI k → ∀ (ls : Array Slot), lv_has ls 3 [(1, .int x1), (2, .int x2), (0, .ref aq)] → W p l e (headSpec wsX1_dearestIn ({ frames := 0, cells := 0, slots := 0, locals := 0 })).room s m [.ref aq].toArray below meth c s.heap [] 0 0 (MQ below (QcRead (z_de fI fE n)) [.ref aq].toArray s 0 0 (fun _ => False)) (F0 m 4 ls []) := by
    intro wk
    induction wk with
    | zero => intro k x1 x2 hk_k hw_k; exact absurd hw_k (by omega)
    | succ wk ih_k =>
      intro k x1 x2 hk_k hw_k ex1 ex2   ls hl
      refine lv_iload_n hx hb dX1_dearestIn_4 rfl (lv_at hl 1 rfl) ?_
      refine lv_aload_n hx hb dX1_dearestIn_5 rfl (lv_at hl 2 rfl) ?_
      refine va_get (D := (dC, dI)) (ci := 1) (v := .int (nI n)) (C := RX1) (T := TX1) (N := 7) hx hb hts (by decide +kernel) hown hK hP 0 rfl rfl 4 (by decide) (hts (.fieldLink RX1 31 "CapacityRound$Queue" "count" "I") (by decide +kernel)) (fun _ h9 => h9) rfl dX1_dearestIn_6 ?_
      refine lv_icmp_ge (tgt := 49) hx hb dX1_dearestIn_9 (by decide) (fun c_9 => ?_) (fun c_9 => ?_)
      · have hkn : k = n := q_ex ex2 hk_k (by omega) c_9
        refine lv_iload_n hx hb dX1_dearestIn_49 rfl (lv_at hl 0 rfl) ?_
        exact W.iret (v := x1) hx hb hr (fun tS htS hWS => ⟨congrArg (fun z => Outcome.returned (some (Value.int z))) (ex1.trans (by rw [hkn]) : (x1 : Int32) = z_de fI fE n), htS⟩) (fun _ h => nomatch h) dX1_dearestIn_50
      · have hkn : k < n := q_lt ex2 hk_k (by omega) c_9
        refine lv_aload_n hx hb dX1_dearestIn_12 rfl (lv_at hl 2 rfl) ?_
        refine va_get (D := (dC, dI)) (ci := 1) (v := .ref aI) (C := RX1) (T := TX1) (N := 7) hx hb hts (by decide +kernel) hown hK hP 0 rfl rfl 6 (by decide) (hts (.fieldLink RX1 27 "CapacityRound$Queue" "in" "[Z") (by decide +kernel)) (fun _ h9 => h9) rfl dX1_dearestIn_13 ?_
        refine lv_iload_n hx hb dX1_dearestIn_16 rfl (lv_at hl 1 rfl) ?_
        refine q_zald hx hb hK hP 6 1 rfl rfl k (ex2) (by omega) (by decide) dX1_dearestIn_17 ?_
        refine lv_if_eq (tgt := 43) hx hb dX1_dearestIn_18 (by decide) (fun c_18 => ?_) (fun c_18 => ?_)
        · have hs : x1 = z_de fI fE (k + 1) := by rw [z_de1 c_18]; exact ex1
          refine lv_iinc (v := x2 + 1) (lv' := [(2, .int (x2 + 1)), (1, .int x1), (0, .ref aq)]) hx hb dX1_dearestIn_43 hl (k := 1) rfl rfl (by decide) rfl (fun ls hl => ?_)
          refine lv_goto (tgt := 4) hx hb dX1_dearestIn_46 (by decide) ?_
          exact ih_k (k + 1) x1 (x2 + 1) (by omega) (by omega) (hs) (q_s1 ex2)   ls (lv_sub hl [1, 0, 2] rfl)
        · have h9 := c_18
          refine lv_iload_n hx hb dX1_dearestIn_21 rfl (lv_at hl 0 rfl) ?_
          refine lv_iconst (v := (-1)) hx hb dX1_dearestIn_22 (by decide) ?_
          refine lv_icmp_eq (tgt := 41) hx hb dX1_dearestIn_23 (by decide) (fun c_23 => ?_) (fun c_23 => ?_)
          · have hs : x2 = z_de fI fE (k + 1) := by rw [z_de2 c_18 (by rw [← ex1]; exact c_23)]; exact ex2
            refine lv_iload_n hx hb dX1_dearestIn_41 rfl (lv_at hl 1 rfl) ?_
            refine lv_istore_n (lv' := [(1, .int x2), (2, .int x2), (0, .ref aq)]) hx hb dX1_dearestIn_42 rfl hl (by decide) rfl (fun ls hl => ?_)
            refine lv_iinc (v := x2 + 1) (lv' := [(2, .int (x2 + 1)), (1, .int x2), (0, .ref aq)]) hx hb dX1_dearestIn_43 hl (k := 1) rfl rfl (by decide) rfl (fun ls hl => ?_)
            refine lv_goto (tgt := 4) hx hb dX1_dearestIn_46 (by decide) ?_
            exact ih_k (k + 1) x2 (x2 + 1) (by omega) (by omega) (hs) (q_s1 ex2)   ls (lv_sub hl [1, 0, 2] rfl)
          · have h1 : ¬ z_de fI fE k = -1 := by rw [← ex1]; exact c_23
            obtain ⟨j1, j2⟩ := (z_dein fI fE k (by omega)).resolve_left h1
            refine lv_aload_n hx hb dX1_dearestIn_26 rfl (lv_at hl 2 rfl) ?_
            refine va_get (D := (dC, dI)) (ci := 1) (v := .ref aE) (C := RX1) (T := TX1) (N := 7) hx hb hts (by decide +kernel) hown hK hP 0 rfl rfl 5 (by decide) (hts (.fieldLink RX1 24 "CapacityRound$Queue" "exits" "[I") (by decide +kernel)) (fun _ h9 => h9) rfl dX1_dearestIn_27 ?_
            refine lv_iload_n hx hb dX1_dearestIn_30 rfl (lv_at hl 1 rfl) ?_
            refine q_iald hx hb hK hP 5 0 rfl rfl k (ex2) (by omega) (by decide) dX1_dearestIn_31 ?_
            refine lv_aload_n hx hb dX1_dearestIn_32 rfl (lv_at hl 2 rfl) ?_
            refine va_get (D := (dC, dI)) (ci := 1) (v := .ref aE) (C := RX1) (T := TX1) (N := 7) hx hb hts (by decide +kernel) hown hK hP 0 rfl rfl 5 (by decide) (hts (.fieldLink RX1 24 "CapacityRound$Queue" "exits" "[I") (by decide +kernel)) (fun _ h9 => h9) rfl dX1_dearestIn_33 ?_
            refine lv_iload_n hx hb dX1_dearestIn_36 rfl (lv_at hl 0 rfl) ?_
            refine q_iald hx hb hK hP 5 0 rfl rfl (z_n (z_de fI fE k)) (ex1.trans j1) (by omega) (by decide) dX1_dearestIn_37 ?_
            refine lv_icmp_lt (tgt := 43) hx hb dX1_dearestIn_38 (by decide) (fun c_38 => ?_) (fun c_38 => ?_)
            · have hs : x1 = z_de fI fE (k + 1) := by rw [z_de4 c_18 h1 (z_nle.mpr c_38)]; exact ex1
              refine lv_iinc (v := x2 + 1) (lv' := [(2, .int (x2 + 1)), (1, .int x1), (0, .ref aq)]) hx hb dX1_dearestIn_43 hl (k := 1) rfl rfl (by decide) rfl (fun ls hl => ?_)
              refine lv_goto (tgt := 4) hx hb dX1_dearestIn_46 (by decide) ?_
              exact ih_k (k + 1) x1 (x2 + 1) (by omega) (by omega) (hs) (q_s1 ex2)   ls (lv_sub hl [1, 0, 2] rfl)
            · have hs : x2 = z_de fI fE (k + 1) := by rw [z_de3 c_18 h1 (z_nlt.mp c_38)]; exact ex2
              refine lv_iload_n hx hb dX1_dearestIn_41 rfl (lv_at hl 1 rfl) ?_
              refine lv_istore_n (lv' := [(1, .int x2), (2, .int x2), (0, .ref aq)]) hx hb dX1_dearestIn_42 rfl hl (by decide) rfl (fun ls hl => ?_)
              refine lv_iinc (v := x2 + 1) (lv' := [(2, .int (x2 + 1)), (1, .int x2), (0, .ref aq)]) hx hb dX1_dearestIn_43 hl (k := 1) rfl rfl (by decide) rfl (fun ls hl => ?_)
              refine lv_goto (tgt := 4) hx hb dX1_dearestIn_46 (by decide) ?_
              exact ih_k (k + 1) x2 (x2 + 1) (by omega) (by omega) (hs) (q_s1 ex2)   ls (lv_sub hl [1, 0, 2] rfl)
  exact lp_4 (n + 1) 0 (-1) 0 (by omega) (by omega) (rfl) (rfl)   ls (lv_sub hl [1, 0, 2] rfl)
set_option maxHeartbeats 4000000 in
set_option maxRecDepth 100000 in
theorem c_X1_exitOf (l : Launch) (dC : Nat → ClassId) (dI : Nat → Nat → Nat) (cI cZ cJ : ClassId) (aq aP aA aT aO aE aI n : Nat) (fP fA fT fO fE fI : Nat → Int32) (w : Int32) (hw : w = -1 ∨ (w = nI (z_n w) ∧ z_n w < 12)) : Met l yX1_exitOf wsX1_exitOf ({ frames := 0, cells := 0, slots := 0, locals := 0 }) (va_Pc [.ref aq, .int w] (q_R (dC, dI) vwCl (q_T cI cZ cJ) [(aq, .inr (1, [.ref aP, .ref aA, .ref aT, .ref aO, .int (nI n), .ref aE, .ref aI])), (aP, .inl (cI, 12, .inl fP)), (aA, .inl (cI, 12, .inl fA)), (aT, .inl (cI, 12, .inl fT)), (aO, .inl (cI, 12, .inl fO)), (aE, .inl (cI, 12, .inl fE)), (aI, .inl (cZ, 12, .inl fI))])) (QcRead (z_xo fE w)) 0 0 (fun _ => False) := by
  refine Met.ofW (cc := cX1_exitOf) (maxL := 2) (ret := (some .int)) (by decide) rfl ?_
  intro p e s m args below meth c s₁ B hml hv
  obtain ⟨rfl, hP, hK⟩ := hv
  have hx := B.exec
  have hb := B.bytes
  have hr := B.returns
  have hts := atoms_spec (ws := wsX1_exitOf) B.pre
  have hown : s.vm.findClass RX1 = some m.cls := findClass_of_methodNamed B.named
  have hlocks := B.notSynchronized
  have hP : va_P (dC, dI) vwCl [(aq, .inr (1, [.ref aP, .ref aA, .ref aT, .ref aO, .int (nI n), .ref aE, .ref aI])), (aP, .inl (cI, 12, .inl fP)), (aA, .inl (cI, 12, .inl fA)), (aT, .inl (cI, 12, .inl fT)), (aO, .inl (cI, 12, .inl fO)), (aE, .inl (cI, 12, .inl fE)), (aI, .inl (cZ, 12, .inl fI))] s.heap := hP
  have hl := lv_entry ([.ref aq, .int w]) (n := 2) (Nat.le_of_ble_eq_true rfl)
  rw [lg_entry_eq]
  generalize (lg_sl ([.ref aq, .int w]) ++ List.replicate (2 - (lg_sl ([.ref aq, .int w])).length) Slot.unset).toArray = ls at hl ⊢
  have hl : lv_has ls 2 [(0, .ref aq), (1, .int w)] := hl
  refine lv_iload_n hx hb dX1_exitOf_0 rfl (lv_at hl 1 rfl) ?_
  refine lv_iconst (v := (-1)) hx hb dX1_exitOf_1 (by decide) ?_
  refine lv_icmp_ne (tgt := 9) hx hb dX1_exitOf_2 (by decide) (fun c_2 => ?_) (fun c_2 => ?_)
  · have hz : fE (z_n w) = z_xo fE w := by unfold z_xo; rw [if_neg c_2]
    obtain ⟨j1, j2⟩ := hw.resolve_left c_2
    refine lv_aload_n hx hb dX1_exitOf_9 rfl (lv_at hl 0 rfl) ?_
    refine va_get (D := (dC, dI)) (ci := 1) (v := .ref aE) (C := RX1) (T := TX1) (N := 7) hx hb hts (by decide +kernel) hown hK hP 0 rfl rfl 5 (by decide) (hts (.fieldLink RX1 24 "CapacityRound$Queue" "exits" "[I") (by decide +kernel)) (fun _ h9 => h9) rfl dX1_exitOf_10 ?_
    refine lv_iload_n hx hb dX1_exitOf_13 rfl (lv_at hl 1 rfl) ?_
    refine q_iald hx hb hK hP 5 0 rfl rfl (z_n w) (j1) (j2) (by decide) dX1_exitOf_14 ?_
    exact W.iret (v := fE (z_n w)) hx hb hr (fun tS htS hWS => ⟨congrArg (fun z => Outcome.returned (some (Value.int z))) (hz : (fE (z_n w) : Int32) = z_xo fE w), htS⟩) (fun _ h => nomatch h) dX1_exitOf_15
  · have hz : 0 = z_xo fE w := by unfold z_xo; rw [if_pos c_2]
    refine lv_iconst (v := 0) hx hb dX1_exitOf_5 (by decide) ?_
    refine lv_goto (tgt := 15) hx hb dX1_exitOf_6 (by decide) ?_
    exact W.iret (v := 0) hx hb hr (fun tS htS hWS => ⟨congrArg (fun z => Outcome.returned (some (Value.int z))) (hz : (0 : Int32) = z_xo fE w), htS⟩) (fun _ h => nomatch h) dX1_exitOf_15
