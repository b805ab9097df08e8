set_option maxHeartbeats 4000000 in
set_option maxRecDepth 100000 in
/-- X2_isWithin: whether x is from a to b -/
theorem c_X2_isWithin (l : Launch) (dC : Nat → ClassId) (dI : Nat → Nat → Nat) (cI cZ cJ : ClassId) (x a b : Int32)  : Met l yX2_isWithin wsX2_isWithin ({ frames := 0, cells := 0, slots := 0, locals := 0 }) (va_Pc [.int x, .int a, .int b] (q_R (dC, dI) vwCl (q_T cI cZ cJ) [])) (QcRead (z_b (z_in x a b))) 0 0 (fun _ => False) := by
  refine Met.ofW (cc := cX2_isWithin) (maxL := 3) (ret := (some .boolean)) (by decide) rfl ?_
  intro p e s m args below meth c s₁ B hml hv
  obtain ⟨rfl, hP, hK⟩ := hv
  have hx := B.exec
  have hb := B.bytes
  have hr := B.returns
  have hts := atoms_spec (ws := wsX2_isWithin) B.pre
  have hown : s.vm.findClass RX2 = some m.cls := findClass_of_methodNamed B.named
  have hlocks := B.notSynchronized
  have hP : va_P (dC, dI) vwCl [] s.heap := hP
  have hl := lv_entry ([.int x, .int a, .int b]) (n := 3) (Nat.le_of_ble_eq_true rfl)
  rw [lg_entry_eq]
  generalize (lg_sl ([.int x, .int a, .int b]) ++ List.replicate (3 - (lg_sl ([.int x, .int a, .int b])).length) Slot.unset).toArray = ls at hl ⊢
  have hl : lv_has ls 3 [(0, .int x), (1, .int a), (2, .int b)] := hl
  refine lv_iload_n hx hb dX2_isWithin_0 rfl (lv_at hl 0 rfl) ?_
  refine lv_iload_n hx hb dX2_isWithin_1 rfl (lv_at hl 1 rfl) ?_
  refine lv_icmp_lt (tgt := 14) hx hb dX2_isWithin_2 (by decide) (fun c_2 => ?_) (fun c_2 => ?_)
  · have hz : z_in x a b = false := z_in_1 (z_nle.mpr c_2)
    refine lv_iconst (v := 0) hx hb dX2_isWithin_14 (by decide) ?_
    exact W.zret (v := 0) (ty := .boolean) hx hb hr (rfl) (fun tS htS hWS => ⟨congrArg (fun z => Outcome.returned (some (Value.int z))) (by rw [hz]; rfl : (0 : Int32) = z_b (z_in x a b)), htS⟩) (fun _ h => nomatch h) dX2_isWithin_15
  · have h2 : a ≤ x := z_nlt.mp c_2
    refine lv_iload_n hx hb dX2_isWithin_5 rfl (lv_at hl 0 rfl) ?_
    refine lv_iload_n hx hb dX2_isWithin_6 rfl (lv_at hl 2 rfl) ?_
    refine lv_icmp_gt (tgt := 14) hx hb dX2_isWithin_7 (by decide) (fun c_7 => ?_) (fun c_7 => ?_)
    · have hz : z_in x a b = false := z_in_2 (z_nle.mpr c_7)
      refine lv_iconst (v := 0) hx hb dX2_isWithin_14 (by decide) ?_
      exact W.zret (v := 0) (ty := .boolean) hx hb hr (rfl) (fun tS htS hWS => ⟨congrArg (fun z => Outcome.returned (some (Value.int z))) (by rw [hz]; rfl : (0 : Int32) = z_b (z_in x a b)), htS⟩) (fun _ h => nomatch h) dX2_isWithin_15
    · have hz : z_in x a b = true := z_in_t h2 (z_nlt.mp c_7)
      refine lv_iconst (v := 1) hx hb dX2_isWithin_10 (by decide) ?_
      refine lv_goto (tgt := 15) hx hb dX2_isWithin_11 (by decide) ?_
      exact W.zret (v := 1) (ty := .boolean) hx hb hr (rfl) (fun tS htS hWS => ⟨congrArg (fun z => Outcome.returned (some (Value.int z))) (by rw [hz]; rfl : (1 : Int32) = z_b (z_in x a b)), htS⟩) (fun _ h => nomatch h) dX2_isWithin_15
set_option maxHeartbeats 4000000 in
set_option maxRecDepth 100000 in
theorem c_X2_isParty (l : Launch) (dC : Nat → ClassId) (dI : Nat → Nat → Nat) (cI cZ cJ : ClassId) (x : Int32)  : Met l yX2_isParty wsX2_isParty ({ frames := 1, cells := 0, slots := 0, locals := 22 }) (va_Pc [.int x] (q_R (dC, dI) vwCl (q_T cI cZ cJ) [])) (QcRead (z_b (z_in x 0 4))) 0 0 (fun _ => False) := by
  refine Met.ofW (cc := cX2_isParty) (maxL := 1) (ret := (some .boolean)) (by decide) rfl ?_
  intro p e s m args below meth c s₁ B hml hv
  obtain ⟨rfl, hP, hK⟩ := hv
  have hx := B.exec
  have hb := B.bytes
  have hr := B.returns
  have hts := atoms_spec (ws := wsX2_isParty) B.pre
  have hown : s.vm.findClass RX2 = some m.cls := findClass_of_methodNamed B.named
  have hlocks := B.notSynchronized
  have hP : va_P (dC, dI) vwCl [] s.heap := hP
  have hl := lv_entry ([.int x]) (n := 1) (Nat.le_of_ble_eq_true rfl)
  rw [lg_entry_eq]
  generalize (lg_sl ([.int x]) ++ List.replicate (1 - (lg_sl ([.int x])).length) Slot.unset).toArray = ls at hl ⊢
  have hl : lv_has ls 1 [(0, .int x)] := hl
  refine lv_iload_n hx hb dX2_isParty_0 rfl (lv_at hl 0 rfl) ?_
  refine lv_iconst (v := 0) hx hb dX2_isParty_1 (by decide) ?_
  refine lv_iconst (v := 4) hx hb dX2_isParty_2 (by decide) ?_
  refine q_rS (wc := []) (r := (z_b (z_in x 0 4))) (As := [.int x, .int 0, .int 4]) (rest := []) ⟨hx, hb, hml, hown, hts⟩ (c_X2_isWithin l dC dI cI cZ cJ x 0 4) (va_cwS 3 hts gX2_isParty_X2_isWithin rfl rfl rfl (by decide +kernel) ⟨Nat.le_of_ble_eq_true rfl, Nat.le_of_ble_eq_true rfl⟩) hK (hP.sub [] rfl) rfl hl.1 rfl (Nat.le_of_ble_eq_true rfl) dX2_isParty_3 ⟨Nat.zero_le _, Nat.zero_le _⟩ ?_
  exact W.zret (v := z_b (z_in x 0 4)) (ty := .boolean) hx hb hr (z_bnar _) (fun tS htS hWS => ⟨congrArg (fun z => Outcome.returned (some (Value.int z))) (rfl : (z_b (z_in x 0 4) : Int32) = z_b (z_in x 0 4)), htS⟩) (fun _ h => nomatch h) dX2_isParty_6
set_option maxHeartbeats 4000000 in
set_option maxRecDepth 100000 in
theorem c_X2_isYear (l : Launch) (dC : Nat → ClassId) (dI : Nat → Nat → Nat) (cI cZ cJ : ClassId) (x : Int32)  : Met l yX2_isYear wsX2_isYear ({ frames := 1, cells := 0, slots := 0, locals := 22 }) (va_Pc [.int x] (q_R (dC, dI) vwCl (q_T cI cZ cJ) [])) (QcRead (z_b (z_in x 0 7))) 0 0 (fun _ => False) := by
  refine Met.ofW (cc := cX2_isYear) (maxL := 1) (ret := (some .boolean)) (by decide) rfl ?_
  intro p e s m args below meth c s₁ B hml hv
  obtain ⟨rfl, hP, hK⟩ := hv
  have hx := B.exec
  have hb := B.bytes
  have hr := B.returns
  have hts := atoms_spec (ws := wsX2_isYear) B.pre
  have hown : s.vm.findClass RX2 = some m.cls := findClass_of_methodNamed B.named
  have hlocks := B.notSynchronized
  have hP : va_P (dC, dI) vwCl [] s.heap := hP
  have hl := lv_entry ([.int x]) (n := 1) (Nat.le_of_ble_eq_true rfl)
  rw [lg_entry_eq]
  generalize (lg_sl ([.int x]) ++ List.replicate (1 - (lg_sl ([.int x])).length) Slot.unset).toArray = ls at hl ⊢
  have hl : lv_has ls 1 [(0, .int x)] := hl
  refine lv_iload_n hx hb dX2_isYear_0 rfl (lv_at hl 0 rfl) ?_
  refine lv_iconst (v := 0) hx hb dX2_isYear_1 (by decide) ?_
  refine lv_bipush (v := 7) hx hb dX2_isYear_2 (by decide) ?_
  refine q_rS (wc := []) (r := (z_b (z_in x 0 7))) (As := [.int x, .int 0, .int 7]) (rest := []) ⟨hx, hb, hml, hown, hts⟩ (c_X2_isWithin l dC dI cI cZ cJ x 0 7) (va_cwS 3 hts gX2_isYear_X2_isWithin rfl rfl rfl (by decide +kernel) ⟨Nat.le_of_ble_eq_true rfl, Nat.le_of_ble_eq_true rfl⟩) hK (hP.sub [] rfl) rfl hl.1 rfl (Nat.le_of_ble_eq_true rfl) dX2_isYear_4 ⟨Nat.zero_le _, Nat.zero_le _⟩ ?_
  exact W.zret (v := z_b (z_in x 0 7)) (ty := .boolean) hx hb hr (z_bnar _) (fun tS htS hWS => ⟨congrArg (fun z => Outcome.returned (some (Value.int z))) (rfl : (z_b (z_in x 0 7) : Int32) = z_b (z_in x 0 7)), htS⟩) (fun _ h => nomatch h) dX2_isYear_7
set_option maxHeartbeats 4000000 in
set_option maxRecDepth 100000 in
theorem c_X2_isHour (l : Launch) (dC : Nat → ClassId) (dI : Nat → Nat → Nat) (cI cZ cJ : ClassId) (x : Int32)  : Met l yX2_isHour wsX2_isHour ({ frames := 1, cells := 0, slots := 0, locals := 22 }) (va_Pc [.int x] (q_R (dC, dI) vwCl (q_T cI cZ cJ) [])) (QcRead (z_b (z_in x 0 11))) 0 0 (fun _ => False) := by
  refine Met.ofW (cc := cX2_isHour) (maxL := 1) (ret := (some .boolean)) (by decide) rfl ?_
  intro p e s m args below meth c s₁ B hml hv
  obtain ⟨rfl, hP, hK⟩ := hv
  have hx := B.exec
  have hb := B.bytes
  have hr := B.returns
  have hts := atoms_spec (ws := wsX2_isHour) B.pre
  have hown : s.vm.findClass RX2 = some m.cls := findClass_of_methodNamed B.named
  have hlocks := B.notSynchronized
  have hP : va_P (dC, dI) vwCl [] s.heap := hP
  have hl := lv_entry ([.int x]) (n := 1) (Nat.le_of_ble_eq_true rfl)
  rw [lg_entry_eq]
  generalize (lg_sl ([.int x]) ++ List.replicate (1 - (lg_sl ([.int x])).length) Slot.unset).toArray = ls at hl ⊢
  have hl : lv_has ls 1 [(0, .int x)] := hl
  refine lv_iload_n hx hb dX2_isHour_0 rfl (lv_at hl 0 rfl) ?_
  refine lv_iconst (v := 0) hx hb dX2_isHour_1 (by decide) ?_
  refine lv_bipush (v := 11) hx hb dX2_isHour_2 (by decide) ?_
  refine q_rS (wc := []) (r := (z_b (z_in x 0 11))) (As := [.int x, .int 0, .int 11]) (rest := []) ⟨hx, hb, hml, hown, hts⟩ (c_X2_isWithin l dC dI cI cZ cJ x 0 11) (va_cwS 3 hts gX2_isHour_X2_isWithin rfl rfl rfl (by decide +kernel) ⟨Nat.le_of_ble_eq_true rfl, Nat.le_of_ble_eq_true rfl⟩) hK (hP.sub [] rfl) rfl hl.1 rfl (Nat.le_of_ble_eq_true rfl) dX2_isHour_4 ⟨Nat.zero_le _, Nat.zero_le _⟩ ?_
  exact W.zret (v := z_b (z_in x 0 11)) (ty := .boolean) hx hb hr (z_bnar _) (fun tS htS hWS => ⟨congrArg (fun z => Outcome.returned (some (Value.int z))) (rfl : (z_b (z_in x 0 11) : Int32) = z_b (z_in x 0 11)), htS⟩) (fun _ h => nomatch h) dX2_isHour_7
set_option maxHeartbeats 4000000 in
set_option maxRecDepth 100000 in
theorem c_X2_yearCell (l : Launch) (dC : Nat → ClassId) (dI : Nat → Nat → Nat) (cI cZ cJ : ClassId) (p0 y0 : Int32)  : Met l yX2_yearCell wsX2_yearCell ({ frames := 0, cells := 0, slots := 0, locals := 0 }) (va_Pc [.int p0, .int y0] (q_R (dC, dI) vwCl (q_T cI cZ cJ) [])) (QcRead (p0 * 8 + y0)) 0 0 (fun _ => False) := by
  refine Met.ofW (cc := cX2_yearCell) (maxL := 2) (ret := (some .int)) (by decide) rfl ?_
  intro p e s m args below meth c s₁ B hml hv
  obtain ⟨rfl, hP, hK⟩ := hv
  have hx := B.exec
  have hb := B.bytes
  have hr := B.returns
  have hts := atoms_spec (ws := wsX2_yearCell) B.pre
  have hown : s.vm.findClass RX2 = some m.cls := findClass_of_methodNamed B.named
  have hlocks := B.notSynchronized
  have hP : va_P (dC, dI) vwCl [] s.heap := hP
  have hl := lv_entry ([.int p0, .int y0]) (n := 2) (Nat.le_of_ble_eq_true rfl)
  rw [lg_entry_eq]
  generalize (lg_sl ([.int p0, .int y0]) ++ List.replicate (2 - (lg_sl ([.int p0, .int y0])).length) Slot.unset).toArray = ls at hl ⊢
  have hl : lv_has ls 2 [(0, .int p0), (1, .int y0)] := hl
  refine lv_iload_n hx hb dX2_yearCell_0 rfl (lv_at hl 0 rfl) ?_
  refine lv_bipush (v := 8) hx hb dX2_yearCell_1 (by decide) ?_
  refine lv_imul hx hb dX2_yearCell_3 ?_
  refine lv_iload_n hx hb dX2_yearCell_4 rfl (lv_at hl 1 rfl) ?_
  refine lv_iadd hx hb dX2_yearCell_5 ?_
  exact W.iret (v := (p0 * 8) + y0) hx hb hr (fun tS htS hWS => ⟨congrArg (fun z => Outcome.returned (some (Value.int z))) (rfl : ((p0 * 8) + y0 : Int32) = p0 * 8 + y0), htS⟩) (fun _ h => nomatch h) dX2_yearCell_6
set_option maxHeartbeats 4000000 in
set_option maxRecDepth 100000 in
theorem c_X2_hourCell (l : Launch) (dC : Nat → ClassId) (dI : Nat → Nat → Nat) (cI cZ cJ : ClassId) (p0 y0 h0 : Int32)  : Met l yX2_hourCell wsX2_hourCell ({ frames := 1, cells := 0, slots := 0, locals := 21 }) (va_Pc [.int p0, .int y0, .int h0] (q_R (dC, dI) vwCl (q_T cI cZ cJ) [])) (QcRead ((p0 * 8 + y0) * 12 + h0)) 0 0 (fun _ => False) := by
  refine Met.ofW (cc := cX2_hourCell) (maxL := 3) (ret := (some .int)) (by decide) rfl ?_
  intro p e s m args below meth c s₁ B hml hv
  obtain ⟨rfl, hP, hK⟩ := hv
  have hx := B.exec
  have hb := B.bytes
  have hr := B.returns
  have hts := atoms_spec (ws := wsX2_hourCell) B.pre
  have hown : s.vm.findClass RX2 = some m.cls := findClass_of_methodNamed B.named
  have hlocks := B.notSynchronized
  have hP : va_P (dC, dI) vwCl [] s.heap := hP
  have hl := lv_entry ([.int p0, .int y0, .int h0]) (n := 3) (Nat.le_of_ble_eq_true rfl)
  rw [lg_entry_eq]
  generalize (lg_sl ([.int p0, .int y0, .int h0]) ++ List.replicate (3 - (lg_sl ([.int p0, .int y0, .int h0])).length) Slot.unset).toArray = ls at hl ⊢
  have hl : lv_has ls 3 [(0, .int p0), (1, .int y0), (2, .int h0)] := hl
  refine lv_iload_n hx hb dX2_hourCell_0 rfl (lv_at hl 0 rfl) ?_
  refine lv_iload_n hx hb dX2_hourCell_1 rfl (lv_at hl 1 rfl) ?_
  refine q_rS (wc := []) (r := (p0 * 8 + y0)) (As := [.int p0, .int y0]) (rest := []) ⟨hx, hb, hml, hown, hts⟩ (c_X2_yearCell l dC dI cI cZ cJ p0 y0) (va_cwS 2 hts gX2_hourCell_X2_yearCell rfl rfl rfl (by decide +kernel) ⟨Nat.le_of_ble_eq_true rfl, Nat.le_of_ble_eq_true rfl⟩) hK (hP.sub [] rfl) rfl hl.1 rfl (Nat.le_of_ble_eq_true rfl) dX2_hourCell_2 ⟨Nat.zero_le _, Nat.zero_le _⟩ ?_
  refine lv_bipush (v := 12) hx hb dX2_hourCell_5 (by decide) ?_
  refine lv_imul hx hb dX2_hourCell_7 ?_
  refine lv_iload_n hx hb dX2_hourCell_8 rfl (lv_at hl 2 rfl) ?_
  refine lv_iadd hx hb dX2_hourCell_9 ?_
  exact W.iret (v := ((p0 * 8 + y0) * 12) + h0) hx hb hr (fun tS htS hWS => ⟨congrArg (fun z => Outcome.returned (some (Value.int z))) (rfl : (((p0 * 8 + y0) * 12) + h0 : Int32) = (p0 * 8 + y0) * 12 + h0), htS⟩) (fun _ h => nomatch h) dX2_hourCell_10
set_option maxHeartbeats 4000000 in
set_option maxRecDepth 100000 in
theorem c_X0_valueOf (l : Launch) (dC : Nat → ClassId) (dI : Nat → Nat → Nat) (cI cZ cJ : ClassId) (ad aw : Nat) (lo up tp : Int32) (fW : Nat → Int32) (u : Int32)  : Met l yX0_valueOf wsX0_valueOf ({ frames := 0, cells := 0, slots := 0, locals := 0 }) (va_Pc [.ref ad, .int u] (q_R (dC, dI) vwCl (q_T cI cZ cJ) [(ad, .inr (0, [.ref aw, .int lo, .int up, .int tp])), (aw, .inl (cI, 1002, .inl fW))])) (QcRead (z_v lo up tp u)) 0 0 (fun _ => False) := by
  refine Met.ofW (cc := cX0_valueOf) (maxL := 2) (ret := (some .int)) (by decide) rfl ?_
  intro p e s m args below meth c s₁ B hml hv
  obtain ⟨rfl, hP, hK⟩ := hv
  have hx := B.exec
  have hb := B.bytes
  have hr := B.returns
  have hts := atoms_spec (ws := wsX0_valueOf) B.pre
  have hown : s.vm.findClass RX0 = some m.cls := findClass_of_methodNamed B.named
  have hlocks := B.notSynchronized
  have hP : va_P (dC, dI) vwCl [(ad, .inr (0, [.ref aw, .int lo, .int up, .int tp])), (aw, .inl (cI, 1002, .inl fW))] s.heap := hP
  have hl := lv_entry ([.ref ad, .int u]) (n := 2) (Nat.le_of_ble_eq_true rfl)
  rw [lg_entry_eq]
  generalize (lg_sl ([.ref ad, .int u]) ++ List.replicate (2 - (lg_sl ([.ref ad, .int u])).length) Slot.unset).toArray = ls at hl ⊢
  have hl : lv_has ls 2 [(0, .ref ad), (1, .int u)] := hl
  refine lv_iload_n hx hb dX0_valueOf_0 rfl (lv_at hl 1 rfl) ?_
  refine lv_aload_n hx hb dX0_valueOf_1 rfl (lv_at hl 0 rfl) ?_
  refine va_get (D := (dC, dI)) (ci := 0) (v := .int lo) (C := RX0) (T := TX0) (N := 4) hx hb hts (by decide +kernel) hown hK hP 0 rfl rfl 1 (by decide) (hts (.fieldLink RX0 17 "CapacityRound$Demand" "lowerAmount" "I") (by decide +kernel)) (fun _ h9 => h9) rfl dX0_valueOf_2 ?_
  refine lv_icmp_gt (tgt := 13) hx hb dX0_valueOf_5 (by decide) (fun c_5 => ?_) (fun c_5 => ?_)
  · refine lv_iload_n hx hb dX0_valueOf_13 rfl (lv_at hl 1 rfl) ?_
    refine lv_aload_n hx hb dX0_valueOf_14 rfl (lv_at hl 0 rfl) ?_
    refine va_get (D := (dC, dI)) (ci := 0) (v := .int up) (C := RX0) (T := TX0) (N := 4) hx hb hts (by decide +kernel) hown hK hP 0 rfl rfl 2 (by decide) (hts (.fieldLink RX0 21 "CapacityRound$Demand" "upperAmount" "I") (by decide +kernel)) (fun _ h9 => h9) rfl dX0_valueOf_15 ?_
    refine lv_icmp_le (tgt := 23) hx hb dX0_valueOf_18 (by decide) (fun c_18 => ?_) (fun c_18 => ?_)
    · refine lv_aload_n hx hb dX0_valueOf_23 rfl (lv_at hl 0 rfl) ?_
      refine va_get (D := (dC, dI)) (ci := 0) (v := .int tp) (C := RX0) (T := TX0) (N := 4) hx hb hts (by decide +kernel) hown hK hP 0 rfl rfl 3 (by decide) (hts (.fieldLink RX0 24 "CapacityRound$Demand" "topPrice" "I") (by decide +kernel)) (fun _ h9 => h9) rfl dX0_valueOf_24 ?_
      refine lv_aload_n hx hb dX0_valueOf_27 rfl (lv_at hl 0 rfl) ?_
      refine va_get (D := (dC, dI)) (ci := 0) (v := .int up) (C := RX0) (T := TX0) (N := 4) hx hb hts (by decide +kernel) hown hK hP 0 rfl rfl 2 (by decide) (hts (.fieldLink RX0 21 "CapacityRound$Demand" "upperAmount" "I") (by decide +kernel)) (fun _ h9 => h9) rfl dX0_valueOf_28 ?_
      refine lv_iload_n hx hb dX0_valueOf_31 rfl (lv_at hl 1 rfl) ?_
      refine lv_isub hx hb dX0_valueOf_32 ?_
      refine lv_imul hx hb dX0_valueOf_33 ?_
      refine lv_aload_n hx hb dX0_valueOf_34 rfl (lv_at hl 0 rfl) ?_
      refine va_get (D := (dC, dI)) (ci := 0) (v := .int up) (C := RX0) (T := TX0) (N := 4) hx hb hts (by decide +kernel) hown hK hP 0 rfl rfl 2 (by decide) (hts (.fieldLink RX0 21 "CapacityRound$Demand" "upperAmount" "I") (by decide +kernel)) (fun _ h9 => h9) rfl dX0_valueOf_35 ?_
      refine lv_aload_n hx hb dX0_valueOf_38 rfl (lv_at hl 0 rfl) ?_
      refine va_get (D := (dC, dI)) (ci := 0) (v := .int lo) (C := RX0) (T := TX0) (N := 4) hx hb hts (by decide +kernel) hown hK hP 0 rfl rfl 1 (by decide) (hts (.fieldLink RX0 17 "CapacityRound$Demand" "lowerAmount" "I") (by decide +kernel)) (fun _ h9 => h9) rfl dX0_valueOf_39 ?_
      refine lv_isub hx hb dX0_valueOf_42 ?_
      refine lv_idiv hx hb dX0_valueOf_43 (z_ne (z_nle.mpr c_5) c_18) ?_
      exact W.iret (v := (tp * (up - u)) / (up - lo)) hx hb hr (fun tS htS hWS => ⟨congrArg (fun z => Outcome.returned (some (Value.int z))) (by unfold z_v; rw [if_neg (z_nle.mpr c_5), if_pos c_18] : ((tp * (up - u)) / (up - lo) : Int32) = z_v lo up tp u), htS⟩) (fun _ h => nomatch h) dX0_valueOf_44
    · refine lv_iconst (v := 0) hx hb dX0_valueOf_21 (by decide) ?_
      exact W.iret (v := 0) hx hb hr (fun tS htS hWS => ⟨congrArg (fun z => Outcome.returned (some (Value.int z))) (by unfold z_v; rw [if_neg (z_nle.mpr c_5), if_neg c_18] : (0 : Int32) = z_v lo up tp u), htS⟩) (fun _ h => nomatch h) dX0_valueOf_22
  · refine lv_aload_n hx hb dX0_valueOf_8 rfl (lv_at hl 0 rfl) ?_
    refine va_get (D := (dC, dI)) (ci := 0) (v := .int tp) (C := RX0) (T := TX0) (N := 4) hx hb hts (by decide +kernel) hown hK hP 0 rfl rfl 3 (by decide) (hts (.fieldLink RX0 24 "CapacityRound$Demand" "topPrice" "I") (by decide +kernel)) (fun _ h9 => h9) rfl dX0_valueOf_9 ?_
    exact W.iret (v := tp) hx hb hr (fun tS htS hWS => ⟨congrArg (fun z => Outcome.returned (some (Value.int z))) (by unfold z_v; rw [if_pos (z_nlt.mp c_5)] : (tp : Int32) = z_v lo up tp u), htS⟩) (fun _ h => nomatch h) dX0_valueOf_12
set_option maxHeartbeats 4000000 in
set_option maxRecDepth 100000 in
theorem c_X0_worthOf (l : Launch) (dC : Nat → ClassId) (dI : Nat → Nat → Nat) (cI cZ cJ : ClassId) (ad aw : Nat) (lo up tp : Int32) (fW : Nat → Int32) (a : Int32)  : Met l yX0_worthOf wsX0_worthOf ({ frames := 1, cells := 0, slots := 0, locals := 23 }) (va_Pc [.ref ad, .int a] (q_R (dC, dI) vwCl (q_T cI cZ cJ) [(ad, .inr (0, [.ref aw, .int lo, .int up, .int tp])), (aw, .inl (cI, 1002, .inl fW))])) (QcRead (fW (z_wi a))) 0 0 (fun _ => False) := by
  refine Met.ofW (cc := cX0_worthOf) (maxL := 2) (ret := (some .int)) (by decide) rfl ?_
  intro p e s m args below meth c s₁ B hml hv
  obtain ⟨rfl, hP, hK⟩ := hv
  have hx := B.exec
  have hb := B.bytes
  have hr := B.returns
  have hts := atoms_spec (ws := wsX0_worthOf) B.pre
  have hown : s.vm.findClass RX0 = some m.cls := findClass_of_methodNamed B.named
  have hlocks := B.notSynchronized
  have hP : va_P (dC, dI) vwCl [(ad, .inr (0, [.ref aw, .int lo, .int up, .int tp])), (aw, .inl (cI, 1002, .inl fW))] s.heap := hP
  have hl := lv_entry ([.ref ad, .int a]) (n := 2) (Nat.le_of_ble_eq_true rfl)
  rw [lg_entry_eq]
  generalize (lg_sl ([.ref ad, .int a]) ++ List.replicate (2 - (lg_sl ([.ref ad, .int a])).length) Slot.unset).toArray = ls at hl ⊢
  have hl : lv_has ls 2 [(0, .ref ad), (1, .int a)] := hl
  refine lv_aload_n hx hb dX0_worthOf_0 rfl (lv_at hl 0 rfl) ?_
  refine va_get (D := (dC, dI)) (ci := 0) (v := .ref aw) (C := RX0) (T := TX0) (N := 4) hx hb hts (by decide +kernel) hown hK hP 0 rfl rfl 0 (by decide) (hts (.fieldLink RX0 9 "CapacityRound$Demand" "worths" "[I") (by decide +kernel)) (fun _ h9 => h9) rfl dX0_worthOf_1 ?_
  refine lv_iconst (v := 0) hx hb dX0_worthOf_4 (by decide) ?_
  refine lv_iload_n hx hb dX0_worthOf_5 rfl (lv_at hl 1 rfl) ?_
  refine lv_sipush (v := 1001) hx hb dX0_worthOf_6 (by decide) ?_
  refine va_mmin hx hb (by rw [hml]; exact hl.1.symm) hown (hts (.methodLink RX0 31 Lib.Math.min.name) (by decide +kernel)) (hts (.static Lib.Math.min.name) (by decide +kernel)) (hts (.initialized "java/lang/Math") (by decide +kernel)) (hts (.code Lib.Math.min.name Lib.Math.min.code 2 (some .int)) (by decide +kernel)) (Nat.le_of_ble_eq_true rfl) (Nat.le_of_ble_eq_true rfl) (Nat.zero_le _) (Nat.zero_le _) dX0_worthOf_9 ?_
  refine va_mmax hx hb (by rw [hml]; exact hl.1.symm) hown (hts (.methodLink RX0 37 Lib.Math.max.name) (by decide +kernel)) (hts (.static Lib.Math.max.name) (by decide +kernel)) (hts (.initialized "java/lang/Math") (by decide +kernel)) (hts (.code Lib.Math.max.name Lib.Math.max.code 2 (some .int)) (by decide +kernel)) (Nat.le_of_ble_eq_true rfl) (Nat.le_of_ble_eq_true rfl) (Nat.zero_le _) (Nat.zero_le _) dX0_worthOf_12 ?_
  refine q_iald hx hb hK hP 1 0 rfl rfl (z_wi a) (z_wix a) (z_wil a) (by decide) dX0_worthOf_15 ?_
  exact W.iret (v := fW (z_wi a)) hx hb hr (fun tS htS hWS => ⟨congrArg (fun z => Outcome.returned (some (Value.int z))) (rfl : (fW (z_wi a) : Int32) = fW (z_wi a)), htS⟩) (fun _ h => nomatch h) dX0_worthOf_16
