set_option maxHeartbeats 4000000 in
set_option maxRecDepth 100000 in
theorem c_X3_lackOf (l : Launch) (dC : Nat → ClassId) (dI : Nat → Nat → Nat) (cI cZ cJ : ClassId) (bm bP bA bE bT bB bN bY bU bS : Nat) (lo up tp tr ra ca tw : Int32) (n : Nat) (fP fA fE fT fB fN fY fU fS : Nat → Int32) (pa y0 : Int32) (pn y : Nat) (hp : pa = nI pn) (hp5 : pn < 5) (hy : y0 = nI y) (hy8 : y < 8) : Met l yX3_lackOf wsX3_lackOf ({ frames := 1, cells := 0, slots := 0, locals := 22 }) (va_Pc [.ref bm, .int pa, .int y0] (q_R (dC, dI) vwCl (q_T cI cZ cJ) [(bm, .inr (3, [.int lo, .int up, .int tp, .ref bP, .ref bA, .ref bE, .ref bT, .int (nI n), .ref bB, .ref bN, .ref bY, .ref bU, .ref bS, .int tr, .int ra, .int ca, .int tw])), (bP, .inl (cI, 12, .inl fP)), (bA, .inl (cI, 12, .inl fA)), (bE, .inl (cI, 12, .inl fE)), (bT, .inl (cI, 12, .inl fT)), (bB, .inl (cI, 8, .inl fB)), (bN, .inl (cI, 40, .inl fN)), (bY, .inl (cI, 480, .inl fY)), (bU, .inl (cI, 480, .inl fU)), (bS, .inl (cZ, 96, .inl fS))])) (QcRead (z_lk fY fU fS pn y 12)) 0 0 (fun _ => False) := by
  refine Met.ofW (cc := cX3_lackOf) (maxL := 6) (ret := (some .int)) (by decide) rfl ?_
  intro p e s m args below meth c s₁ B hml hv
  obtain ⟨rfl, hP, hK⟩ := hv
  have hx := B.exec
  have hb := B.bytes
  have hr := B.returns
  have hts := atoms_spec (ws := wsX3_lackOf) B.pre
  have hown : s.vm.findClass RX3 = some m.cls := findClass_of_methodNamed B.named
  have hlocks := B.notSynchronized
  have hP : va_P (dC, dI) vwCl [(bm, .inr (3, [.int lo, .int up, .int tp, .ref bP, .ref bA, .ref bE, .ref bT, .int (nI n), .ref bB, .ref bN, .ref bY, .ref bU, .ref bS, .int tr, .int ra, .int ca, .int tw])), (bP, .inl (cI, 12, .inl fP)), (bA, .inl (cI, 12, .inl fA)), (bE, .inl (cI, 12, .inl fE)), (bT, .inl (cI, 12, .inl fT)), (bB, .inl (cI, 8, .inl fB)), (bN, .inl (cI, 40, .inl fN)), (bY, .inl (cI, 480, .inl fY)), (bU, .inl (cI, 480, .inl fU)), (bS, .inl (cZ, 96, .inl fS))] s.heap := hP
  have hl := lv_entry ([.ref bm, .int pa, .int y0]) (n := 6) (Nat.le_of_ble_eq_true rfl)
  rw [lg_entry_eq]
  generalize (lg_sl ([.ref bm, .int pa, .int y0]) ++ List.replicate (6 - (lg_sl ([.ref bm, .int pa, .int y0])).length) Slot.unset).toArray = ls at hl ⊢
  have hl : lv_has ls 6 [(0, .ref bm), (1, .int pa), (2, .int y0)] := hl
  refine lv_iconst (v := 0) hx hb dX3_lackOf_0 (by decide) ?_
  refine lv_istore_n (lv' := [(3, .int 0), (0, .ref bm), (1, .int pa), (2, .int y0)]) hx hb dX3_lackOf_1 rfl hl (by decide) rfl (fun ls hl => ?_)
  refine lv_iconst (v := 0) hx hb dX3_lackOf_2 (by decide) ?_
  refine lv_istore (lv' := [(4, .int 0), (3, .int 0), (0, .ref bm), (1, .int pa), (2, .int y0)]) hx hb dX3_lackOf_3 hl (by decide) rfl (fun ls hl => ?_)
  have lp_5 : ∀ (wh h : Nat) (x3 : Int32) (x4 : Int32), h ≤ 12 → 12 < h + wh → x3 = z_lk fY fU fS pn y h → x4 = nI h → ∀ (ls : Array Slot), lv_has ls 6 [(3, .int x3), (4, .int x4), (0, .ref bm), (1, .int pa), (2, .int y0)] → W p l e (headSpec wsX3_lackOf ({ frames := 1, cells := 0, slots := 0, locals := 22 })).room s m [.ref bm, .int pa, .int y0].toArray below meth c s.heap [] 0 0 (MQ below (QcRead (z_lk fY fU fS pn y 12)) [.ref bm, .int pa, .int y0].toArray s 0 0 (fun _ => False)) (F0 m 5 ls []) := by
    intro wh
    induction wh with
    | zero => intro h x3 x4 hk_h hw_h; exact absurd hw_h (by omega)
    | succ wh ih_h =>
      intro h x3 x4 hk_h hw_h ex3 ex4   ls hl
      refine lv_iload hx hb dX3_lackOf_5 (lv_at hl 1 rfl) ?_
      refine lv_bipush (v := 12) hx hb dX3_lackOf_7 (by decide) ?_
      refine lv_icmp_ge (tgt := 64) hx hb dX3_lackOf_9 (by decide) (fun c_9 => ?_) (fun c_9 => ?_)
      · have hh : h = 12 := q_ex ex4 hk_h (by omega) c_9
        refine lv_iload_n hx hb dX3_lackOf_64 rfl (lv_at hl 0 rfl) ?_
        exact W.iret (v := x3) hx hb hr (fun tS htS hWS => ⟨congrArg (fun z => Outcome.returned (some (Value.int z))) (ex3.trans (by rw [hh]) : (x3 : Int32) = z_lk fY fU fS pn y 12), htS⟩) (fun _ h => nomatch h) dX3_lackOf_65
      · have hh : h < 12 := q_lt ex4 hk_h (by omega) c_9
        refine lv_iload_n hx hb dX3_lackOf_12 rfl (lv_at hl 3 rfl) ?_
        refine lv_iload_n hx hb dX3_lackOf_13 rfl (lv_at hl 4 rfl) ?_
        refine lv_iload hx hb dX3_lackOf_14 (lv_at hl 1 rfl) ?_
        refine q_rS (wc := []) (r := ((pa * 8 + y0) * 12 + x4)) (As := [.int pa, .int y0, .int x4]) (rest := []) ⟨hx, hb, hml, hown, hts⟩ (c_X3_place l dC dI cI cZ cJ pa y0 x4) (va_cwS 3 hts gX3_lackOf_X3_place rfl rfl rfl (by decide +kernel) ⟨Nat.le_of_ble_eq_true rfl, Nat.le_of_ble_eq_true rfl⟩) hK (hP.sub [] rfl) rfl hl.1 rfl (Nat.le_of_ble_eq_true rfl) dX3_lackOf_16 ⟨Nat.zero_le _, Nat.zero_le _⟩ ?_
        refine lv_istore (lv' := [(5, .int ((pa * 8 + y0) * 12 + x4)), (3, .int x3), (4, .int x4), (0, .ref bm), (1, .int pa), (2, .int y0)]) hx hb dX3_lackOf_19 hl (by decide) rfl (fun ls hl => ?_)
        refine lv_iload_n hx hb dX3_lackOf_21 rfl (lv_at hl 1 rfl) ?_
        have jn_56 : ∀ (v56 : Int32), v56 = (if fS (y * 12 + h) = 0 then 0 else fY ((pn * 8 + y) * 12 + h) - fU ((pn * 8 + y) * 12 + h)) → ∀ (ls : Array Slot), lv_has ls 6 [(5, .int ((pa * 8 + y0) * 12 + x4)), (3, .int x3), (4, .int x4), (0, .ref bm), (1, .int pa), (2, .int y0)] → W p l e (headSpec wsX3_lackOf ({ frames := 1, cells := 0, slots := 0, locals := 22 })).room s m [.ref bm, .int pa, .int y0].toArray below meth c s.heap [] 0 0 (MQ below (QcRead (z_lk fY fU fS pn y 12)) [.ref bm, .int pa, .int y0].toArray s 0 0 (fun _ => False)) (F0 m 56 ls [.int v56, .int x3]) := by
          intro v56 ev56  ls hl
          subst ev56
          refine lv_iadd hx hb dX3_lackOf_56 ?_
          refine lv_istore_n (lv' := [(3, .int (x3 + (if fS (y * 12 + h) = 0 then 0 else fY ((pn * 8 + y) * 12 + h) - fU ((pn * 8 + y) * 12 + h)))), (5, .int ((pa * 8 + y0) * 12 + x4)), (4, .int x4), (0, .ref bm), (1, .int pa), (2, .int y0)]) hx hb dX3_lackOf_57 rfl hl (by decide) rfl (fun ls hl => ?_)
          refine lv_iinc (v := x4 + 1) (lv' := [(4, .int (x4 + 1)), (3, .int (x3 + (if fS (y * 12 + h) = 0 then 0 else fY ((pn * 8 + y) * 12 + h) - fU ((pn * 8 + y) * 12 + h)))), (5, .int ((pa * 8 + y0) * 12 + x4)), (0, .ref bm), (1, .int pa), (2, .int y0)]) hx hb dX3_lackOf_58 hl (k := 2) rfl rfl (by decide) rfl (fun ls hl => ?_)
          refine lv_goto (tgt := 5) hx hb dX3_lackOf_61 (by decide) ?_
          exact ih_h (h + 1) (x3 + (if fS (y * 12 + h) = 0 then 0 else fY ((pn * 8 + y) * 12 + h) - fU ((pn * 8 + y) * 12 + h))) (x4 + 1) (by omega) (by omega) (by rw [ex3]; rfl) (q_s1 ex4)   ls (lv_sub hl [1, 0, 3, 4, 5] rfl)
        refine lv_aload_n hx hb dX3_lackOf_22 rfl (lv_at hl 3 rfl) ?_
        refine va_get (D := (dC, dI)) (ci := 3) (v := .ref bS) (C := RX3) (T := TX3) (N := 17) hx hb hts (by decide +kernel) hown hK hP 0 rfl rfl 12 (by decide) (hts (.fieldLink RX3 44 "CapacityRoundModel" "isStress" "[Z") (by decide +kernel)) (fun _ h9 => h9) rfl dX3_lackOf_23 ?_
        refine lv_iload_n hx hb dX3_lackOf_26 rfl (lv_at hl 5 rfl) ?_
        refine lv_bipush (v := 12) hx hb dX3_lackOf_27 (by decide) ?_
        refine lv_imul hx hb dX3_lackOf_29 ?_
        refine lv_iload hx hb dX3_lackOf_30 (lv_at hl 2 rfl) ?_
        refine lv_iadd hx hb dX3_lackOf_32 ?_
        refine q_zald hx hb hK hP 9 1 rfl rfl (y * 12 + h) (z_yh hy ex4) (by omega) (by decide) dX3_lackOf_33 ?_
        refine lv_if_eq (tgt := 55) hx hb dX3_lackOf_34 (by decide) (fun c_34 => ?_) (fun c_34 => ?_)
        · have hv : 0 = (if fS (y * 12 + h) = 0 then 0 else fY ((pn * 8 + y) * 12 + h) - fU ((pn * 8 + y) * 12 + h)) := by rw [if_pos c_34]
          refine lv_iconst (v := 0) hx hb dX3_lackOf_55 (by decide) ?_
          exact jn_56 0 (hv)  ls (lv_sub hl [0, 1, 2, 3, 4, 5] rfl)
        · have hv : fY ((pn * 8 + y) * 12 + h) - fU ((pn * 8 + y) * 12 + h) = (if fS (y * 12 + h) = 0 then 0 else fY ((pn * 8 + y) * 12 + h) - fU ((pn * 8 + y) * 12 + h)) := by rw [if_neg c_34]
          refine lv_aload_n hx hb dX3_lackOf_37 rfl (lv_at hl 3 rfl) ?_
          refine va_get (D := (dC, dI)) (ci := 3) (v := .ref bY) (C := RX3) (T := TX3) (N := 17) hx hb hts (by decide +kernel) hown hK hP 0 rfl rfl 10 (by decide) (hts (.fieldLink RX3 38 "CapacityRoundModel" "obligation" "[I") (by decide +kernel)) (fun _ h9 => h9) rfl dX3_lackOf_38 ?_
          refine lv_iload hx hb dX3_lackOf_41 (lv_at hl 0 rfl) ?_
          refine q_iald hx hb hK hP 7 0 rfl rfl ((pn * 8 + y) * 12 + h) (z_hc hp hy ex4) (by omega) (by decide) dX3_lackOf_43 ?_
          refine lv_aload_n hx hb dX3_lackOf_44 rfl (lv_at hl 3 rfl) ?_
          refine va_get (D := (dC, dI)) (ci := 3) (v := .ref bU) (C := RX3) (T := TX3) (N := 17) hx hb hts (by decide +kernel) hown hK hP 0 rfl rfl 11 (by decide) (hts (.fieldLink RX3 41 "CapacityRoundModel" "output" "[I") (by decide +kernel)) (fun _ h9 => h9) rfl dX3_lackOf_45 ?_
          refine lv_iload hx hb dX3_lackOf_48 (lv_at hl 0 rfl) ?_
          refine q_iald hx hb hK hP 8 0 rfl rfl ((pn * 8 + y) * 12 + h) (z_hc hp hy ex4) (by omega) (by decide) dX3_lackOf_50 ?_
          refine lv_isub hx hb dX3_lackOf_51 ?_
          refine lv_goto (tgt := 56) hx hb dX3_lackOf_52 (by decide) ?_
          exact jn_56 ((fY ((pn * 8 + y) * 12 + h)) - (fU ((pn * 8 + y) * 12 + h))) (hv)  ls (lv_sub hl [0, 1, 2, 3, 4, 5] rfl)
  exact lp_5 (12 + 1) 0 0 0 (by omega) (by omega) (rfl) (rfl)   ls (lv_sub hl [1, 0, 2, 3, 4] rfl)
set_option maxHeartbeats 4000000 in
set_option maxRecDepth 100000 in
theorem c_X3_penaltyOf (l : Launch) (dC : Nat → ClassId) (dI : Nat → Nat → Nat) (cI cZ cJ : ClassId) (bm bP bA bE bT bB bN bY bU bS : Nat) (lo up tp tr ra ca tw : Int32) (n : Nat) (fP fA fE fT fB fN fY fU fS : Nat → Int32) (pa y0 : Int32) (pn y : Nat) (hp : pa = nI pn) (hp5 : pn < 5) (hy : y0 = nI y) (hy8 : y < 8) : Met l yX3_penaltyOf wsX3_penaltyOf ({ frames := 2, cells := 0, slots := 0, locals := 47 }) (va_Pc [.ref bm, .int pa, .int y0] (q_R (dC, dI) vwCl (q_T cI cZ cJ) [(bm, .inr (3, [.int lo, .int up, .int tp, .ref bP, .ref bA, .ref bE, .ref bT, .int (nI n), .ref bB, .ref bN, .ref bY, .ref bU, .ref bS, .int tr, .int ra, .int ca, .int tw])), (bP, .inl (cI, 12, .inl fP)), (bA, .inl (cI, 12, .inl fA)), (bE, .inl (cI, 12, .inl fE)), (bT, .inl (cI, 12, .inl fT)), (bB, .inl (cI, 8, .inl fB)), (bN, .inl (cI, 40, .inl fN)), (bY, .inl (cI, 480, .inl fY)), (bU, .inl (cI, 480, .inl fU)), (bS, .inl (cZ, 96, .inl fS))])) (q_RL (z_pp (z_lk fY fU fS pn y 12) ra (fN (pn * 8 + y)) ca)) 0 0 (fun _ => False) := by
  refine Met.ofW (cc := cX3_penaltyOf) (maxL := 7) (ret := (some .long)) (by decide) rfl ?_
  intro p e s m args below meth c s₁ B hml hv
  obtain ⟨rfl, hP, hK⟩ := hv
  have hx := B.exec
  have hb := B.bytes
  have hr := B.returns
  have hts := atoms_spec (ws := wsX3_penaltyOf) B.pre
  have hown : s.vm.findClass RX3 = some m.cls := findClass_of_methodNamed B.named
  have hlocks := B.notSynchronized
  have hP : va_P (dC, dI) vwCl [(bm, .inr (3, [.int lo, .int up, .int tp, .ref bP, .ref bA, .ref bE, .ref bT, .int (nI n), .ref bB, .ref bN, .ref bY, .ref bU, .ref bS, .int tr, .int ra, .int ca, .int tw])), (bP, .inl (cI, 12, .inl fP)), (bA, .inl (cI, 12, .inl fA)), (bE, .inl (cI, 12, .inl fE)), (bT, .inl (cI, 12, .inl fT)), (bB, .inl (cI, 8, .inl fB)), (bN, .inl (cI, 40, .inl fN)), (bY, .inl (cI, 480, .inl fY)), (bU, .inl (cI, 480, .inl fU)), (bS, .inl (cZ, 96, .inl fS))] s.heap := hP
  have hl := lv_entry ([.ref bm, .int pa, .int y0]) (n := 7) (Nat.le_of_ble_eq_true rfl)
  rw [lg_entry_eq]
  generalize (lg_sl ([.ref bm, .int pa, .int y0]) ++ List.replicate (7 - (lg_sl ([.ref bm, .int pa, .int y0])).length) Slot.unset).toArray = ls at hl ⊢
  have hl : lv_has ls 7 [(0, .ref bm), (1, .int pa), (2, .int y0)] := hl
  refine lv_aload_n hx hb dX3_penaltyOf_0 rfl (lv_at hl 0 rfl) ?_
  refine lv_iload_n hx hb dX3_penaltyOf_1 rfl (lv_at hl 1 rfl) ?_
  refine lv_iload_n hx hb dX3_penaltyOf_2 rfl (lv_at hl 2 rfl) ?_
  refine q_rV (wc := [(bm, .inr (3, [.int lo, .int up, .int tp, .ref bP, .ref bA, .ref bE, .ref bT, .int (nI n), .ref bB, .ref bN, .ref bY, .ref bU, .ref bS, .int tr, .int ra, .int ca, .int tw])), (bP, .inl (cI, 12, .inl fP)), (bA, .inl (cI, 12, .inl fA)), (bE, .inl (cI, 12, .inl fE)), (bT, .inl (cI, 12, .inl fT)), (bB, .inl (cI, 8, .inl fB)), (bN, .inl (cI, 40, .inl fN)), (bY, .inl (cI, 480, .inl fY)), (bU, .inl (cI, 480, .inl fU)), (bS, .inl (cZ, 96, .inl fS))]) (r := (z_lk fY fU fS pn y 12)) (As := [.int pa, .int y0]) (rest := []) ⟨hx, hb, hml, hown, hts⟩ (c_X3_lackOf l dC dI cI cZ cJ bm bP bA bE bT bB bN bY bU bS lo up tp tr ra ca tw n fP fA fE fT fB fN fY fU fS pa y0 pn y hp hp5 hy hy8) (cwV 2 hts gX3_penaltyOf_X3_lackOf rfl rfl rfl (by decide +kernel) ⟨Nat.le_of_ble_eq_true rfl, Nat.le_of_ble_eq_true rfl⟩) hK (hP.sub [0, 1, 2, 3, 4, 5, 6, 7, 8, 9] rfl) 3 0 rfl rfl rfl rfl hl.1 rfl (Nat.le_of_ble_eq_true rfl) dX3_penaltyOf_3 ⟨Nat.zero_le _, Nat.zero_le _⟩ ?_
  refine lv_i2l hx hb dX3_penaltyOf_6 rfl ?_
  refine lv_aload_n hx hb dX3_penaltyOf_7 rfl (lv_at hl 0 rfl) ?_
  refine va_get (D := (dC, dI)) (ci := 3) (v := .int ra) (C := RX3) (T := TX3) (N := 17) hx hb hts (by decide +kernel) hown hK hP 0 rfl rfl 14 (by decide) (hts (.fieldLink RX3 48 "CapacityRoundModel" "rate" "I") (by decide +kernel)) (fun _ h9 => h9) rfl dX3_penaltyOf_8 ?_
  refine lv_i2l hx hb dX3_penaltyOf_11 rfl ?_
  refine lv_lmul hx hb dX3_penaltyOf_12 ?_
  refine lv_topl (fun v_1 ev_1 => ?_)
  obtain rfl : v_1 = z_pd (z_lk fY fU fS pn y 12) ra := ev_1.trans (rfl)
  refine lv_lstore_n (lv' := [(3, .long (z_pd (z_lk fY fU fS pn y 12) ra)), (0, .ref bm), (1, .int pa), (2, .int y0)]) hx hb dX3_penaltyOf_13 rfl hl (by decide) rfl (fun ls hl => ?_)
  refine lv_aload_n hx hb dX3_penaltyOf_14 rfl (lv_at hl 1 rfl) ?_
  refine va_get (D := (dC, dI)) (ci := 3) (v := .ref bN) (C := RX3) (T := TX3) (N := 17) hx hb hts (by decide +kernel) hown hK hP 0 rfl rfl 9 (by decide) (hts (.fieldLink RX3 35 "CapacityRoundModel" "income" "[I") (by decide +kernel)) (fun _ h9 => h9) rfl dX3_penaltyOf_15 ?_
  refine lv_iload_n hx hb dX3_penaltyOf_18 rfl (lv_at hl 2 rfl) ?_
  refine lv_bipush (v := 8) hx hb dX3_penaltyOf_19 (by decide) ?_
  refine lv_imul hx hb dX3_penaltyOf_21 ?_
  refine lv_iload_n hx hb dX3_penaltyOf_22 rfl (lv_at hl 3 rfl) ?_
  refine lv_iadd hx hb dX3_penaltyOf_23 ?_
  refine q_iald hx hb hK hP 6 0 rfl rfl (pn * 8 + y) (z_yc hp hy) (by omega) (by decide) dX3_penaltyOf_24 ?_
  refine lv_i2l hx hb dX3_penaltyOf_25 rfl ?_
  refine lv_aload_n hx hb dX3_penaltyOf_26 rfl (lv_at hl 1 rfl) ?_
  refine va_get (D := (dC, dI)) (ci := 3) (v := .int ca) (C := RX3) (T := TX3) (N := 17) hx hb hts (by decide +kernel) hown hK hP 0 rfl rfl 15 (by decide) (hts (.fieldLink RX3 51 "CapacityRoundModel" "cap" "I") (by decide +kernel)) (fun _ h9 => h9) rfl dX3_penaltyOf_27 ?_
  refine lv_i2l hx hb dX3_penaltyOf_30 rfl ?_
  refine lv_lmul hx hb dX3_penaltyOf_31 ?_
  refine lv_ldc2 (v := 100) hx hb hown (hts (.constantLong RX3 112 (100)) (by decide +kernel)) dX3_penaltyOf_32 ?_
  refine lv_ldiv hx hb dX3_penaltyOf_35 (by decide) ?_
  refine lv_topl (fun v_2 ev_2 => ?_)
  obtain rfl : v_2 = z_pm (fN (pn * 8 + y)) ca := ev_2.trans (rfl)
  refine lv_lstore (lv' := [(5, .long (z_pm (fN (pn * 8 + y)) ca)), (3, .long (z_pd (z_lk fY fU fS pn y 12) ra)), (0, .ref bm), (1, .int pa), (2, .int y0)]) hx hb dX3_penaltyOf_36 hl (by decide) rfl (fun ls hl => ?_)
  refine lv_lload_n hx hb dX3_penaltyOf_38 rfl (lv_at hl 1 rfl) ?_
  refine lv_lconst (v := 0) hx hb dX3_penaltyOf_39 (by decide) ?_
  refine W.lcmp hx hb dX3_penaltyOf_40 ?_
  refine lv_if_ge (tgt := 48) hx hb dX3_penaltyOf_41 (by decide) (fun c_41 => ?_) (fun c_41 => ?_)
  · have h41 := z_lge.mp c_41
    refine lv_lload_n hx hb dX3_penaltyOf_48 rfl (lv_at hl 1 rfl) ?_
    refine lv_lload hx hb dX3_penaltyOf_49 (lv_at hl 0 rfl) ?_
    refine W.lcmp hx hb dX3_penaltyOf_51 ?_
    refine lv_if_ge (tgt := 59) hx hb dX3_penaltyOf_52 (by decide) (fun c_52 => ?_) (fun c_52 => ?_)
    · have hv : z_pm (fN (pn * 8 + y)) ca = z_pp (z_lk fY fU fS pn y 12) ra (fN (pn * 8 + y)) ca := by unfold z_pp; rw [if_neg h41, if_neg (z_lge.mp c_52)]
      refine lv_lload hx hb dX3_penaltyOf_59 (lv_at hl 0 rfl) ?_
      exact W.lret (v := z_pm (fN (pn * 8 + y)) ca) hx hb hr (fun tS htS hWS => ⟨congrArg (fun z => Outcome.returned (some (Value.long z))) (hv : (z_pm (fN (pn * 8 + y)) ca : Int64) = z_pp (z_lk fY fU fS pn y 12) ra (fN (pn * 8 + y)) ca), htS⟩) (fun _ h => nomatch h) dX3_penaltyOf_61
    · have hv : z_pd (z_lk fY fU fS pn y 12) ra = z_pp (z_lk fY fU fS pn y 12) ra (fN (pn * 8 + y)) ca := by unfold z_pp; rw [if_neg h41, if_pos (Classical.not_not.mp (fun q => c_52 (z_lge.mpr q)))]
      refine lv_lload_n hx hb dX3_penaltyOf_55 rfl (lv_at hl 1 rfl) ?_
      refine lv_goto (tgt := 61) hx hb dX3_penaltyOf_56 (by decide) ?_
      exact W.lret (v := z_pd (z_lk fY fU fS pn y 12) ra) hx hb hr (fun tS htS hWS => ⟨congrArg (fun z => Outcome.returned (some (Value.long z))) (hv : (z_pd (z_lk fY fU fS pn y 12) ra : Int64) = z_pp (z_lk fY fU fS pn y 12) ra (fN (pn * 8 + y)) ca), htS⟩) (fun _ h => nomatch h) dX3_penaltyOf_61
  · have hv : 0 = z_pp (z_lk fY fU fS pn y 12) ra (fN (pn * 8 + y)) ca := by unfold z_pp; rw [if_pos (Classical.not_not.mp (fun q => c_41 (z_lge.mpr q)))]
    refine lv_lconst (v := 0) hx hb dX3_penaltyOf_44 (by decide) ?_
    refine lv_goto (tgt := 61) hx hb dX3_penaltyOf_45 (by decide) ?_
    exact W.lret (v := 0) hx hb hr (fun tS htS hWS => ⟨congrArg (fun z => Outcome.returned (some (Value.long z))) (hv : (0 : Int64) = z_pp (z_lk fY fU fS pn y 12) ra (fN (pn * 8 + y)) ca), htS⟩) (fun _ h => nomatch h) dX3_penaltyOf_61
set_option maxHeartbeats 4000000 in
set_option maxRecDepth 100000 in
theorem c_X3_lack (l : Launch) (dC : Nat → ClassId) (dI : Nat → Nat → Nat) (cI cZ cJ : ClassId) (bm bP bA bE bT bB bN bY bU bS : Nat) (lo up tp tr ra ca tw : Int32) (n : Nat) (fP fA fE fT fB fN fY fU fS : Nat → Int32) (p0 y0 : Int32)  (hp : p0 = nI (z_n p0)) (hp5 : z_n p0 < 5) (hy : y0 = nI (z_n y0)) (hy8 : z_n y0 < 8) (hok : ((z_in p0 0 4 && z_in y0 0 7) && true && true) = true) : Met l yX3_lack wsX3_lack ({ frames := 2, cells := 0, slots := 0, locals := 47 }) (va_Pc [.ref bm, .int p0, .int y0] (q_M (dC, dI) vwCl (q_T cI cZ cJ) [(bm, .inr (3, [.int lo, .int up, .int tp, .ref bP, .ref bA, .ref bE, .ref bT, .int (nI n), .ref bB, .ref bN, .ref bY, .ref bU, .ref bS, .int tr, .int ra, .int ca, .int tw])), (bP, .inl (cI, 12, .inl fP)), (bA, .inl (cI, 12, .inl fA)), (bE, .inl (cI, 12, .inl fE)), (bT, .inl (cI, 12, .inl fT)), (bB, .inl (cI, 8, .inl fB)), (bN, .inl (cI, 40, .inl fN)), (bY, .inl (cI, 480, .inl fY)), (bU, .inl (cI, 480, .inl fU)), (bS, .inl (cZ, 96, .inl fS))])) (q_W (some (.int (z_lk fY fU fS (z_n p0) (z_n y0) 12))) (dC, dI) vwCl [(bm, .inr (3, [.int lo, .int up, .int tp, .ref bP, .ref bA, .ref bE, .ref bT, .int (nI n), .ref bB, .ref bN, .ref bY, .ref bU, .ref bS, .int tr, .int ra, .int ca, .int (z_cd (z_in p0 0 4 && z_in y0 0 7) true true)])), (bP, .inl (cI, 12, .inl fP)), (bA, .inl (cI, 12, .inl fA)), (bE, .inl (cI, 12, .inl fE)), (bT, .inl (cI, 12, .inl fT)), (bB, .inl (cI, 8, .inl fB)), (bN, .inl (cI, 40, .inl fN)), (bY, .inl (cI, 480, .inl fY)), (bU, .inl (cI, 480, .inl fU)), (bS, .inl (cZ, 96, .inl fS))] (q_B [(bm, .inr (3, [.int lo, .int up, .int tp, .ref bP, .ref bA, .ref bE, .ref bT, .int (nI n), .ref bB, .ref bN, .ref bY, .ref bU, .ref bS, .int tr, .int ra, .int ca, .int tw])), (bP, .inl (cI, 12, .inl fP)), (bA, .inl (cI, 12, .inl fA)), (bE, .inl (cI, 12, .inl fE)), (bT, .inl (cI, 12, .inl fT)), (bB, .inl (cI, 8, .inl fB)), (bN, .inl (cI, 40, .inl fN)), (bY, .inl (cI, 480, .inl fY)), (bU, .inl (cI, 480, .inl fU)), (bS, .inl (cZ, 96, .inl fS))])) 0 0 (q_B [(bm, .inr (3, [.int lo, .int up, .int tp, .ref bP, .ref bA, .ref bE, .ref bT, .int (nI n), .ref bB, .ref bN, .ref bY, .ref bU, .ref bS, .int tr, .int ra, .int ca, .int tw])), (bP, .inl (cI, 12, .inl fP)), (bA, .inl (cI, 12, .inl fA)), (bE, .inl (cI, 12, .inl fE)), (bT, .inl (cI, 12, .inl fT)), (bB, .inl (cI, 8, .inl fB)), (bN, .inl (cI, 40, .inl fN)), (bY, .inl (cI, 480, .inl fY)), (bU, .inl (cI, 480, .inl fU)), (bS, .inl (cZ, 96, .inl fS))]) := by
  refine Met.ofW (cc := cX3_lack) (maxL := 3) (ret := (some .int)) (by decide) rfl ?_
  intro p e s m args below meth c s₁ B hml hv
  obtain ⟨rfl, hP, hK, hD0⟩ := hv
  have hx := B.exec
  have hb := B.bytes
  have hr := B.returns
  have hts := atoms_spec (ws := wsX3_lack) B.pre
  have hown : s.vm.findClass RX3 = some m.cls := findClass_of_methodNamed B.named
  have hlocks := B.notSynchronized
  have hD := q_Bself hD0
  generalize hAe : q_B [(bm, .inr (3, [.int lo, .int up, .int tp, .ref bP, .ref bA, .ref bE, .ref bT, .int (nI n), .ref bB, .ref bN, .ref bY, .ref bU, .ref bS, .int tr, .int ra, .int ca, .int tw])), (bP, .inl (cI, 12, .inl fP)), (bA, .inl (cI, 12, .inl fA)), (bE, .inl (cI, 12, .inl fE)), (bT, .inl (cI, 12, .inl fT)), (bB, .inl (cI, 8, .inl fB)), (bN, .inl (cI, 40, .inl fN)), (bY, .inl (cI, 480, .inl fY)), (bU, .inl (cI, 480, .inl fU)), (bS, .inl (cZ, 96, .inl fS))] = A at hD ⊢
  have hS : va_S A s.heap s.heap [] := va_S.rf
  have hP : va_P (dC, dI) vwCl [(bm, .inr (3, [.int lo, .int up, .int tp, .ref bP, .ref bA, .ref bE, .ref bT, .int (nI n), .ref bB, .ref bN, .ref bY, .ref bU, .ref bS, .int tr, .int ra, .int ca, .int tw])), (bP, .inl (cI, 12, .inl fP)), (bA, .inl (cI, 12, .inl fA)), (bE, .inl (cI, 12, .inl fE)), (bT, .inl (cI, 12, .inl fT)), (bB, .inl (cI, 8, .inl fB)), (bN, .inl (cI, 40, .inl fN)), (bY, .inl (cI, 480, .inl fY)), (bU, .inl (cI, 480, .inl fU)), (bS, .inl (cZ, 96, .inl fS))] s.heap := hP
  have hl := lv_entry ([.ref bm, .int p0, .int y0]) (n := 3) (Nat.le_of_ble_eq_true rfl)
  rw [lg_entry_eq]
  generalize (lg_sl ([.ref bm, .int p0, .int y0]) ++ List.replicate (3 - (lg_sl ([.ref bm, .int p0, .int y0])).length) Slot.unset).toArray = ls at hl ⊢
  have hl : lv_has ls 3 [(0, .ref bm), (1, .int p0), (2, .int y0)] := hl
  refine lv_aload_n hx hb dX3_lack_0 rfl (lv_at hl 0 rfl) ?_
  have jn_20 : ∀ (v20 : Int32), v20 = z_b (z_in p0 0 4 && z_in y0 0 7) → ∀ (ls : Array Slot), lv_has ls 3 [(0, .ref bm), (1, .int p0), (2, .int y0)] → W p l e (headSpec wsX3_lack ({ frames := 2, cells := 0, slots := 0, locals := 47 })).room s m [.ref bm, .int p0, .int y0].toArray below meth c s.heap [] 0 0 (MQ below (q_W (some (.int (z_lk fY fU fS (z_n p0) (z_n y0) 12))) (dC, dI) vwCl [(bm, .inr (3, [.int lo, .int up, .int tp, .ref bP, .ref bA, .ref bE, .ref bT, .int (nI n), .ref bB, .ref bN, .ref bY, .ref bU, .ref bS, .int tr, .int ra, .int ca, .int (z_cd (z_in p0 0 4 && z_in y0 0 7) true true)])), (bP, .inl (cI, 12, .inl fP)), (bA, .inl (cI, 12, .inl fA)), (bE, .inl (cI, 12, .inl fE)), (bT, .inl (cI, 12, .inl fT)), (bB, .inl (cI, 8, .inl fB)), (bN, .inl (cI, 40, .inl fN)), (bY, .inl (cI, 480, .inl fY)), (bU, .inl (cI, 480, .inl fU)), (bS, .inl (cZ, 96, .inl fS))] A) [.ref bm, .int p0, .int y0].toArray s 0 0 A) (F0 m 20 ls [.int v20, .ref bm]) := by
    intro v20 ev20  ls hl
    subst ev20
    refine lv_iconst (v := 1) hx hb dX3_lack_20 (by decide) ?_
    refine lv_iconst (v := 1) hx hb dX3_lack_21 (by decide) ?_
    refine q_wV (ws := [(bm, .inr (3, [.int lo, .int up, .int tp, .ref bP, .ref bA, .ref bE, .ref bT, .int (nI n), .ref bB, .ref bN, .ref bY, .ref bU, .ref bS, .int tr, .int ra, .int ca, .int tw])), (bP, .inl (cI, 12, .inl fP)), (bA, .inl (cI, 12, .inl fA)), (bE, .inl (cI, 12, .inl fE)), (bT, .inl (cI, 12, .inl fT)), (bB, .inl (cI, 8, .inl fB)), (bN, .inl (cI, 40, .inl fN)), (bY, .inl (cI, 480, .inl fY)), (bU, .inl (cI, 480, .inl fU)), (bS, .inl (cZ, 96, .inl fS))]) (wc := [(bm, .inr (3, [.int lo, .int up, .int tp, .ref bP, .ref bA, .ref bE, .ref bT, .int (nI n), .ref bB, .ref bN, .ref bY, .ref bU, .ref bS, .int tr, .int ra, .int ca, .int tw]))]) (wc' := [(bm, .inr (3, [.int lo, .int up, .int tp, .ref bP, .ref bA, .ref bE, .ref bT, .int (nI n), .ref bB, .ref bN, .ref bY, .ref bU, .ref bS, .int tr, .int ra, .int ca, .int (z_cd (z_in p0 0 4 && z_in y0 0 7) true true)]))]) (ws' := [(bm, .inr (3, [.int lo, .int up, .int tp, .ref bP, .ref bA, .ref bE, .ref bT, .int (nI n), .ref bB, .ref bN, .ref bY, .ref bU, .ref bS, .int tr, .int ra, .int ca, .int (z_cd (z_in p0 0 4 && z_in y0 0 7) true true)])), (bP, .inl (cI, 12, .inl fP)), (bA, .inl (cI, 12, .inl fA)), (bE, .inl (cI, 12, .inl fE)), (bT, .inl (cI, 12, .inl fT)), (bB, .inl (cI, 8, .inl fB)), (bN, .inl (cI, 40, .inl fN)), (bY, .inl (cI, 480, .inl fY)), (bU, .inl (cI, 480, .inl fU)), (bS, .inl (cZ, 96, .inl fS))]) (v := (some (.int (z_b ((z_in p0 0 4 && z_in y0 0 7) && true && true))))) (As := [.int (z_b (z_in p0 0 4 && z_in y0 0 7)), .int 1, .int 1]) (rest := []) ⟨hx, hb, hml, hown, hts⟩ (c_X3_goes l dC dI cI cZ cJ bm bP bA bE bT bB bN bY bU bS lo up tp tr ra ca tw n (z_in p0 0 4 && z_in y0 0 7) true true) (cwV 3 hts gX3_lack_X3_goes rfl rfl rfl (by decide +kernel) ⟨Nat.le_of_ble_eq_true rfl, Nat.le_of_ble_eq_true rfl⟩) hK hP hD hS [0] rfl (by decide) [(true, 0), (false, 1), (false, 2), (false, 3), (false, 4), (false, 5), (false, 6), (false, 7), (false, 8), (false, 9)] rfl (by decide) rfl 3 0 rfl rfl rfl rfl hl.1 rfl (Nat.le_of_ble_eq_true rfl) dX3_lack_22 ⟨Nat.zero_le _, Nat.zero_le _⟩ (fun H locs hP hD hS => ?_)
    have hP : va_P (dC, dI) vwCl [(bm, .inr (3, [.int lo, .int up, .int tp, .ref bP, .ref bA, .ref bE, .ref bT, .int (nI n), .ref bB, .ref bN, .ref bY, .ref bU, .ref bS, .int tr, .int ra, .int ca, .int (z_cd (z_in p0 0 4 && z_in y0 0 7) true true)])), (bP, .inl (cI, 12, .inl fP)), (bA, .inl (cI, 12, .inl fA)), (bE, .inl (cI, 12, .inl fE)), (bT, .inl (cI, 12, .inl fT)), (bB, .inl (cI, 8, .inl fB)), (bN, .inl (cI, 40, .inl fN)), (bY, .inl (cI, 480, .inl fY)), (bU, .inl (cI, 480, .inl fU)), (bS, .inl (cZ, 96, .inl fS))] H := hP
    have hD : va_D A [(bm, .inr (3, [.int lo, .int up, .int tp, .ref bP, .ref bA, .ref bE, .ref bT, .int (nI n), .ref bB, .ref bN, .ref bY, .ref bU, .ref bS, .int tr, .int ra, .int ca, .int (z_cd (z_in p0 0 4 && z_in y0 0 7) true true)])), (bP, .inl (cI, 12, .inl fP)), (bA, .inl (cI, 12, .inl fA)), (bE, .inl (cI, 12, .inl fE)), (bT, .inl (cI, 12, .inl fT)), (bB, .inl (cI, 8, .inl fB)), (bN, .inl (cI, 40, .inl fN)), (bY, .inl (cI, 480, .inl fY)), (bU, .inl (cI, 480, .inl fU)), (bS, .inl (cZ, 96, .inl fS))] := hD
    refine W.eq (g2 := F0 m 25 ls [.int (z_b ((z_in p0 0 4 && z_in y0 0 7) && true && true))]) rfl ?_
    refine lv_if_eq (tgt := 37) hx hb dX3_lack_25 (by decide) (fun c_25 => ?_) (fun c_25 => ?_)
    · have f_25 : ((z_in p0 0 4 && z_in y0 0 7) && true && true) = false := z_bf c_25
      exact absurd (hok.symm.trans f_25) (by decide)
    · have f_25 : ((z_in p0 0 4 && z_in y0 0 7) && true && true) = true := z_bt c_25
      have h_25 := f_25
      refine lv_aload_n hx hb dX3_lack_28 rfl (lv_at hl 0 rfl) ?_
      refine lv_iload_n hx hb dX3_lack_29 rfl (lv_at hl 1 rfl) ?_
      refine lv_iload_n hx hb dX3_lack_30 rfl (lv_at hl 2 rfl) ?_
      refine q_rV (wc := [(bm, .inr (3, [.int lo, .int up, .int tp, .ref bP, .ref bA, .ref bE, .ref bT, .int (nI n), .ref bB, .ref bN, .ref bY, .ref bU, .ref bS, .int tr, .int ra, .int ca, .int (z_cd (z_in p0 0 4 && z_in y0 0 7) true true)])), (bP, .inl (cI, 12, .inl fP)), (bA, .inl (cI, 12, .inl fA)), (bE, .inl (cI, 12, .inl fE)), (bT, .inl (cI, 12, .inl fT)), (bB, .inl (cI, 8, .inl fB)), (bN, .inl (cI, 40, .inl fN)), (bY, .inl (cI, 480, .inl fY)), (bU, .inl (cI, 480, .inl fU)), (bS, .inl (cZ, 96, .inl fS))]) (r := (z_lk fY fU fS (z_n p0) (z_n y0) 12)) (As := [.int p0, .int y0]) (rest := []) ⟨hx, hb, hml, hown, hts⟩ (c_X3_lackOf l dC dI cI cZ cJ bm bP bA bE bT bB bN bY bU bS lo up tp tr ra ca (z_cd (z_in p0 0 4 && z_in y0 0 7) true true) n fP fA fE fT fB fN fY fU fS p0 y0 (z_n p0) (z_n y0) hp hp5 hy hy8) (cwV 2 hts gX3_lack_X3_lackOf rfl rfl rfl (by decide +kernel) ⟨Nat.le_of_ble_eq_true rfl, Nat.le_of_ble_eq_true rfl⟩) hK (hP.sub [0, 1, 2, 3, 4, 5, 6, 7, 8, 9] rfl) 3 0 rfl rfl rfl rfl hl.1 rfl (Nat.le_of_ble_eq_true rfl) dX3_lack_31 ⟨Nat.zero_le _, Nat.zero_le _⟩ ?_
      refine lv_goto (tgt := 38) hx hb dX3_lack_34 (by decide) ?_
      exact W.iret (v := z_lk fY fU fS (z_n p0) (z_n y0) 12) hx hb hr (fun tS htS hWS => ⟨congrArg (fun z => Outcome.returned (some (Value.int z))) (rfl : (z_lk fY fU fS (z_n p0) (z_n y0) 12 : Int32) = z_lk fY fU fS (z_n p0) (z_n y0) 12), by rw [htS]; exact hP, hS.F htS⟩) hS.2.2 dX3_lack_38
  refine lv_iload_n hx hb dX3_lack_1 rfl (lv_at hl 1 rfl) ?_
  refine q_rS (wc := []) (r := (z_b (z_in p0 0 4))) (As := [.int p0]) (rest := [.ref bm]) ⟨hx, hb, hml, hown, hts⟩ (c_X3_isParty l dC dI cI cZ cJ p0) (va_cwS 1 hts gX3_lack_X3_isParty rfl rfl rfl (by decide +kernel) ⟨Nat.le_of_ble_eq_true rfl, Nat.le_of_ble_eq_true rfl⟩) hK (hP.sub [] rfl) rfl hl.1 rfl (Nat.le_of_ble_eq_true rfl) dX3_lack_2 ⟨Nat.zero_le _, Nat.zero_le _⟩ ?_
  refine lv_if_eq (tgt := 19) hx hb dX3_lack_5 (by decide) (fun c_5 => ?_) (fun c_5 => ?_)
  · have f_5 : (z_in p0 0 4) = false := z_bf c_5
    refine lv_iconst (v := 0) hx hb dX3_lack_19 (by decide) ?_
    exact jn_20 0 (by simp [z_b, f_5])  ls (lv_sub hl [0, 1, 2] rfl)
  · have f_5 : (z_in p0 0 4) = true := z_bt c_5
    refine lv_iload_n hx hb dX3_lack_8 rfl (lv_at hl 2 rfl) ?_
    refine q_rS (wc := []) (r := (z_b (z_in y0 0 7))) (As := [.int y0]) (rest := [.ref bm]) ⟨hx, hb, hml, hown, hts⟩ (c_X3_isYear l dC dI cI cZ cJ y0) (va_cwS 1 hts gX3_lack_X3_isYear rfl rfl rfl (by decide +kernel) ⟨Nat.le_of_ble_eq_true rfl, Nat.le_of_ble_eq_true rfl⟩) hK (hP.sub [] rfl) rfl hl.1 rfl (Nat.le_of_ble_eq_true rfl) dX3_lack_9 ⟨Nat.zero_le _, Nat.zero_le _⟩ ?_
    refine lv_if_eq (tgt := 19) hx hb dX3_lack_12 (by decide) (fun c_12 => ?_) (fun c_12 => ?_)
    · have f_12 : (z_in y0 0 7) = false := z_bf c_12
      refine lv_iconst (v := 0) hx hb dX3_lack_19 (by decide) ?_
      exact jn_20 0 (by simp [z_b, f_5, f_12])  ls (lv_sub hl [0, 1, 2] rfl)
    · have f_12 : (z_in y0 0 7) = true := z_bt c_12
      refine lv_iconst (v := 1) hx hb dX3_lack_15 (by decide) ?_
      refine lv_goto (tgt := 20) hx hb dX3_lack_16 (by decide) ?_
      exact jn_20 1 (by simp [z_b, f_5, f_12])  ls (lv_sub hl [0, 1, 2] rfl)
set_option maxHeartbeats 4000000 in
set_option maxRecDepth 100000 in
theorem n_X3_lack (l : Launch) (dC : Nat → ClassId) (dI : Nat → Nat → Nat) (cI cZ cJ : ClassId) (bm bP bA bE bT bB bN bY bU bS : Nat) (lo up tp tr ra ca tw : Int32) (n : Nat) (fP fA fE fT fB fN fY fU fS : Nat → Int32) (p0 y0 : Int32)  (hok : ((z_in p0 0 4 && z_in y0 0 7) && true && true) = false) : Met l yX3_lack wsX3_lack ({ frames := 1, cells := 0, slots := 0, locals := 23 }) (va_Pc [.ref bm, .int p0, .int y0] (q_M (dC, dI) vwCl (q_T cI cZ cJ) [(bm, .inr (3, [.int lo, .int up, .int tp, .ref bP, .ref bA, .ref bE, .ref bT, .int (nI n), .ref bB, .ref bN, .ref bY, .ref bU, .ref bS, .int tr, .int ra, .int ca, .int tw])), (bP, .inl (cI, 12, .inl fP)), (bA, .inl (cI, 12, .inl fA)), (bE, .inl (cI, 12, .inl fE)), (bT, .inl (cI, 12, .inl fT)), (bB, .inl (cI, 8, .inl fB)), (bN, .inl (cI, 40, .inl fN)), (bY, .inl (cI, 480, .inl fY)), (bU, .inl (cI, 480, .inl fU)), (bS, .inl (cZ, 96, .inl fS))])) (q_W (some (.int 0)) (dC, dI) vwCl [(bm, .inr (3, [.int lo, .int up, .int tp, .ref bP, .ref bA, .ref bE, .ref bT, .int (nI n), .ref bB, .ref bN, .ref bY, .ref bU, .ref bS, .int tr, .int ra, .int ca, .int (z_cd (z_in p0 0 4 && z_in y0 0 7) true true)])), (bP, .inl (cI, 12, .inl fP)), (bA, .inl (cI, 12, .inl fA)), (bE, .inl (cI, 12, .inl fE)), (bT, .inl (cI, 12, .inl fT)), (bB, .inl (cI, 8, .inl fB)), (bN, .inl (cI, 40, .inl fN)), (bY, .inl (cI, 480, .inl fY)), (bU, .inl (cI, 480, .inl fU)), (bS, .inl (cZ, 96, .inl fS))] (q_B [(bm, .inr (3, [.int lo, .int up, .int tp, .ref bP, .ref bA, .ref bE, .ref bT, .int (nI n), .ref bB, .ref bN, .ref bY, .ref bU, .ref bS, .int tr, .int ra, .int ca, .int tw])), (bP, .inl (cI, 12, .inl fP)), (bA, .inl (cI, 12, .inl fA)), (bE, .inl (cI, 12, .inl fE)), (bT, .inl (cI, 12, .inl fT)), (bB, .inl (cI, 8, .inl fB)), (bN, .inl (cI, 40, .inl fN)), (bY, .inl (cI, 480, .inl fY)), (bU, .inl (cI, 480, .inl fU)), (bS, .inl (cZ, 96, .inl fS))])) 0 0 (q_B [(bm, .inr (3, [.int lo, .int up, .int tp, .ref bP, .ref bA, .ref bE, .ref bT, .int (nI n), .ref bB, .ref bN, .ref bY, .ref bU, .ref bS, .int tr, .int ra, .int ca, .int tw])), (bP, .inl (cI, 12, .inl fP)), (bA, .inl (cI, 12, .inl fA)), (bE, .inl (cI, 12, .inl fE)), (bT, .inl (cI, 12, .inl fT)), (bB, .inl (cI, 8, .inl fB)), (bN, .inl (cI, 40, .inl fN)), (bY, .inl (cI, 480, .inl fY)), (bU, .inl (cI, 480, .inl fU)), (bS, .inl (cZ, 96, .inl fS))]) := by
  refine Met.ofW (cc := cX3_lack) (maxL := 3) (ret := (some .int)) (by decide) rfl ?_
  intro p e s m args below meth c s₁ B hml hv
  obtain ⟨rfl, hP, hK, hD0⟩ := hv
  have hx := B.exec
  have hb := B.bytes
  have hr := B.returns
  have hts := atoms_spec (ws := wsX3_lack) B.pre
  have hown : s.vm.findClass RX3 = some m.cls := findClass_of_methodNamed B.named
  have hlocks := B.notSynchronized
  have hD := q_Bself hD0
  generalize hAe : q_B [(bm, .inr (3, [.int lo, .int up, .int tp, .ref bP, .ref bA, .ref bE, .ref bT, .int (nI n), .ref bB, .ref bN, .ref bY, .ref bU, .ref bS, .int tr, .int ra, .int ca, .int tw])), (bP, .inl (cI, 12, .inl fP)), (bA, .inl (cI, 12, .inl fA)), (bE, .inl (cI, 12, .inl fE)), (bT, .inl (cI, 12, .inl fT)), (bB, .inl (cI, 8, .inl fB)), (bN, .inl (cI, 40, .inl fN)), (bY, .inl (cI, 480, .inl fY)), (bU, .inl (cI, 480, .inl fU)), (bS, .inl (cZ, 96, .inl fS))] = A at hD ⊢
  have hS : va_S A s.heap s.heap [] := va_S.rf
  have hP : va_P (dC, dI) vwCl [(bm, .inr (3, [.int lo, .int up, .int tp, .ref bP, .ref bA, .ref bE, .ref bT, .int (nI n), .ref bB, .ref bN, .ref bY, .ref bU, .ref bS, .int tr, .int ra, .int ca, .int tw])), (bP, .inl (cI, 12, .inl fP)), (bA, .inl (cI, 12, .inl fA)), (bE, .inl (cI, 12, .inl fE)), (bT, .inl (cI, 12, .inl fT)), (bB, .inl (cI, 8, .inl fB)), (bN, .inl (cI, 40, .inl fN)), (bY, .inl (cI, 480, .inl fY)), (bU, .inl (cI, 480, .inl fU)), (bS, .inl (cZ, 96, .inl fS))] s.heap := hP
  have hl := lv_entry ([.ref bm, .int p0, .int y0]) (n := 3) (Nat.le_of_ble_eq_true rfl)
  rw [lg_entry_eq]
  generalize (lg_sl ([.ref bm, .int p0, .int y0]) ++ List.replicate (3 - (lg_sl ([.ref bm, .int p0, .int y0])).length) Slot.unset).toArray = ls at hl ⊢
  have hl : lv_has ls 3 [(0, .ref bm), (1, .int p0), (2, .int y0)] := hl
  refine lv_aload_n hx hb dX3_lack_0 rfl (lv_at hl 0 rfl) ?_
  have jn_20 : ∀ (v20 : Int32), v20 = z_b (z_in p0 0 4 && z_in y0 0 7) → ∀ (ls : Array Slot), lv_has ls 3 [(0, .ref bm), (1, .int p0), (2, .int y0)] → W p l e (headSpec wsX3_lack ({ frames := 1, cells := 0, slots := 0, locals := 23 })).room s m [.ref bm, .int p0, .int y0].toArray below meth c s.heap [] 0 0 (MQ below (q_W (some (.int 0)) (dC, dI) vwCl [(bm, .inr (3, [.int lo, .int up, .int tp, .ref bP, .ref bA, .ref bE, .ref bT, .int (nI n), .ref bB, .ref bN, .ref bY, .ref bU, .ref bS, .int tr, .int ra, .int ca, .int (z_cd (z_in p0 0 4 && z_in y0 0 7) true true)])), (bP, .inl (cI, 12, .inl fP)), (bA, .inl (cI, 12, .inl fA)), (bE, .inl (cI, 12, .inl fE)), (bT, .inl (cI, 12, .inl fT)), (bB, .inl (cI, 8, .inl fB)), (bN, .inl (cI, 40, .inl fN)), (bY, .inl (cI, 480, .inl fY)), (bU, .inl (cI, 480, .inl fU)), (bS, .inl (cZ, 96, .inl fS))] A) [.ref bm, .int p0, .int y0].toArray s 0 0 A) (F0 m 20 ls [.int v20, .ref bm]) := by
    intro v20 ev20  ls hl
    subst ev20
    refine lv_iconst (v := 1) hx hb dX3_lack_20 (by decide) ?_
    refine lv_iconst (v := 1) hx hb dX3_lack_21 (by decide) ?_
    refine q_wV (ws := [(bm, .inr (3, [.int lo, .int up, .int tp, .ref bP, .ref bA, .ref bE, .ref bT, .int (nI n), .ref bB, .ref bN, .ref bY, .ref bU, .ref bS, .int tr, .int ra, .int ca, .int tw])), (bP, .inl (cI, 12, .inl fP)), (bA, .inl (cI, 12, .inl fA)), (bE, .inl (cI, 12, .inl fE)), (bT, .inl (cI, 12, .inl fT)), (bB, .inl (cI, 8, .inl fB)), (bN, .inl (cI, 40, .inl fN)), (bY, .inl (cI, 480, .inl fY)), (bU, .inl (cI, 480, .inl fU)), (bS, .inl (cZ, 96, .inl fS))]) (wc := [(bm, .inr (3, [.int lo, .int up, .int tp, .ref bP, .ref bA, .ref bE, .ref bT, .int (nI n), .ref bB, .ref bN, .ref bY, .ref bU, .ref bS, .int tr, .int ra, .int ca, .int tw]))]) (wc' := [(bm, .inr (3, [.int lo, .int up, .int tp, .ref bP, .ref bA, .ref bE, .ref bT, .int (nI n), .ref bB, .ref bN, .ref bY, .ref bU, .ref bS, .int tr, .int ra, .int ca, .int (z_cd (z_in p0 0 4 && z_in y0 0 7) true true)]))]) (ws' := [(bm, .inr (3, [.int lo, .int up, .int tp, .ref bP, .ref bA, .ref bE, .ref bT, .int (nI n), .ref bB, .ref bN, .ref bY, .ref bU, .ref bS, .int tr, .int ra, .int ca, .int (z_cd (z_in p0 0 4 && z_in y0 0 7) true true)])), (bP, .inl (cI, 12, .inl fP)), (bA, .inl (cI, 12, .inl fA)), (bE, .inl (cI, 12, .inl fE)), (bT, .inl (cI, 12, .inl fT)), (bB, .inl (cI, 8, .inl fB)), (bN, .inl (cI, 40, .inl fN)), (bY, .inl (cI, 480, .inl fY)), (bU, .inl (cI, 480, .inl fU)), (bS, .inl (cZ, 96, .inl fS))]) (v := (some (.int (z_b ((z_in p0 0 4 && z_in y0 0 7) && true && true))))) (As := [.int (z_b (z_in p0 0 4 && z_in y0 0 7)), .int 1, .int 1]) (rest := []) ⟨hx, hb, hml, hown, hts⟩ (c_X3_goes l dC dI cI cZ cJ bm bP bA bE bT bB bN bY bU bS lo up tp tr ra ca tw n (z_in p0 0 4 && z_in y0 0 7) true true) (cwV 3 hts gX3_lack_X3_goes rfl rfl rfl (by decide +kernel) ⟨Nat.le_of_ble_eq_true rfl, Nat.le_of_ble_eq_true rfl⟩) hK hP hD hS [0] rfl (by decide) [(true, 0), (false, 1), (false, 2), (false, 3), (false, 4), (false, 5), (false, 6), (false, 7), (false, 8), (false, 9)] rfl (by decide) rfl 3 0 rfl rfl rfl rfl hl.1 rfl (Nat.le_of_ble_eq_true rfl) dX3_lack_22 ⟨Nat.zero_le _, Nat.zero_le _⟩ (fun H locs hP hD hS => ?_)
    have hP : va_P (dC, dI) vwCl [(bm, .inr (3, [.int lo, .int up, .int tp, .ref bP, .ref bA, .ref bE, .ref bT, .int (nI n), .ref bB, .ref bN, .ref bY, .ref bU, .ref bS, .int tr, .int ra, .int ca, .int (z_cd (z_in p0 0 4 && z_in y0 0 7) true true)])), (bP, .inl (cI, 12, .inl fP)), (bA, .inl (cI, 12, .inl fA)), (bE, .inl (cI, 12, .inl fE)), (bT, .inl (cI, 12, .inl fT)), (bB, .inl (cI, 8, .inl fB)), (bN, .inl (cI, 40, .inl fN)), (bY, .inl (cI, 480, .inl fY)), (bU, .inl (cI, 480, .inl fU)), (bS, .inl (cZ, 96, .inl fS))] H := hP
    have hD : va_D A [(bm, .inr (3, [.int lo, .int up, .int tp, .ref bP, .ref bA, .ref bE, .ref bT, .int (nI n), .ref bB, .ref bN, .ref bY, .ref bU, .ref bS, .int tr, .int ra, .int ca, .int (z_cd (z_in p0 0 4 && z_in y0 0 7) true true)])), (bP, .inl (cI, 12, .inl fP)), (bA, .inl (cI, 12, .inl fA)), (bE, .inl (cI, 12, .inl fE)), (bT, .inl (cI, 12, .inl fT)), (bB, .inl (cI, 8, .inl fB)), (bN, .inl (cI, 40, .inl fN)), (bY, .inl (cI, 480, .inl fY)), (bU, .inl (cI, 480, .inl fU)), (bS, .inl (cZ, 96, .inl fS))] := hD
    refine W.eq (g2 := F0 m 25 ls [.int (z_b ((z_in p0 0 4 && z_in y0 0 7) && true && true))]) rfl ?_
    refine lv_if_eq (tgt := 37) hx hb dX3_lack_25 (by decide) (fun c_25 => ?_) (fun c_25 => ?_)
    · have f_25 : ((z_in p0 0 4 && z_in y0 0 7) && true && true) = false := z_bf c_25
      have h_25 := f_25
      refine lv_iconst (v := 0) hx hb dX3_lack_37 (by decide) ?_
      exact W.iret (v := 0) hx hb hr (fun tS htS hWS => ⟨congrArg (fun z => Outcome.returned (some (Value.int z))) (rfl : (0 : Int32) = 0), by rw [htS]; exact hP, hS.F htS⟩) hS.2.2 dX3_lack_38
    · have f_25 : ((z_in p0 0 4 && z_in y0 0 7) && true && true) = true := z_bt c_25
      exact absurd (hok.symm.trans f_25) (by decide)
  refine lv_iload_n hx hb dX3_lack_1 rfl (lv_at hl 1 rfl) ?_
  refine q_rS (wc := []) (r := (z_b (z_in p0 0 4))) (As := [.int p0]) (rest := [.ref bm]) ⟨hx, hb, hml, hown, hts⟩ (c_X3_isParty l dC dI cI cZ cJ p0) (va_cwS 1 hts gX3_lack_X3_isParty rfl rfl rfl (by decide +kernel) ⟨Nat.le_of_ble_eq_true rfl, Nat.le_of_ble_eq_true rfl⟩) hK (hP.sub [] rfl) rfl hl.1 rfl (Nat.le_of_ble_eq_true rfl) dX3_lack_2 ⟨Nat.zero_le _, Nat.zero_le _⟩ ?_
  refine lv_if_eq (tgt := 19) hx hb dX3_lack_5 (by decide) (fun c_5 => ?_) (fun c_5 => ?_)
  · have f_5 : (z_in p0 0 4) = false := z_bf c_5
    refine lv_iconst (v := 0) hx hb dX3_lack_19 (by decide) ?_
    exact jn_20 0 (by simp [z_b, f_5])  ls (lv_sub hl [0, 1, 2] rfl)
  · have f_5 : (z_in p0 0 4) = true := z_bt c_5
    refine lv_iload_n hx hb dX3_lack_8 rfl (lv_at hl 2 rfl) ?_
    refine q_rS (wc := []) (r := (z_b (z_in y0 0 7))) (As := [.int y0]) (rest := [.ref bm]) ⟨hx, hb, hml, hown, hts⟩ (c_X3_isYear l dC dI cI cZ cJ y0) (va_cwS 1 hts gX3_lack_X3_isYear rfl rfl rfl (by decide +kernel) ⟨Nat.le_of_ble_eq_true rfl, Nat.le_of_ble_eq_true rfl⟩) hK (hP.sub [] rfl) rfl hl.1 rfl (Nat.le_of_ble_eq_true rfl) dX3_lack_9 ⟨Nat.zero_le _, Nat.zero_le _⟩ ?_
    refine lv_if_eq (tgt := 19) hx hb dX3_lack_12 (by decide) (fun c_12 => ?_) (fun c_12 => ?_)
    · have f_12 : (z_in y0 0 7) = false := z_bf c_12
      refine lv_iconst (v := 0) hx hb dX3_lack_19 (by decide) ?_
      exact jn_20 0 (by simp [z_b, f_5, f_12])  ls (lv_sub hl [0, 1, 2] rfl)
    · have f_12 : (z_in y0 0 7) = true := z_bt c_12
      refine lv_iconst (v := 1) hx hb dX3_lack_15 (by decide) ?_
      refine lv_goto (tgt := 20) hx hb dX3_lack_16 (by decide) ?_
      exact jn_20 1 (by simp [z_b, f_5, f_12])  ls (lv_sub hl [0, 1, 2] rfl)
set_option maxHeartbeats 4000000 in
set_option maxRecDepth 100000 in
theorem c_X3_penalty (l : Launch) (dC : Nat → ClassId) (dI : Nat → Nat → Nat) (cI cZ cJ : ClassId) (bm bP bA bE bT bB bN bY bU bS : Nat) (lo up tp tr ra ca tw : Int32) (n : Nat) (fP fA fE fT fB fN fY fU fS : Nat → Int32) (p0 y0 : Int32)  (hp : p0 = nI (z_n p0)) (hp5 : z_n p0 < 5) (hy : y0 = nI (z_n y0)) (hy8 : z_n y0 < 8) (hok : ((z_in p0 0 4 && z_in y0 0 7) && true && true) = true) : Met l yX3_penalty wsX3_penalty ({ frames := 3, cells := 0, slots := 0, locals := 73 }) (va_Pc [.ref bm, .int p0, .int y0] (q_M (dC, dI) vwCl (q_T cI cZ cJ) [(bm, .inr (3, [.int lo, .int up, .int tp, .ref bP, .ref bA, .ref bE, .ref bT, .int (nI n), .ref bB, .ref bN, .ref bY, .ref bU, .ref bS, .int tr, .int ra, .int ca, .int tw])), (bP, .inl (cI, 12, .inl fP)), (bA, .inl (cI, 12, .inl fA)), (bE, .inl (cI, 12, .inl fE)), (bT, .inl (cI, 12, .inl fT)), (bB, .inl (cI, 8, .inl fB)), (bN, .inl (cI, 40, .inl fN)), (bY, .inl (cI, 480, .inl fY)), (bU, .inl (cI, 480, .inl fU)), (bS, .inl (cZ, 96, .inl fS))])) (q_W (some (.int ((z_pp (z_lk fY fU fS (z_n p0) (z_n y0) 12) ra (fN (z_n p0 * 8 + z_n y0)) ca).toInt32))) (dC, dI) vwCl [(bm, .inr (3, [.int lo, .int up, .int tp, .ref bP, .ref bA, .ref bE, .ref bT, .int (nI n), .ref bB, .ref bN, .ref bY, .ref bU, .ref bS, .int tr, .int ra, .int ca, .int (z_cd (z_in p0 0 4 && z_in y0 0 7) true true)])), (bP, .inl (cI, 12, .inl fP)), (bA, .inl (cI, 12, .inl fA)), (bE, .inl (cI, 12, .inl fE)), (bT, .inl (cI, 12, .inl fT)), (bB, .inl (cI, 8, .inl fB)), (bN, .inl (cI, 40, .inl fN)), (bY, .inl (cI, 480, .inl fY)), (bU, .inl (cI, 480, .inl fU)), (bS, .inl (cZ, 96, .inl fS))] (q_B [(bm, .inr (3, [.int lo, .int up, .int tp, .ref bP, .ref bA, .ref bE, .ref bT, .int (nI n), .ref bB, .ref bN, .ref bY, .ref bU, .ref bS, .int tr, .int ra, .int ca, .int tw])), (bP, .inl (cI, 12, .inl fP)), (bA, .inl (cI, 12, .inl fA)), (bE, .inl (cI, 12, .inl fE)), (bT, .inl (cI, 12, .inl fT)), (bB, .inl (cI, 8, .inl fB)), (bN, .inl (cI, 40, .inl fN)), (bY, .inl (cI, 480, .inl fY)), (bU, .inl (cI, 480, .inl fU)), (bS, .inl (cZ, 96, .inl fS))])) 0 0 (q_B [(bm, .inr (3, [.int lo, .int up, .int tp, .ref bP, .ref bA, .ref bE, .ref bT, .int (nI n), .ref bB, .ref bN, .ref bY, .ref bU, .ref bS, .int tr, .int ra, .int ca, .int tw])), (bP, .inl (cI, 12, .inl fP)), (bA, .inl (cI, 12, .inl fA)), (bE, .inl (cI, 12, .inl fE)), (bT, .inl (cI, 12, .inl fT)), (bB, .inl (cI, 8, .inl fB)), (bN, .inl (cI, 40, .inl fN)), (bY, .inl (cI, 480, .inl fY)), (bU, .inl (cI, 480, .inl fU)), (bS, .inl (cZ, 96, .inl fS))]) := by
  refine Met.ofW (cc := cX3_penalty) (maxL := 3) (ret := (some .int)) (by decide) rfl ?_
  intro p e s m args below meth c s₁ B hml hv
  obtain ⟨rfl, hP, hK, hD0⟩ := hv
  have hx := B.exec
  have hb := B.bytes
  have hr := B.returns
  have hts := atoms_spec (ws := wsX3_penalty) B.pre
  have hown : s.vm.findClass RX3 = some m.cls := findClass_of_methodNamed B.named
  have hlocks := B.notSynchronized
  have hD := q_Bself hD0
  generalize hAe : q_B [(bm, .inr (3, [.int lo, .int up, .int tp, .ref bP, .ref bA, .ref bE, .ref bT, .int (nI n), .ref bB, .ref bN, .ref bY, .ref bU, .ref bS, .int tr, .int ra, .int ca, .int tw])), (bP, .inl (cI, 12, .inl fP)), (bA, .inl (cI, 12, .inl fA)), (bE, .inl (cI, 12, .inl fE)), (bT, .inl (cI, 12, .inl fT)), (bB, .inl (cI, 8, .inl fB)), (bN, .inl (cI, 40, .inl fN)), (bY, .inl (cI, 480, .inl fY)), (bU, .inl (cI, 480, .inl fU)), (bS, .inl (cZ, 96, .inl fS))] = A at hD ⊢
  have hS : va_S A s.heap s.heap [] := va_S.rf
  have hP : va_P (dC, dI) vwCl [(bm, .inr (3, [.int lo, .int up, .int tp, .ref bP, .ref bA, .ref bE, .ref bT, .int (nI n), .ref bB, .ref bN, .ref bY, .ref bU, .ref bS, .int tr, .int ra, .int ca, .int tw])), (bP, .inl (cI, 12, .inl fP)), (bA, .inl (cI, 12, .inl fA)), (bE, .inl (cI, 12, .inl fE)), (bT, .inl (cI, 12, .inl fT)), (bB, .inl (cI, 8, .inl fB)), (bN, .inl (cI, 40, .inl fN)), (bY, .inl (cI, 480, .inl fY)), (bU, .inl (cI, 480, .inl fU)), (bS, .inl (cZ, 96, .inl fS))] s.heap := hP
  have hl := lv_entry ([.ref bm, .int p0, .int y0]) (n := 3) (Nat.le_of_ble_eq_true rfl)
  rw [lg_entry_eq]
  generalize (lg_sl ([.ref bm, .int p0, .int y0]) ++ List.replicate (3 - (lg_sl ([.ref bm, .int p0, .int y0])).length) Slot.unset).toArray = ls at hl ⊢
  have hl : lv_has ls 3 [(0, .ref bm), (1, .int p0), (2, .int y0)] := hl
  refine lv_aload_n hx hb dX3_penalty_0 rfl (lv_at hl 0 rfl) ?_
  have jn_20 : ∀ (v20 : Int32), v20 = z_b (z_in p0 0 4 && z_in y0 0 7) → ∀ (ls : Array Slot), lv_has ls 3 [(0, .ref bm), (1, .int p0), (2, .int y0)] → W p l e (headSpec wsX3_penalty ({ frames := 3, cells := 0, slots := 0, locals := 73 })).room s m [.ref bm, .int p0, .int y0].toArray below meth c s.heap [] 0 0 (MQ below (q_W (some (.int ((z_pp (z_lk fY fU fS (z_n p0) (z_n y0) 12) ra (fN (z_n p0 * 8 + z_n y0)) ca).toInt32))) (dC, dI) vwCl [(bm, .inr (3, [.int lo, .int up, .int tp, .ref bP, .ref bA, .ref bE, .ref bT, .int (nI n), .ref bB, .ref bN, .ref bY, .ref bU, .ref bS, .int tr, .int ra, .int ca, .int (z_cd (z_in p0 0 4 && z_in y0 0 7) true true)])), (bP, .inl (cI, 12, .inl fP)), (bA, .inl (cI, 12, .inl fA)), (bE, .inl (cI, 12, .inl fE)), (bT, .inl (cI, 12, .inl fT)), (bB, .inl (cI, 8, .inl fB)), (bN, .inl (cI, 40, .inl fN)), (bY, .inl (cI, 480, .inl fY)), (bU, .inl (cI, 480, .inl fU)), (bS, .inl (cZ, 96, .inl fS))] A) [.ref bm, .int p0, .int y0].toArray s 0 0 A) (F0 m 20 ls [.int v20, .ref bm]) := by
    intro v20 ev20  ls hl
    subst ev20
    refine lv_iconst (v := 1) hx hb dX3_penalty_20 (by decide) ?_
    refine lv_iconst (v := 1) hx hb dX3_penalty_21 (by decide) ?_
    refine q_wV (ws := [(bm, .inr (3, [.int lo, .int up, .int tp, .ref bP, .ref bA, .ref bE, .ref bT, .int (nI n), .ref bB, .ref bN, .ref bY, .ref bU, .ref bS, .int tr, .int ra, .int ca, .int tw])), (bP, .inl (cI, 12, .inl fP)), (bA, .inl (cI, 12, .inl fA)), (bE, .inl (cI, 12, .inl fE)), (bT, .inl (cI, 12, .inl fT)), (bB, .inl (cI, 8, .inl fB)), (bN, .inl (cI, 40, .inl fN)), (bY, .inl (cI, 480, .inl fY)), (bU, .inl (cI, 480, .inl fU)), (bS, .inl (cZ, 96, .inl fS))]) (wc := [(bm, .inr (3, [.int lo, .int up, .int tp, .ref bP, .ref bA, .ref bE, .ref bT, .int (nI n), .ref bB, .ref bN, .ref bY, .ref bU, .ref bS, .int tr, .int ra, .int ca, .int tw]))]) (wc' := [(bm, .inr (3, [.int lo, .int up, .int tp, .ref bP, .ref bA, .ref bE, .ref bT, .int (nI n), .ref bB, .ref bN, .ref bY, .ref bU, .ref bS, .int tr, .int ra, .int ca, .int (z_cd (z_in p0 0 4 && z_in y0 0 7) true true)]))]) (ws' := [(bm, .inr (3, [.int lo, .int up, .int tp, .ref bP, .ref bA, .ref bE, .ref bT, .int (nI n), .ref bB, .ref bN, .ref bY, .ref bU, .ref bS, .int tr, .int ra, .int ca, .int (z_cd (z_in p0 0 4 && z_in y0 0 7) true true)])), (bP, .inl (cI, 12, .inl fP)), (bA, .inl (cI, 12, .inl fA)), (bE, .inl (cI, 12, .inl fE)), (bT, .inl (cI, 12, .inl fT)), (bB, .inl (cI, 8, .inl fB)), (bN, .inl (cI, 40, .inl fN)), (bY, .inl (cI, 480, .inl fY)), (bU, .inl (cI, 480, .inl fU)), (bS, .inl (cZ, 96, .inl fS))]) (v := (some (.int (z_b ((z_in p0 0 4 && z_in y0 0 7) && true && true))))) (As := [.int (z_b (z_in p0 0 4 && z_in y0 0 7)), .int 1, .int 1]) (rest := []) ⟨hx, hb, hml, hown, hts⟩ (c_X3_goes l dC dI cI cZ cJ bm bP bA bE bT bB bN bY bU bS lo up tp tr ra ca tw n (z_in p0 0 4 && z_in y0 0 7) true true) (cwV 3 hts gX3_penalty_X3_goes rfl rfl rfl (by decide +kernel) ⟨Nat.le_of_ble_eq_true rfl, Nat.le_of_ble_eq_true rfl⟩) hK hP hD hS [0] rfl (by decide) [(true, 0), (false, 1), (false, 2), (false, 3), (false, 4), (false, 5), (false, 6), (false, 7), (false, 8), (false, 9)] rfl (by decide) rfl 3 0 rfl rfl rfl rfl hl.1 rfl (Nat.le_of_ble_eq_true rfl) dX3_penalty_22 ⟨Nat.zero_le _, Nat.zero_le _⟩ (fun H locs hP hD hS => ?_)
    have hP : va_P (dC, dI) vwCl [(bm, .inr (3, [.int lo, .int up, .int tp, .ref bP, .ref bA, .ref bE, .ref bT, .int (nI n), .ref bB, .ref bN, .ref bY, .ref bU, .ref bS, .int tr, .int ra, .int ca, .int (z_cd (z_in p0 0 4 && z_in y0 0 7) true true)])), (bP, .inl (cI, 12, .inl fP)), (bA, .inl (cI, 12, .inl fA)), (bE, .inl (cI, 12, .inl fE)), (bT, .inl (cI, 12, .inl fT)), (bB, .inl (cI, 8, .inl fB)), (bN, .inl (cI, 40, .inl fN)), (bY, .inl (cI, 480, .inl fY)), (bU, .inl (cI, 480, .inl fU)), (bS, .inl (cZ, 96, .inl fS))] H := hP
    have hD : va_D A [(bm, .inr (3, [.int lo, .int up, .int tp, .ref bP, .ref bA, .ref bE, .ref bT, .int (nI n), .ref bB, .ref bN, .ref bY, .ref bU, .ref bS, .int tr, .int ra, .int ca, .int (z_cd (z_in p0 0 4 && z_in y0 0 7) true true)])), (bP, .inl (cI, 12, .inl fP)), (bA, .inl (cI, 12, .inl fA)), (bE, .inl (cI, 12, .inl fE)), (bT, .inl (cI, 12, .inl fT)), (bB, .inl (cI, 8, .inl fB)), (bN, .inl (cI, 40, .inl fN)), (bY, .inl (cI, 480, .inl fY)), (bU, .inl (cI, 480, .inl fU)), (bS, .inl (cZ, 96, .inl fS))] := hD
    refine W.eq (g2 := F0 m 25 ls [.int (z_b ((z_in p0 0 4 && z_in y0 0 7) && true && true))]) rfl ?_
    refine lv_if_eq (tgt := 38) hx hb dX3_penalty_25 (by decide) (fun c_25 => ?_) (fun c_25 => ?_)
    · have f_25 : ((z_in p0 0 4 && z_in y0 0 7) && true && true) = false := z_bf c_25
      exact absurd (hok.symm.trans f_25) (by decide)
    · have f_25 : ((z_in p0 0 4 && z_in y0 0 7) && true && true) = true := z_bt c_25
      have h_25 := f_25
      refine lv_aload_n hx hb dX3_penalty_28 rfl (lv_at hl 0 rfl) ?_
      refine lv_iload_n hx hb dX3_penalty_29 rfl (lv_at hl 1 rfl) ?_
      refine lv_iload_n hx hb dX3_penalty_30 rfl (lv_at hl 2 rfl) ?_
      refine q_rVl (wc := [(bm, .inr (3, [.int lo, .int up, .int tp, .ref bP, .ref bA, .ref bE, .ref bT, .int (nI n), .ref bB, .ref bN, .ref bY, .ref bU, .ref bS, .int tr, .int ra, .int ca, .int (z_cd (z_in p0 0 4 && z_in y0 0 7) true true)])), (bP, .inl (cI, 12, .inl fP)), (bA, .inl (cI, 12, .inl fA)), (bE, .inl (cI, 12, .inl fE)), (bT, .inl (cI, 12, .inl fT)), (bB, .inl (cI, 8, .inl fB)), (bN, .inl (cI, 40, .inl fN)), (bY, .inl (cI, 480, .inl fY)), (bU, .inl (cI, 480, .inl fU)), (bS, .inl (cZ, 96, .inl fS))]) (r := (z_pp (z_lk fY fU fS (z_n p0) (z_n y0) 12) ra (fN (z_n p0 * 8 + z_n y0)) ca)) (As := [.int p0, .int y0]) (rest := []) ⟨hx, hb, hml, hown, hts⟩ (c_X3_penaltyOf l dC dI cI cZ cJ bm bP bA bE bT bB bN bY bU bS lo up tp tr ra ca (z_cd (z_in p0 0 4 && z_in y0 0 7) true true) n fP fA fE fT fB fN fY fU fS p0 y0 (z_n p0) (z_n y0) hp hp5 hy hy8) (cwV 2 hts gX3_penalty_X3_penaltyOf rfl rfl rfl (by decide +kernel) ⟨Nat.le_of_ble_eq_true rfl, Nat.le_of_ble_eq_true rfl⟩) hK (hP.sub [0, 1, 2, 3, 4, 5, 6, 7, 8, 9] rfl) 3 0 rfl rfl rfl rfl hl.1 rfl (Nat.le_of_ble_eq_true rfl) dX3_penalty_31 ⟨Nat.zero_le _, Nat.zero_le _⟩ ?_
      refine lv_l2i hx hb dX3_penalty_34 rfl ?_
      refine lv_goto (tgt := 39) hx hb dX3_penalty_35 (by decide) ?_
      exact W.iret (v := (z_pp (z_lk fY fU fS (z_n p0) (z_n y0) 12) ra (fN (z_n p0 * 8 + z_n y0)) ca).toInt32) hx hb hr (fun tS htS hWS => ⟨congrArg (fun z => Outcome.returned (some (Value.int z))) (rfl : ((z_pp (z_lk fY fU fS (z_n p0) (z_n y0) 12) ra (fN (z_n p0 * 8 + z_n y0)) ca).toInt32 : Int32) = (z_pp (z_lk fY fU fS (z_n p0) (z_n y0) 12) ra (fN (z_n p0 * 8 + z_n y0)) ca).toInt32), by rw [htS]; exact hP, hS.F htS⟩) hS.2.2 dX3_penalty_39
  refine lv_iload_n hx hb dX3_penalty_1 rfl (lv_at hl 1 rfl) ?_
  refine q_rS (wc := []) (r := (z_b (z_in p0 0 4))) (As := [.int p0]) (rest := [.ref bm]) ⟨hx, hb, hml, hown, hts⟩ (c_X3_isParty l dC dI cI cZ cJ p0) (va_cwS 1 hts gX3_penalty_X3_isParty rfl rfl rfl (by decide +kernel) ⟨Nat.le_of_ble_eq_true rfl, Nat.le_of_ble_eq_true rfl⟩) hK (hP.sub [] rfl) rfl hl.1 rfl (Nat.le_of_ble_eq_true rfl) dX3_penalty_2 ⟨Nat.zero_le _, Nat.zero_le _⟩ ?_
  refine lv_if_eq (tgt := 19) hx hb dX3_penalty_5 (by decide) (fun c_5 => ?_) (fun c_5 => ?_)
  · have f_5 : (z_in p0 0 4) = false := z_bf c_5
    refine lv_iconst (v := 0) hx hb dX3_penalty_19 (by decide) ?_
    exact jn_20 0 (by simp [z_b, f_5])  ls (lv_sub hl [0, 1, 2] rfl)
  · have f_5 : (z_in p0 0 4) = true := z_bt c_5
    refine lv_iload_n hx hb dX3_penalty_8 rfl (lv_at hl 2 rfl) ?_
    refine q_rS (wc := []) (r := (z_b (z_in y0 0 7))) (As := [.int y0]) (rest := [.ref bm]) ⟨hx, hb, hml, hown, hts⟩ (c_X3_isYear l dC dI cI cZ cJ y0) (va_cwS 1 hts gX3_penalty_X3_isYear rfl rfl rfl (by decide +kernel) ⟨Nat.le_of_ble_eq_true rfl, Nat.le_of_ble_eq_true rfl⟩) hK (hP.sub [] rfl) rfl hl.1 rfl (Nat.le_of_ble_eq_true rfl) dX3_penalty_9 ⟨Nat.zero_le _, Nat.zero_le _⟩ ?_
    refine lv_if_eq (tgt := 19) hx hb dX3_penalty_12 (by decide) (fun c_12 => ?_) (fun c_12 => ?_)
    · have f_12 : (z_in y0 0 7) = false := z_bf c_12
      refine lv_iconst (v := 0) hx hb dX3_penalty_19 (by decide) ?_
      exact jn_20 0 (by simp [z_b, f_5, f_12])  ls (lv_sub hl [0, 1, 2] rfl)
    · have f_12 : (z_in y0 0 7) = true := z_bt c_12
      refine lv_iconst (v := 1) hx hb dX3_penalty_15 (by decide) ?_
      refine lv_goto (tgt := 20) hx hb dX3_penalty_16 (by decide) ?_
      exact jn_20 1 (by simp [z_b, f_5, f_12])  ls (lv_sub hl [0, 1, 2] rfl)
set_option maxHeartbeats 4000000 in
set_option maxRecDepth 100000 in
theorem n_X3_penalty (l : Launch) (dC : Nat → ClassId) (dI : Nat → Nat → Nat) (cI cZ cJ : ClassId) (bm bP bA bE bT bB bN bY bU bS : Nat) (lo up tp tr ra ca tw : Int32) (n : Nat) (fP fA fE fT fB fN fY fU fS : Nat → Int32) (p0 y0 : Int32)  (hok : ((z_in p0 0 4 && z_in y0 0 7) && true && true) = false) : Met l yX3_penalty wsX3_penalty ({ frames := 1, cells := 0, slots := 0, locals := 23 }) (va_Pc [.ref bm, .int p0, .int y0] (q_M (dC, dI) vwCl (q_T cI cZ cJ) [(bm, .inr (3, [.int lo, .int up, .int tp, .ref bP, .ref bA, .ref bE, .ref bT, .int (nI n), .ref bB, .ref bN, .ref bY, .ref bU, .ref bS, .int tr, .int ra, .int ca, .int tw])), (bP, .inl (cI, 12, .inl fP)), (bA, .inl (cI, 12, .inl fA)), (bE, .inl (cI, 12, .inl fE)), (bT, .inl (cI, 12, .inl fT)), (bB, .inl (cI, 8, .inl fB)), (bN, .inl (cI, 40, .inl fN)), (bY, .inl (cI, 480, .inl fY)), (bU, .inl (cI, 480, .inl fU)), (bS, .inl (cZ, 96, .inl fS))])) (q_W (some (.int 0)) (dC, dI) vwCl [(bm, .inr (3, [.int lo, .int up, .int tp, .ref bP, .ref bA, .ref bE, .ref bT, .int (nI n), .ref bB, .ref bN, .ref bY, .ref bU, .ref bS, .int tr, .int ra, .int ca, .int (z_cd (z_in p0 0 4 && z_in y0 0 7) true true)])), (bP, .inl (cI, 12, .inl fP)), (bA, .inl (cI, 12, .inl fA)), (bE, .inl (cI, 12, .inl fE)), (bT, .inl (cI, 12, .inl fT)), (bB, .inl (cI, 8, .inl fB)), (bN, .inl (cI, 40, .inl fN)), (bY, .inl (cI, 480, .inl fY)), (bU, .inl (cI, 480, .inl fU)), (bS, .inl (cZ, 96, .inl fS))] (q_B [(bm, .inr (3, [.int lo, .int up, .int tp, .ref bP, .ref bA, .ref bE, .ref bT, .int (nI n), .ref bB, .ref bN, .ref bY, .ref bU, .ref bS, .int tr, .int ra, .int ca, .int tw])), (bP, .inl (cI, 12, .inl fP)), (bA, .inl (cI, 12, .inl fA)), (bE, .inl (cI, 12, .inl fE)), (bT, .inl (cI, 12, .inl fT)), (bB, .inl (cI, 8, .inl fB)), (bN, .inl (cI, 40, .inl fN)), (bY, .inl (cI, 480, .inl fY)), (bU, .inl (cI, 480, .inl fU)), (bS, .inl (cZ, 96, .inl fS))])) 0 0 (q_B [(bm, .inr (3, [.int lo, .int up, .int tp, .ref bP, .ref bA, .ref bE, .ref bT, .int (nI n), .ref bB, .ref bN, .ref bY, .ref bU, .ref bS, .int tr, .int ra, .int ca, .int tw])), (bP, .inl (cI, 12, .inl fP)), (bA, .inl (cI, 12, .inl fA)), (bE, .inl (cI, 12, .inl fE)), (bT, .inl (cI, 12, .inl fT)), (bB, .inl (cI, 8, .inl fB)), (bN, .inl (cI, 40, .inl fN)), (bY, .inl (cI, 480, .inl fY)), (bU, .inl (cI, 480, .inl fU)), (bS, .inl (cZ, 96, .inl fS))]) := by
  refine Met.ofW (cc := cX3_penalty) (maxL := 3) (ret := (some .int)) (by decide) rfl ?_
  intro p e s m args below meth c s₁ B hml hv
  obtain ⟨rfl, hP, hK, hD0⟩ := hv
  have hx := B.exec
  have hb := B.bytes
  have hr := B.returns
  have hts := atoms_spec (ws := wsX3_penalty) B.pre
  have hown : s.vm.findClass RX3 = some m.cls := findClass_of_methodNamed B.named
  have hlocks := B.notSynchronized
  have hD := q_Bself hD0
  generalize hAe : q_B [(bm, .inr (3, [.int lo, .int up, .int tp, .ref bP, .ref bA, .ref bE, .ref bT, .int (nI n), .ref bB, .ref bN, .ref bY, .ref bU, .ref bS, .int tr, .int ra, .int ca, .int tw])), (bP, .inl (cI, 12, .inl fP)), (bA, .inl (cI, 12, .inl fA)), (bE, .inl (cI, 12, .inl fE)), (bT, .inl (cI, 12, .inl fT)), (bB, .inl (cI, 8, .inl fB)), (bN, .inl (cI, 40, .inl fN)), (bY, .inl (cI, 480, .inl fY)), (bU, .inl (cI, 480, .inl fU)), (bS, .inl (cZ, 96, .inl fS))] = A at hD ⊢
  have hS : va_S A s.heap s.heap [] := va_S.rf
  have hP : va_P (dC, dI) vwCl [(bm, .inr (3, [.int lo, .int up, .int tp, .ref bP, .ref bA, .ref bE, .ref bT, .int (nI n), .ref bB, .ref bN, .ref bY, .ref bU, .ref bS, .int tr, .int ra, .int ca, .int tw])), (bP, .inl (cI, 12, .inl fP)), (bA, .inl (cI, 12, .inl fA)), (bE, .inl (cI, 12, .inl fE)), (bT, .inl (cI, 12, .inl fT)), (bB, .inl (cI, 8, .inl fB)), (bN, .inl (cI, 40, .inl fN)), (bY, .inl (cI, 480, .inl fY)), (bU, .inl (cI, 480, .inl fU)), (bS, .inl (cZ, 96, .inl fS))] s.heap := hP
  have hl := lv_entry ([.ref bm, .int p0, .int y0]) (n := 3) (Nat.le_of_ble_eq_true rfl)
  rw [lg_entry_eq]
  generalize (lg_sl ([.ref bm, .int p0, .int y0]) ++ List.replicate (3 - (lg_sl ([.ref bm, .int p0, .int y0])).length) Slot.unset).toArray = ls at hl ⊢
  have hl : lv_has ls 3 [(0, .ref bm), (1, .int p0), (2, .int y0)] := hl
  refine lv_aload_n hx hb dX3_penalty_0 rfl (lv_at hl 0 rfl) ?_
  have jn_20 : ∀ (v20 : Int32), v20 = z_b (z_in p0 0 4 && z_in y0 0 7) → ∀ (ls : Array Slot), lv_has ls 3 [(0, .ref bm), (1, .int p0), (2, .int y0)] → W p l e (headSpec wsX3_penalty ({ frames := 1, cells := 0, slots := 0, locals := 23 })).room s m [.ref bm, .int p0, .int y0].toArray below meth c s.heap [] 0 0 (MQ below (q_W (some (.int 0)) (dC, dI) vwCl [(bm, .inr (3, [.int lo, .int up, .int tp, .ref bP, .ref bA, .ref bE, .ref bT, .int (nI n), .ref bB, .ref bN, .ref bY, .ref bU, .ref bS, .int tr, .int ra, .int ca, .int (z_cd (z_in p0 0 4 && z_in y0 0 7) true true)])), (bP, .inl (cI, 12, .inl fP)), (bA, .inl (cI, 12, .inl fA)), (bE, .inl (cI, 12, .inl fE)), (bT, .inl (cI, 12, .inl fT)), (bB, .inl (cI, 8, .inl fB)), (bN, .inl (cI, 40, .inl fN)), (bY, .inl (cI, 480, .inl fY)), (bU, .inl (cI, 480, .inl fU)), (bS, .inl (cZ, 96, .inl fS))] A) [.ref bm, .int p0, .int y0].toArray s 0 0 A) (F0 m 20 ls [.int v20, .ref bm]) := by
    intro v20 ev20  ls hl
    subst ev20
    refine lv_iconst (v := 1) hx hb dX3_penalty_20 (by decide) ?_
    refine lv_iconst (v := 1) hx hb dX3_penalty_21 (by decide) ?_
    refine q_wV (ws := [(bm, .inr (3, [.int lo, .int up, .int tp, .ref bP, .ref bA, .ref bE, .ref bT, .int (nI n), .ref bB, .ref bN, .ref bY, .ref bU, .ref bS, .int tr, .int ra, .int ca, .int tw])), (bP, .inl (cI, 12, .inl fP)), (bA, .inl (cI, 12, .inl fA)), (bE, .inl (cI, 12, .inl fE)), (bT, .inl (cI, 12, .inl fT)), (bB, .inl (cI, 8, .inl fB)), (bN, .inl (cI, 40, .inl fN)), (bY, .inl (cI, 480, .inl fY)), (bU, .inl (cI, 480, .inl fU)), (bS, .inl (cZ, 96, .inl fS))]) (wc := [(bm, .inr (3, [.int lo, .int up, .int tp, .ref bP, .ref bA, .ref bE, .ref bT, .int (nI n), .ref bB, .ref bN, .ref bY, .ref bU, .ref bS, .int tr, .int ra, .int ca, .int tw]))]) (wc' := [(bm, .inr (3, [.int lo, .int up, .int tp, .ref bP, .ref bA, .ref bE, .ref bT, .int (nI n), .ref bB, .ref bN, .ref bY, .ref bU, .ref bS, .int tr, .int ra, .int ca, .int (z_cd (z_in p0 0 4 && z_in y0 0 7) true true)]))]) (ws' := [(bm, .inr (3, [.int lo, .int up, .int tp, .ref bP, .ref bA, .ref bE, .ref bT, .int (nI n), .ref bB, .ref bN, .ref bY, .ref bU, .ref bS, .int tr, .int ra, .int ca, .int (z_cd (z_in p0 0 4 && z_in y0 0 7) true true)])), (bP, .inl (cI, 12, .inl fP)), (bA, .inl (cI, 12, .inl fA)), (bE, .inl (cI, 12, .inl fE)), (bT, .inl (cI, 12, .inl fT)), (bB, .inl (cI, 8, .inl fB)), (bN, .inl (cI, 40, .inl fN)), (bY, .inl (cI, 480, .inl fY)), (bU, .inl (cI, 480, .inl fU)), (bS, .inl (cZ, 96, .inl fS))]) (v := (some (.int (z_b ((z_in p0 0 4 && z_in y0 0 7) && true && true))))) (As := [.int (z_b (z_in p0 0 4 && z_in y0 0 7)), .int 1, .int 1]) (rest := []) ⟨hx, hb, hml, hown, hts⟩ (c_X3_goes l dC dI cI cZ cJ bm bP bA bE bT bB bN bY bU bS lo up tp tr ra ca tw n (z_in p0 0 4 && z_in y0 0 7) true true) (cwV 3 hts gX3_penalty_X3_goes rfl rfl rfl (by decide +kernel) ⟨Nat.le_of_ble_eq_true rfl, Nat.le_of_ble_eq_true rfl⟩) hK hP hD hS [0] rfl (by decide) [(true, 0), (false, 1), (false, 2), (false, 3), (false, 4), (false, 5), (false, 6), (false, 7), (false, 8), (false, 9)] rfl (by decide) rfl 3 0 rfl rfl rfl rfl hl.1 rfl (Nat.le_of_ble_eq_true rfl) dX3_penalty_22 ⟨Nat.zero_le _, Nat.zero_le _⟩ (fun H locs hP hD hS => ?_)
    have hP : va_P (dC, dI) vwCl [(bm, .inr (3, [.int lo, .int up, .int tp, .ref bP, .ref bA, .ref bE, .ref bT, .int (nI n), .ref bB, .ref bN, .ref bY, .ref bU, .ref bS, .int tr, .int ra, .int ca, .int (z_cd (z_in p0 0 4 && z_in y0 0 7) true true)])), (bP, .inl (cI, 12, .inl fP)), (bA, .inl (cI, 12, .inl fA)), (bE, .inl (cI, 12, .inl fE)), (bT, .inl (cI, 12, .inl fT)), (bB, .inl (cI, 8, .inl fB)), (bN, .inl (cI, 40, .inl fN)), (bY, .inl (cI, 480, .inl fY)), (bU, .inl (cI, 480, .inl fU)), (bS, .inl (cZ, 96, .inl fS))] H := hP
    have hD : va_D A [(bm, .inr (3, [.int lo, .int up, .int tp, .ref bP, .ref bA, .ref bE, .ref bT, .int (nI n), .ref bB, .ref bN, .ref bY, .ref bU, .ref bS, .int tr, .int ra, .int ca, .int (z_cd (z_in p0 0 4 && z_in y0 0 7) true true)])), (bP, .inl (cI, 12, .inl fP)), (bA, .inl (cI, 12, .inl fA)), (bE, .inl (cI, 12, .inl fE)), (bT, .inl (cI, 12, .inl fT)), (bB, .inl (cI, 8, .inl fB)), (bN, .inl (cI, 40, .inl fN)), (bY, .inl (cI, 480, .inl fY)), (bU, .inl (cI, 480, .inl fU)), (bS, .inl (cZ, 96, .inl fS))] := hD
    refine W.eq (g2 := F0 m 25 ls [.int (z_b ((z_in p0 0 4 && z_in y0 0 7) && true && true))]) rfl ?_
    refine lv_if_eq (tgt := 38) hx hb dX3_penalty_25 (by decide) (fun c_25 => ?_) (fun c_25 => ?_)
    · have f_25 : ((z_in p0 0 4 && z_in y0 0 7) && true && true) = false := z_bf c_25
      have h_25 := f_25
      refine lv_iconst (v := 0) hx hb dX3_penalty_38 (by decide) ?_
      exact W.iret (v := 0) hx hb hr (fun tS htS hWS => ⟨congrArg (fun z => Outcome.returned (some (Value.int z))) (rfl : (0 : Int32) = 0), by rw [htS]; exact hP, hS.F htS⟩) hS.2.2 dX3_penalty_39
    · have f_25 : ((z_in p0 0 4 && z_in y0 0 7) && true && true) = true := z_bt c_25
      exact absurd (hok.symm.trans f_25) (by decide)
  refine lv_iload_n hx hb dX3_penalty_1 rfl (lv_at hl 1 rfl) ?_
  refine q_rS (wc := []) (r := (z_b (z_in p0 0 4))) (As := [.int p0]) (rest := [.ref bm]) ⟨hx, hb, hml, hown, hts⟩ (c_X3_isParty l dC dI cI cZ cJ p0) (va_cwS 1 hts gX3_penalty_X3_isParty rfl rfl rfl (by decide +kernel) ⟨Nat.le_of_ble_eq_true rfl, Nat.le_of_ble_eq_true rfl⟩) hK (hP.sub [] rfl) rfl hl.1 rfl (Nat.le_of_ble_eq_true rfl) dX3_penalty_2 ⟨Nat.zero_le _, Nat.zero_le _⟩ ?_
  refine lv_if_eq (tgt := 19) hx hb dX3_penalty_5 (by decide) (fun c_5 => ?_) (fun c_5 => ?_)
  · have f_5 : (z_in p0 0 4) = false := z_bf c_5
    refine lv_iconst (v := 0) hx hb dX3_penalty_19 (by decide) ?_
    exact jn_20 0 (by simp [z_b, f_5])  ls (lv_sub hl [0, 1, 2] rfl)
  · have f_5 : (z_in p0 0 4) = true := z_bt c_5
    refine lv_iload_n hx hb dX3_penalty_8 rfl (lv_at hl 2 rfl) ?_
    refine q_rS (wc := []) (r := (z_b (z_in y0 0 7))) (As := [.int y0]) (rest := [.ref bm]) ⟨hx, hb, hml, hown, hts⟩ (c_X3_isYear l dC dI cI cZ cJ y0) (va_cwS 1 hts gX3_penalty_X3_isYear rfl rfl rfl (by decide +kernel) ⟨Nat.le_of_ble_eq_true rfl, Nat.le_of_ble_eq_true rfl⟩) hK (hP.sub [] rfl) rfl hl.1 rfl (Nat.le_of_ble_eq_true rfl) dX3_penalty_9 ⟨Nat.zero_le _, Nat.zero_le _⟩ ?_
    refine lv_if_eq (tgt := 19) hx hb dX3_penalty_12 (by decide) (fun c_12 => ?_) (fun c_12 => ?_)
    · have f_12 : (z_in y0 0 7) = false := z_bf c_12
      refine lv_iconst (v := 0) hx hb dX3_penalty_19 (by decide) ?_
      exact jn_20 0 (by simp [z_b, f_5, f_12])  ls (lv_sub hl [0, 1, 2] rfl)
    · have f_12 : (z_in y0 0 7) = true := z_bt c_12
      refine lv_iconst (v := 1) hx hb dX3_penalty_15 (by decide) ?_
      refine lv_goto (tgt := 20) hx hb dX3_penalty_16 (by decide) ?_
      exact jn_20 1 (by simp [z_b, f_5, f_12])  ls (lv_sub hl [0, 1, 2] rfl)
set_option maxHeartbeats 4000000 in
set_option maxRecDepth 100000 in
theorem c_X3_penalties (l : Launch) (dC : Nat → ClassId) (dI : Nat → Nat → Nat) (cI cZ cJ : ClassId) (bm bP bA bE bT bB bN bY bU bS : Nat) (lo up tp tr ra ca tw : Int32) (n : Nat) (fP fA fE fT fB fN fY fU fS : Nat → Int32)  : Met l yX3_penalties wsX3_penalties ({ frames := 3, cells := 0, slots := 0, locals := 73 }) (va_Pc [.ref bm] (q_M (dC, dI) vwCl (q_T cI cZ cJ) [(bm, .inr (3, [.int lo, .int up, .int tp, .ref bP, .ref bA, .ref bE, .ref bT, .int (nI n), .ref bB, .ref bN, .ref bY, .ref bU, .ref bS, .int tr, .int ra, .int ca, .int tw])), (bP, .inl (cI, 12, .inl fP)), (bA, .inl (cI, 12, .inl fA)), (bE, .inl (cI, 12, .inl fE)), (bT, .inl (cI, 12, .inl fT)), (bB, .inl (cI, 8, .inl fB)), (bN, .inl (cI, 40, .inl fN)), (bY, .inl (cI, 480, .inl fY)), (bU, .inl (cI, 480, .inl fU)), (bS, .inl (cZ, 96, .inl fS))])) (q_W (some (.long (z_qs fY fU fS fN ra ca 5))) (dC, dI) vwCl [(bm, .inr (3, [.int lo, .int up, .int tp, .ref bP, .ref bA, .ref bE, .ref bT, .int (nI n), .ref bB, .ref bN, .ref bY, .ref bU, .ref bS, .int tr, .int ra, .int ca, .int 0])), (bP, .inl (cI, 12, .inl fP)), (bA, .inl (cI, 12, .inl fA)), (bE, .inl (cI, 12, .inl fE)), (bT, .inl (cI, 12, .inl fT)), (bB, .inl (cI, 8, .inl fB)), (bN, .inl (cI, 40, .inl fN)), (bY, .inl (cI, 480, .inl fY)), (bU, .inl (cI, 480, .inl fU)), (bS, .inl (cZ, 96, .inl fS))] (q_B [(bm, .inr (3, [.int lo, .int up, .int tp, .ref bP, .ref bA, .ref bE, .ref bT, .int (nI n), .ref bB, .ref bN, .ref bY, .ref bU, .ref bS, .int tr, .int ra, .int ca, .int tw])), (bP, .inl (cI, 12, .inl fP)), (bA, .inl (cI, 12, .inl fA)), (bE, .inl (cI, 12, .inl fE)), (bT, .inl (cI, 12, .inl fT)), (bB, .inl (cI, 8, .inl fB)), (bN, .inl (cI, 40, .inl fN)), (bY, .inl (cI, 480, .inl fY)), (bU, .inl (cI, 480, .inl fU)), (bS, .inl (cZ, 96, .inl fS))])) 0 0 (q_B [(bm, .inr (3, [.int lo, .int up, .int tp, .ref bP, .ref bA, .ref bE, .ref bT, .int (nI n), .ref bB, .ref bN, .ref bY, .ref bU, .ref bS, .int tr, .int ra, .int ca, .int tw])), (bP, .inl (cI, 12, .inl fP)), (bA, .inl (cI, 12, .inl fA)), (bE, .inl (cI, 12, .inl fE)), (bT, .inl (cI, 12, .inl fT)), (bB, .inl (cI, 8, .inl fB)), (bN, .inl (cI, 40, .inl fN)), (bY, .inl (cI, 480, .inl fY)), (bU, .inl (cI, 480, .inl fU)), (bS, .inl (cZ, 96, .inl fS))]) := by
  refine Met.ofW (cc := cX3_penalties) (maxL := 5) (ret := (some .long)) (by decide) rfl ?_
  intro p e s m args below meth c s₁ B hml hv
  obtain ⟨rfl, hP, hK, hD0⟩ := hv
  have hx := B.exec
  have hb := B.bytes
  have hr := B.returns
  have hts := atoms_spec (ws := wsX3_penalties) B.pre
  have hown : s.vm.findClass RX3 = some m.cls := findClass_of_methodNamed B.named
  have hlocks := B.notSynchronized
  have hD := q_Bself hD0
  generalize hAe : q_B [(bm, .inr (3, [.int lo, .int up, .int tp, .ref bP, .ref bA, .ref bE, .ref bT, .int (nI n), .ref bB, .ref bN, .ref bY, .ref bU, .ref bS, .int tr, .int ra, .int ca, .int tw])), (bP, .inl (cI, 12, .inl fP)), (bA, .inl (cI, 12, .inl fA)), (bE, .inl (cI, 12, .inl fE)), (bT, .inl (cI, 12, .inl fT)), (bB, .inl (cI, 8, .inl fB)), (bN, .inl (cI, 40, .inl fN)), (bY, .inl (cI, 480, .inl fY)), (bU, .inl (cI, 480, .inl fU)), (bS, .inl (cZ, 96, .inl fS))] = A at hD ⊢
  have hS : va_S A s.heap s.heap [] := va_S.rf
  have hP : va_P (dC, dI) vwCl [(bm, .inr (3, [.int lo, .int up, .int tp, .ref bP, .ref bA, .ref bE, .ref bT, .int (nI n), .ref bB, .ref bN, .ref bY, .ref bU, .ref bS, .int tr, .int ra, .int ca, .int tw])), (bP, .inl (cI, 12, .inl fP)), (bA, .inl (cI, 12, .inl fA)), (bE, .inl (cI, 12, .inl fE)), (bT, .inl (cI, 12, .inl fT)), (bB, .inl (cI, 8, .inl fB)), (bN, .inl (cI, 40, .inl fN)), (bY, .inl (cI, 480, .inl fY)), (bU, .inl (cI, 480, .inl fU)), (bS, .inl (cZ, 96, .inl fS))] s.heap := hP
  have hl := lv_entry ([.ref bm]) (n := 5) (Nat.le_of_ble_eq_true rfl)
  rw [lg_entry_eq]
  generalize (lg_sl ([.ref bm]) ++ List.replicate (5 - (lg_sl ([.ref bm])).length) Slot.unset).toArray = ls at hl ⊢
  have hl : lv_has ls 5 [(0, .ref bm)] := hl
  refine lv_aload_n hx hb dX3_penalties_0 rfl (lv_at hl 0 rfl) ?_
  refine lv_iconst (v := 0) hx hb dX3_penalties_1 (by decide) ?_
  refine va_put (D := (dC, dI)) (ci := 3) (v := .int 0) (ty := .int) (C := RX3) (T := TX3) (N := 17) hx hb hts (by decide +kernel) tyX3 tyX3_ok nmX3 hown hK hP hD hS 0 rfl rfl 16 (by decide) (hts (.fieldLink RX3 54 "CapacityRoundModel" "thrown" "I") (by decide +kernel)) (fun _ h9 => h9) rfl (by decide +kernel) rfl rfl (Nat.le_of_ble_eq_true rfl) dX3_penalties_2 (fun H locs hP hD hS => ?_)
  have hP : va_P (dC, dI) vwCl [(bm, .inr (3, [.int lo, .int up, .int tp, .ref bP, .ref bA, .ref bE, .ref bT, .int (nI n), .ref bB, .ref bN, .ref bY, .ref bU, .ref bS, .int tr, .int ra, .int ca, .int 0])), (bP, .inl (cI, 12, .inl fP)), (bA, .inl (cI, 12, .inl fA)), (bE, .inl (cI, 12, .inl fE)), (bT, .inl (cI, 12, .inl fT)), (bB, .inl (cI, 8, .inl fB)), (bN, .inl (cI, 40, .inl fN)), (bY, .inl (cI, 480, .inl fY)), (bU, .inl (cI, 480, .inl fU)), (bS, .inl (cZ, 96, .inl fS))] H := hP
  have hD : va_D A [(bm, .inr (3, [.int lo, .int up, .int tp, .ref bP, .ref bA, .ref bE, .ref bT, .int (nI n), .ref bB, .ref bN, .ref bY, .ref bU, .ref bS, .int tr, .int ra, .int ca, .int 0])), (bP, .inl (cI, 12, .inl fP)), (bA, .inl (cI, 12, .inl fA)), (bE, .inl (cI, 12, .inl fE)), (bT, .inl (cI, 12, .inl fT)), (bB, .inl (cI, 8, .inl fB)), (bN, .inl (cI, 40, .inl fN)), (bY, .inl (cI, 480, .inl fY)), (bU, .inl (cI, 480, .inl fU)), (bS, .inl (cZ, 96, .inl fS))] := hD
  refine lv_lconst (v := 0) hx hb dX3_penalties_5 (by decide) ?_
  refine lv_lstore_n (lv' := [(1, .long 0), (0, .ref bm)]) hx hb dX3_penalties_6 rfl hl (by decide) rfl (fun ls hl => ?_)
  refine lv_iconst (v := 0) hx hb dX3_penalties_7 (by decide) ?_
  refine lv_istore_n (lv' := [(3, .int 0), (1, .long 0), (0, .ref bm)]) hx hb dX3_penalties_8 rfl hl (by decide) rfl (fun ls hl => ?_)
  have lp_9 : ∀ (wpn pn : Nat) (x1 : Int64) (x3 : Int32), pn ≤ 5 → 5 < pn + wpn → x1 = z_qs fY fU fS fN ra ca pn → x3 = nI pn → ∀ (ls : Array Slot), lv_has ls 5 [(1, .long x1), (3, .int x3), (0, .ref bm)] → W p l e (headSpec wsX3_penalties ({ frames := 3, cells := 0, slots := 0, locals := 73 })).room s m [.ref bm].toArray below meth c H locs 0 0 (MQ below (q_W (some (.long (z_qs fY fU fS fN ra ca 5))) (dC, dI) vwCl [(bm, .inr (3, [.int lo, .int up, .int tp, .ref bP, .ref bA, .ref bE, .ref bT, .int (nI n), .ref bB, .ref bN, .ref bY, .ref bU, .ref bS, .int tr, .int ra, .int ca, .int 0])), (bP, .inl (cI, 12, .inl fP)), (bA, .inl (cI, 12, .inl fA)), (bE, .inl (cI, 12, .inl fE)), (bT, .inl (cI, 12, .inl fT)), (bB, .inl (cI, 8, .inl fB)), (bN, .inl (cI, 40, .inl fN)), (bY, .inl (cI, 480, .inl fY)), (bU, .inl (cI, 480, .inl fU)), (bS, .inl (cZ, 96, .inl fS))] A) [.ref bm].toArray s 0 0 A) (F0 m 9 ls []) := by
    intro wpn
    induction wpn with
    | zero => intro pn x1 x3 hk_pn hw_pn; exact absurd hw_pn (by omega)
    | succ wpn ih_pn =>
      intro pn x1 x3 hk_pn hw_pn ex1 ex3   ls hl
      refine lv_iload_n hx hb dX3_penalties_9 rfl (lv_at hl 1 rfl) ?_
      refine lv_iconst (v := 5) hx hb dX3_penalties_10 (by decide) ?_
      refine lv_icmp_ge (tgt := 46) hx hb dX3_penalties_11 (by decide) (fun c_11 => ?_) (fun c_11 => ?_)
      · have hp : pn = 5 := q_ex ex3 hk_pn (by omega) c_11
        refine lv_lload_n hx hb dX3_penalties_46 rfl (lv_at hl 0 rfl) ?_
        exact W.lret (v := x1) hx hb hr (fun tS htS hWS => ⟨congrArg (fun z => Outcome.returned (some (Value.long z))) (ex1.trans (by rw [hp]) : (x1 : Int64) = z_qs fY fU fS fN ra ca 5), by rw [htS]; exact hP, hS.F htS⟩) hS.2.2 dX3_penalties_47
      · have hp : pn < 5 := q_lt ex3 hk_pn (by omega) c_11
        refine lv_iconst (v := 0) hx hb dX3_penalties_14 (by decide) ?_
        refine lv_istore (lv' := [(4, .int 0), (1, .long x1), (3, .int x3), (0, .ref bm)]) hx hb dX3_penalties_15 hl (by decide) rfl (fun ls hl => ?_)
        have lp_17 : ∀ (wy y : Nat) (z1 : Int64) (z4 : Int32), y ≤ 8 → 8 < y + wy → z1 = z_qy fY fU fS fN ra ca pn (z_qs fY fU fS fN ra ca pn) y → z4 = nI y → ∀ (ls : Array Slot), lv_has ls 5 [(1, .long z1), (4, .int z4), (3, .int x3), (0, .ref bm)] → W p l e (headSpec wsX3_penalties ({ frames := 3, cells := 0, slots := 0, locals := 73 })).room s m [.ref bm].toArray below meth c H locs 0 0 (MQ below (q_W (some (.long (z_qs fY fU fS fN ra ca 5))) (dC, dI) vwCl [(bm, .inr (3, [.int lo, .int up, .int tp, .ref bP, .ref bA, .ref bE, .ref bT, .int (nI n), .ref bB, .ref bN, .ref bY, .ref bU, .ref bS, .int tr, .int ra, .int ca, .int 0])), (bP, .inl (cI, 12, .inl fP)), (bA, .inl (cI, 12, .inl fA)), (bE, .inl (cI, 12, .inl fE)), (bT, .inl (cI, 12, .inl fT)), (bB, .inl (cI, 8, .inl fB)), (bN, .inl (cI, 40, .inl fN)), (bY, .inl (cI, 480, .inl fY)), (bU, .inl (cI, 480, .inl fU)), (bS, .inl (cZ, 96, .inl fS))] A) [.ref bm].toArray s 0 0 A) (F0 m 17 ls []) := by
          intro wy
          induction wy with
          | zero => intro y z1 z4 hk_y hw_y; exact absurd hw_y (by omega)
          | succ wy ih_y =>
            intro y z1 z4 hk_y hw_y ez1 ez4   ls hl
            refine lv_iload hx hb dX3_penalties_17 (lv_at hl 1 rfl) ?_
            refine lv_bipush (v := 8) hx hb dX3_penalties_19 (by decide) ?_
            refine lv_icmp_ge (tgt := 40) hx hb dX3_penalties_21 (by decide) (fun c_21 => ?_) (fun c_21 => ?_)
            · have hy : y = 8 := q_ex ez4 hk_y (by omega) c_21
              refine lv_iinc (v := x3 + 1) (lv' := [(3, .int (x3 + 1)), (1, .long z1), (4, .int z4), (0, .ref bm)]) hx hb dX3_penalties_40 hl (k := 2) rfl rfl (by decide) rfl (fun ls hl => ?_)
              refine lv_goto (tgt := 9) hx hb dX3_penalties_43 (by decide) ?_
              exact ih_pn (pn + 1) z1 (x3 + 1) (by omega) (by omega) (by rw [ez1, hy]; rfl) (q_s1 ex3)   ls (lv_sub hl [1, 0, 3] rfl)
            · have hy : y < 8 := q_lt ez4 hk_y (by omega) c_21
              refine lv_lload_n hx hb dX3_penalties_24 rfl (lv_at hl 0 rfl) ?_
              refine lv_aload_n hx hb dX3_penalties_25 rfl (lv_at hl 3 rfl) ?_
              refine lv_iload_n hx hb dX3_penalties_26 rfl (lv_at hl 2 rfl) ?_
              refine lv_iload hx hb dX3_penalties_27 (lv_at hl 1 rfl) ?_
              refine q_rVl (wc := [(bm, .inr (3, [.int lo, .int up, .int tp, .ref bP, .ref bA, .ref bE, .ref bT, .int (nI n), .ref bB, .ref bN, .ref bY, .ref bU, .ref bS, .int tr, .int ra, .int ca, .int 0])), (bP, .inl (cI, 12, .inl fP)), (bA, .inl (cI, 12, .inl fA)), (bE, .inl (cI, 12, .inl fE)), (bT, .inl (cI, 12, .inl fT)), (bB, .inl (cI, 8, .inl fB)), (bN, .inl (cI, 40, .inl fN)), (bY, .inl (cI, 480, .inl fY)), (bU, .inl (cI, 480, .inl fU)), (bS, .inl (cZ, 96, .inl fS))]) (r := (z_pp (z_lk fY fU fS pn y 12) ra (fN (pn * 8 + y)) ca)) (As := [.int x3, .int z4]) (rest := [.long z1]) ⟨hx, hb, hml, hown, hts⟩ (c_X3_penaltyOf l dC dI cI cZ cJ bm bP bA bE bT bB bN bY bU bS lo up tp tr ra ca 0 n fP fA fE fT fB fN fY fU fS x3 z4 pn y ex3 hp ez4 hy) (cwV 2 hts gX3_penalties_X3_penaltyOf rfl rfl rfl (by decide +kernel) ⟨Nat.le_of_ble_eq_true rfl, Nat.le_of_ble_eq_true rfl⟩) hK (hP.sub [0, 1, 2, 3, 4, 5, 6, 7, 8, 9] rfl) 3 0 rfl rfl rfl rfl hl.1 rfl (Nat.le_of_ble_eq_true rfl) dX3_penalties_29 ⟨Nat.zero_le _, Nat.zero_le _⟩ ?_
              refine lv_ladd hx hb dX3_penalties_32 ?_
              refine lv_lstore_n (lv' := [(1, .long (z1 + (z_pp (z_lk fY fU fS pn y 12) ra (fN (pn * 8 + y)) ca))), (4, .int z4), (3, .int x3), (0, .ref bm)]) hx hb dX3_penalties_33 rfl hl (by decide) rfl (fun ls hl => ?_)
              refine lv_iinc (v := z4 + 1) (lv' := [(4, .int (z4 + 1)), (1, .long (z1 + (z_pp (z_lk fY fU fS pn y 12) ra (fN (pn * 8 + y)) ca))), (3, .int x3), (0, .ref bm)]) hx hb dX3_penalties_34 hl (k := 1) rfl rfl (by decide) rfl (fun ls hl => ?_)
              refine lv_goto (tgt := 17) hx hb dX3_penalties_37 (by decide) ?_
              exact ih_y (y + 1) (z1 + (z_pp (z_lk fY fU fS pn y 12) ra (fN (pn * 8 + y)) ca)) (z4 + 1) (by omega) (by omega) (by rw [ez1]; rfl) (q_s1 ez4)   ls (lv_sub hl [1, 0, 2, 3] rfl)
        exact lp_17 (8 + 1) 0 x1 0 (by omega) (by omega) (ex1) (rfl)   ls (lv_sub hl [1, 0, 2, 3] rfl)
  exact lp_9 (5 + 1) 0 0 0 (by omega) (by omega) (rfl) (rfl)   ls (lv_sub hl [1, 0, 2] rfl)
