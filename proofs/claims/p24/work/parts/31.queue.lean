set_option maxHeartbeats 4000000 in
set_option maxRecDepth 100000 in
theorem c_X1_bestFirst (l : Launch) (dC : Nat → ClassId) (dI : Nat → Nat → Nat) (cI cZ cJ : ClassId) (aq aP aA aT aO aE aI n : Nat) (fP fA fT fO fE fI : Nat → Int32) (ad aw : Nat) (lo up tp : Int32) (fW : Nat → Int32) (b : Int32) (o : Nat → Nat) (hn : n ≤ 12) (hO : ∀ k, k < n → fO k = nI (o k) ∧ o k < 12) : Met l yX1_bestFirst wsX1_bestFirst ({ frames := 2, cells := 0, slots := 0, locals := 44 }) (va_Pc [.ref aq, .ref ad, .int b] (q_R (dC, dI) vwCl (q_T cI cZ cJ) [(aq, .inr (1, [.ref aP, .ref aA, .ref aT, .ref aO, .int (nI n), .ref aE, .ref aI])), (aP, .inl (cI, 12, .inl fP)), (aA, .inl (cI, 12, .inl fA)), (aT, .inl (cI, 12, .inl fT)), (aO, .inl (cI, 12, .inl fO)), (aE, .inl (cI, 12, .inl fE)), (aI, .inl (cZ, 12, .inl fI)), (ad, .inr (0, [.ref aw, .int lo, .int up, .int tp])), (aw, .inl (cI, 1002, .inl fW))])) (QcRead (nI (z_ag (z_wf fW b fA fE o) n).1)) 0 0 (fun _ => False) := by
  refine Met.ofW (cc := cX1_bestFirst) (maxL := 10) (ret := (some .int)) (by decide) rfl ?_
  intro p e s m args below meth c s₁ B hml hv
  obtain ⟨rfl, hP, hK⟩ := hv
  have hx := B.exec
  have hb := B.bytes
  have hr := B.returns
  have hts := atoms_spec (ws := wsX1_bestFirst) B.pre
  have hown : s.vm.findClass RX1 = some m.cls := findClass_of_methodNamed B.named
  have hlocks := B.notSynchronized
  have hP : va_P (dC, dI) vwCl [(aq, .inr (1, [.ref aP, .ref aA, .ref aT, .ref aO, .int (nI n), .ref aE, .ref aI])), (aP, .inl (cI, 12, .inl fP)), (aA, .inl (cI, 12, .inl fA)), (aT, .inl (cI, 12, .inl fT)), (aO, .inl (cI, 12, .inl fO)), (aE, .inl (cI, 12, .inl fE)), (aI, .inl (cZ, 12, .inl fI)), (ad, .inr (0, [.ref aw, .int lo, .int up, .int tp])), (aw, .inl (cI, 1002, .inl fW))] s.heap := hP
  have hl := lv_entry ([.ref aq, .ref ad, .int b]) (n := 10) (Nat.le_of_ble_eq_true rfl)
  rw [lg_entry_eq]
  generalize (lg_sl ([.ref aq, .ref ad, .int b]) ++ List.replicate (10 - (lg_sl ([.ref aq, .ref ad, .int b])).length) Slot.unset).toArray = ls at hl ⊢
  have hl : lv_has ls 10 [(0, .ref aq), (1, .ref ad), (2, .int b)] := hl
  refine lv_iload_n hx hb dX1_bestFirst_0 rfl (lv_at hl 2 rfl) ?_
  refine lv_istore_n (lv' := [(3, .int b), (0, .ref aq), (1, .ref ad), (2, .int b)]) hx hb dX1_bestFirst_1 rfl hl (by decide) rfl (fun ls hl => ?_)
  refine lv_iconst (v := 0) hx hb dX1_bestFirst_2 (by decide) ?_
  refine lv_istore (lv' := [(4, .int 0), (3, .int b), (0, .ref aq), (1, .ref ad), (2, .int b)]) hx hb dX1_bestFirst_3 hl (by decide) rfl (fun ls hl => ?_)
  refine lv_aload_n hx hb dX1_bestFirst_5 rfl (lv_at hl 3 rfl) ?_
  refine lv_iload_n hx hb dX1_bestFirst_6 rfl (lv_at hl 1 rfl) ?_
  refine q_rV (wc := [(ad, .inr (0, [.ref aw, .int lo, .int up, .int tp])), (aw, .inl (cI, 1002, .inl fW))]) (r := (fW (z_wi b))) (As := [.int b]) (rest := []) ⟨hx, hb, hml, hown, hts⟩ (c_X0_worthOf l dC dI cI cZ cJ ad aw lo up tp fW b) (cwV 1 hts gX1_bestFirst_X0_worthOf rfl rfl rfl (by decide +kernel) ⟨Nat.le_of_ble_eq_true rfl, Nat.le_of_ble_eq_true rfl⟩) hK (hP.sub [7, 8] rfl) 0 0 rfl rfl rfl rfl hl.1 rfl (Nat.le_of_ble_eq_true rfl) dX1_bestFirst_7 ⟨Nat.zero_le _, Nat.zero_le _⟩ ?_
  refine lv_istore (lv' := [(5, .int (fW (z_wi b))), (4, .int 0), (3, .int b), (0, .ref aq), (1, .ref ad), (2, .int b)]) hx hb dX1_bestFirst_10 hl (by decide) rfl (fun ls hl => ?_)
  refine lv_iconst (v := 0) hx hb dX1_bestFirst_12 (by decide) ?_
  refine lv_istore (lv' := [(6, .int 0), (5, .int (fW (z_wi b))), (4, .int 0), (3, .int b), (0, .ref aq), (1, .ref ad), (2, .int b)]) hx hb dX1_bestFirst_13 hl (by decide) rfl (fun ls hl => ?_)
  refine lv_iconst (v := 0) hx hb dX1_bestFirst_15 (by decide) ?_
  refine lv_istore (lv' := [(7, .int 0), (6, .int 0), (5, .int (fW (z_wi b))), (4, .int 0), (3, .int b), (0, .ref aq), (1, .ref ad), (2, .int b)]) hx hb dX1_bestFirst_16 hl (by decide) rfl (fun ls hl => ?_)
  have lp_18 : ∀ (wk k : Nat) (x3 : Int32) (x4 : Int32) (x5 : Int32) (x6 : Int32) (x7 : Int32), k ≤ n → n < k + wk → x3 = z_am b fA o k → x4 = z_co fA fE o k → x5 = (z_ag (z_wf fW b fA fE o) k).2 → x6 = nI (z_ag (z_wf fW b fA fE o) k).1 → x7 = nI k → ∀ (ls : Array Slot), lv_has ls 10 [(3, .int x3), (4, .int x4), (5, .int x5), (6, .int x6), (7, .int x7), (0, .ref aq), (1, .ref ad)] → W p l e (headSpec wsX1_bestFirst ({ frames := 2, cells := 0, slots := 0, locals := 44 })).room s m [.ref aq, .ref ad, .int b].toArray below meth c s.heap [] 0 0 (MQ below (QcRead (nI (z_ag (z_wf fW b fA fE o) n).1)) [.ref aq, .ref ad, .int b].toArray s 0 0 (fun _ => False)) (F0 m 18 ls []) := by
    intro wk
    induction wk with
    | zero => intro k x3 x4 x5 x6 x7 hk_k hw_k; exact absurd hw_k (by omega)
    | succ wk ih_k =>
      intro k x3 x4 x5 x6 x7 hk_k hw_k ex3 ex4 ex5 ex6 ex7   ls hl
      refine lv_iload hx hb dX1_bestFirst_18 (lv_at hl 4 rfl) ?_
      refine lv_aload_n hx hb dX1_bestFirst_20 rfl (lv_at hl 5 rfl) ?_
      refine va_get (D := (dC, dI)) (ci := 1) (v := .int (nI n)) (C := RX1) (T := TX1) (N := 7) hx hb hts (by decide +kernel) hown hK hP 0 rfl rfl 4 (by decide) (hts (.fieldLink RX1 31 "CapacityRound$Queue" "count" "I") (by decide +kernel)) (fun _ h9 => h9) rfl dX1_bestFirst_21 ?_
      refine lv_icmp_ge (tgt := 99) hx hb dX1_bestFirst_24 (by decide) (fun c_24 => ?_) (fun c_24 => ?_)
      · have hkn : k = n := q_ex ex7 hk_k (by omega) c_24
        refine lv_iload hx hb dX1_bestFirst_99 (lv_at hl 3 rfl) ?_
        exact W.iret (v := x6) hx hb hr (fun tS htS hWS => ⟨congrArg (fun z => Outcome.returned (some (Value.int z))) (ex6.trans (by rw [hkn]) : (x6 : Int32) = nI (z_ag (z_wf fW b fA fE o) n).1), htS⟩) (fun _ h => nomatch h) dX1_bestFirst_101
      · have hkn : k < n := q_lt ex7 hk_k (by omega) c_24
        obtain ⟨ho, ho12⟩ := hO k hkn
        refine lv_aload_n hx hb dX1_bestFirst_27 rfl (lv_at hl 5 rfl) ?_
        refine va_get (D := (dC, dI)) (ci := 1) (v := .ref aO) (C := RX1) (T := TX1) (N := 7) hx hb hts (by decide +kernel) hown hK hP 0 rfl rfl 3 (by decide) (hts (.fieldLink RX1 21 "CapacityRound$Queue" "order" "[I") (by decide +kernel)) (fun _ h9 => h9) rfl dX1_bestFirst_28 ?_
        refine lv_iload hx hb dX1_bestFirst_31 (lv_at hl 4 rfl) ?_
        refine q_iald hx hb hK hP 4 0 rfl rfl k (ex7) (by omega) (by decide) dX1_bestFirst_33 ?_
        refine lv_topi (fun v_1 ev_1 => ?_)
        obtain rfl : v_1 = nI (o k) := ev_1.trans (ho)
        refine lv_istore (lv' := [(8, .int (nI (o k))), (3, .int x3), (4, .int x4), (5, .int x5), (6, .int x6), (7, .int x7), (0, .ref aq), (1, .ref ad)]) hx hb dX1_bestFirst_34 hl (by decide) rfl (fun ls hl => ?_)
        refine lv_iload_n hx hb dX1_bestFirst_36 rfl (lv_at hl 1 rfl) ?_
        refine lv_aload_n hx hb dX1_bestFirst_37 rfl (lv_at hl 6 rfl) ?_
        refine va_get (D := (dC, dI)) (ci := 1) (v := .ref aA) (C := RX1) (T := TX1) (N := 7) hx hb hts (by decide +kernel) hown hK hP 0 rfl rfl 1 (by decide) (hts (.fieldLink RX1 15 "CapacityRound$Queue" "amounts" "[I") (by decide +kernel)) (fun _ h9 => h9) rfl dX1_bestFirst_38 ?_
        refine lv_iload hx hb dX1_bestFirst_41 (lv_at hl 0 rfl) ?_
        refine q_iald hx hb hK hP 2 0 rfl rfl (o k) (rfl) (ho12) (by decide) dX1_bestFirst_43 ?_
        refine lv_iadd hx hb dX1_bestFirst_44 ?_
        refine lv_istore_n (lv' := [(3, .int (x3 + (fA (o k)))), (8, .int (nI (o k))), (4, .int x4), (5, .int x5), (6, .int x6), (7, .int x7), (0, .ref aq), (1, .ref ad)]) hx hb dX1_bestFirst_45 rfl hl (by decide) rfl (fun ls hl => ?_)
        refine lv_iload hx hb dX1_bestFirst_46 (lv_at hl 2 rfl) ?_
        refine lv_aload_n hx hb dX1_bestFirst_48 rfl (lv_at hl 6 rfl) ?_
        refine va_get (D := (dC, dI)) (ci := 1) (v := .ref aA) (C := RX1) (T := TX1) (N := 7) hx hb hts (by decide +kernel) hown hK hP 0 rfl rfl 1 (by decide) (hts (.fieldLink RX1 15 "CapacityRound$Queue" "amounts" "[I") (by decide +kernel)) (fun _ h9 => h9) rfl dX1_bestFirst_49 ?_
        refine lv_iload hx hb dX1_bestFirst_52 (lv_at hl 1 rfl) ?_
        refine q_iald hx hb hK hP 2 0 rfl rfl (o k) (rfl) (ho12) (by decide) dX1_bestFirst_54 ?_
        refine lv_aload_n hx hb dX1_bestFirst_55 rfl (lv_at hl 6 rfl) ?_
        refine va_get (D := (dC, dI)) (ci := 1) (v := .ref aE) (C := RX1) (T := TX1) (N := 7) hx hb hts (by decide +kernel) hown hK hP 0 rfl rfl 5 (by decide) (hts (.fieldLink RX1 24 "CapacityRound$Queue" "exits" "[I") (by decide +kernel)) (fun _ h9 => h9) rfl dX1_bestFirst_56 ?_
        refine lv_iload hx hb dX1_bestFirst_59 (lv_at hl 1 rfl) ?_
        refine q_iald hx hb hK hP 5 0 rfl rfl (o k) (rfl) (ho12) (by decide) dX1_bestFirst_61 ?_
        refine lv_imul hx hb dX1_bestFirst_62 ?_
        refine lv_iadd hx hb dX1_bestFirst_63 ?_
        refine lv_istore (lv' := [(4, .int (x4 + ((fA (o k)) * (fE (o k))))), (3, .int (x3 + (fA (o k)))), (8, .int (nI (o k))), (5, .int x5), (6, .int x6), (7, .int x7), (0, .ref aq), (1, .ref ad)]) hx hb dX1_bestFirst_64 hl (by decide) rfl (fun ls hl => ?_)
        refine lv_aload_n hx hb dX1_bestFirst_66 rfl (lv_at hl 7 rfl) ?_
        refine lv_iload_n hx hb dX1_bestFirst_67 rfl (lv_at hl 1 rfl) ?_
        refine q_rV (wc := [(ad, .inr (0, [.ref aw, .int lo, .int up, .int tp])), (aw, .inl (cI, 1002, .inl fW))]) (r := (fW (z_wi (x3 + fA (o k))))) (As := [.int (x3 + (fA (o k)))]) (rest := []) ⟨hx, hb, hml, hown, hts⟩ (c_X0_worthOf l dC dI cI cZ cJ ad aw lo up tp fW (x3 + fA (o k))) (cwV 1 hts gX1_bestFirst_X0_worthOf rfl rfl rfl (by decide +kernel) ⟨Nat.le_of_ble_eq_true rfl, Nat.le_of_ble_eq_true rfl⟩) hK (hP.sub [7, 8] rfl) 0 0 rfl rfl rfl rfl hl.1 rfl (Nat.le_of_ble_eq_true rfl) dX1_bestFirst_68 ⟨Nat.zero_le _, Nat.zero_le _⟩ ?_
        refine lv_iload hx hb dX1_bestFirst_71 (lv_at hl 0 rfl) ?_
        refine lv_isub hx hb dX1_bestFirst_73 ?_
        refine lv_istore (lv' := [(9, .int ((fW (z_wi (x3 + fA (o k)))) - (x4 + ((fA (o k)) * (fE (o k)))))), (4, .int (x4 + ((fA (o k)) * (fE (o k))))), (3, .int (x3 + (fA (o k)))), (8, .int (nI (o k))), (5, .int x5), (6, .int x6), (7, .int x7), (0, .ref aq), (1, .ref ad)]) hx hb dX1_bestFirst_74 hl (by decide) rfl (fun ls hl => ?_)
        refine lv_iload hx hb dX1_bestFirst_76 (lv_at hl 0 rfl) ?_
        refine lv_iload hx hb dX1_bestFirst_78 (lv_at hl 4 rfl) ?_
        refine lv_icmp_le (tgt := 93) hx hb dX1_bestFirst_80 (by decide) (fun c_80 => ?_) (fun c_80 => ?_)
        · have hw : fW (z_wi (x3 + fA (o k))) - (x4 + fA (o k) * fE (o k)) = (z_wf fW b fA fE o) (k + 1) := by rw [ex3, ex4]; rfl
          have hg := z_agn (wf := (z_wf fW b fA fE o)) (k := k) (by rw [← hw, ← ex5]; exact z_nlt.mpr c_80)
          have h5 : x5 = (z_ag (z_wf fW b fA fE o) (k + 1)).2 := by rw [hg]; exact ex5
          have h6 : x6 = nI (z_ag (z_wf fW b fA fE o) (k + 1)).1 := by rw [hg]; exact ex6
          refine lv_iinc (v := x7 + 1) (lv' := [(7, .int (x7 + 1)), (9, .int ((fW (z_wi (x3 + fA (o k)))) - (x4 + ((fA (o k)) * (fE (o k)))))), (4, .int (x4 + ((fA (o k)) * (fE (o k))))), (3, .int (x3 + (fA (o k)))), (8, .int (nI (o k))), (5, .int x5), (6, .int x6), (0, .ref aq), (1, .ref ad)]) hx hb dX1_bestFirst_93 hl (k := 6) rfl rfl (by decide) rfl (fun ls hl => ?_)
          refine lv_goto (tgt := 18) hx hb dX1_bestFirst_96 (by decide) ?_
          exact ih_k (k + 1) (x3 + (fA (o k))) (x4 + ((fA (o k)) * (fE (o k)))) x5 x6 (x7 + 1) (by omega) (by omega) (by rw [ex3]; rfl) (by rw [ex4]; rfl) (h5) (h6) (q_s1 ex7)   ls (lv_sub hl [3, 2, 5, 6, 0, 7, 8] rfl)
        · have hw : fW (z_wi (x3 + fA (o k))) - (x4 + fA (o k) * fE (o k)) = (z_wf fW b fA fE o) (k + 1) := by rw [ex3, ex4]; rfl
          have hg := z_agy (wf := (z_wf fW b fA fE o)) (k := k) (by rw [← hw, ← ex5]; exact z_nle.mp c_80)
          have h5 : fW (z_wi (x3 + fA (o k))) - (x4 + fA (o k) * fE (o k)) = (z_ag (z_wf fW b fA fE o) (k + 1)).2 := by rw [hg]; exact hw
          have h6 : x7 + 1 = nI (z_ag (z_wf fW b fA fE o) (k + 1)).1 := by rw [hg]; exact q_s1 ex7
          refine lv_iload hx hb dX1_bestFirst_83 (lv_at hl 0 rfl) ?_
          refine lv_istore (lv' := [(5, .int ((fW (z_wi (x3 + fA (o k)))) - (x4 + ((fA (o k)) * (fE (o k)))))), (9, .int ((fW (z_wi (x3 + fA (o k)))) - (x4 + ((fA (o k)) * (fE (o k)))))), (4, .int (x4 + ((fA (o k)) * (fE (o k))))), (3, .int (x3 + (fA (o k)))), (8, .int (nI (o k))), (6, .int x6), (7, .int x7), (0, .ref aq), (1, .ref ad)]) hx hb dX1_bestFirst_85 hl (by decide) rfl (fun ls hl => ?_)
          refine lv_iload hx hb dX1_bestFirst_87 (lv_at hl 6 rfl) ?_
          refine lv_iconst (v := 1) hx hb dX1_bestFirst_89 (by decide) ?_
          refine lv_iadd hx hb dX1_bestFirst_90 ?_
          refine lv_istore (lv' := [(6, .int (x7 + 1)), (5, .int ((fW (z_wi (x3 + fA (o k)))) - (x4 + ((fA (o k)) * (fE (o k)))))), (9, .int ((fW (z_wi (x3 + fA (o k)))) - (x4 + ((fA (o k)) * (fE (o k)))))), (4, .int (x4 + ((fA (o k)) * (fE (o k))))), (3, .int (x3 + (fA (o k)))), (8, .int (nI (o k))), (7, .int x7), (0, .ref aq), (1, .ref ad)]) hx hb dX1_bestFirst_91 hl (by decide) rfl (fun ls hl => ?_)
          refine lv_iinc (v := x7 + 1) (lv' := [(7, .int (x7 + 1)), (6, .int (x7 + 1)), (5, .int ((fW (z_wi (x3 + fA (o k)))) - (x4 + ((fA (o k)) * (fE (o k)))))), (9, .int ((fW (z_wi (x3 + fA (o k)))) - (x4 + ((fA (o k)) * (fE (o k)))))), (4, .int (x4 + ((fA (o k)) * (fE (o k))))), (3, .int (x3 + (fA (o k)))), (8, .int (nI (o k))), (0, .ref aq), (1, .ref ad)]) hx hb dX1_bestFirst_93 hl (k := 6) rfl rfl (by decide) rfl (fun ls hl => ?_)
          refine lv_goto (tgt := 18) hx hb dX1_bestFirst_96 (by decide) ?_
          exact ih_k (k + 1) (x3 + (fA (o k))) (x4 + ((fA (o k)) * (fE (o k)))) ((fW (z_wi (x3 + fA (o k)))) - (x4 + ((fA (o k)) * (fE (o k))))) (x7 + 1) (x7 + 1) (by omega) (by omega) (by rw [ex3]; rfl) (by rw [ex4]; rfl) (h5) (h6) (q_s1 ex7)   ls (lv_sub hl [5, 4, 2, 1, 0, 7, 8] rfl)
  exact lp_18 (n + 1) 0 b 0 (fW (z_wi b)) 0 0 (by omega) (by omega) (rfl) (rfl) (by simp [z_ag, z_wf, z_am, z_co]) (rfl) (rfl)   ls (lv_sub hl [4, 3, 2, 1, 0, 5, 6] rfl)
