set_option maxHeartbeats 4000000 in
set_option maxRecDepth 100000 in
theorem c_X3_taken (l : Launch) (dC : Nat → ClassId) (dI : Nat → Nat → Nat) (cI cZ cJ : ClassId) (bm bP bA bE bT bB bN bY bU bS : Nat) (lo up tp tr ra ca tw : Int32) (n : Nat) (fP fA fE fT fB fN fY fU fS : Nat → Int32) (y0 : Int32) (hn : n ≤ 12) (hy : y0 = nI (z_n y0)) (hy8 : z_n y0 < 8) (hup : up = nI (z_n up)) (hup2 : z_n up ≤ 1001) : Met l yX3_taken wsX3_taken ({ frames := 2, cells := 0, slots := 0, locals := 44 }) (va_Pc [.ref bm, .int y0] (q_R (dC, dI) vwCl (q_T cI cZ cJ) [(bm, .inr (3, [.int lo, .int up, .int tp, .ref bP, .ref bA, .ref bE, .ref bT, .int (nI n), .ref bB, .ref bN, .ref bY, .ref bU, .ref bS, .int tr, .int ra, .int ca, .int tw])), (bP, .inl (cI, 12, .inl fP)), (bA, .inl (cI, 12, .inl fA)), (bE, .inl (cI, 12, .inl fE)), (bT, .inl (cI, 12, .inl fT)), (bB, .inl (cI, 8, .inl fB)), (bN, .inl (cI, 40, .inl fN)), (bY, .inl (cI, 480, .inl fY)), (bU, .inl (cI, 480, .inl fU)), (bS, .inl (cZ, 96, .inl fS))])) (QcRead (nI (z_ag (z_mw lo up tp (fB (z_n y0)) fA fE n) n).1)) 0 0 (fun _ => False) := by
  refine Met.ofW (cc := cX3_taken) (maxL := 9) (ret := (some .int)) (by decide) rfl ?_
  intro p e s m args below meth c s₁ B hml hv
  obtain ⟨rfl, hP, hK⟩ := hv
  have hx := B.exec
  have hb := B.bytes
  have hr := B.returns
  have hts := atoms_spec (ws := wsX3_taken) B.pre
  have hown : s.vm.findClass RX3 = some m.cls := findClass_of_methodNamed B.named
  have hlocks := B.notSynchronized
  have hP : va_P (dC, dI) vwCl [(bm, .inr (3, [.int lo, .int up, .int tp, .ref bP, .ref bA, .ref bE, .ref bT, .int (nI n), .ref bB, .ref bN, .ref bY, .ref bU, .ref bS, .int tr, .int ra, .int ca, .int tw])), (bP, .inl (cI, 12, .inl fP)), (bA, .inl (cI, 12, .inl fA)), (bE, .inl (cI, 12, .inl fE)), (bT, .inl (cI, 12, .inl fT)), (bB, .inl (cI, 8, .inl fB)), (bN, .inl (cI, 40, .inl fN)), (bY, .inl (cI, 480, .inl fY)), (bU, .inl (cI, 480, .inl fU)), (bS, .inl (cZ, 96, .inl fS))] s.heap := hP
  have hl := lv_entry ([.ref bm, .int y0]) (n := 9) (Nat.le_of_ble_eq_true rfl)
  rw [lg_entry_eq]
  generalize (lg_sl ([.ref bm, .int y0]) ++ List.replicate (9 - (lg_sl ([.ref bm, .int y0])).length) Slot.unset).toArray = ls at hl ⊢
  have hl : lv_has ls 9 [(0, .ref bm), (1, .int y0)] := hl
  refine lv_iconst (v := 0) hx hb dX3_taken_0 (by decide) ?_
  refine lv_istore_n (lv' := [(2, .int 0), (0, .ref bm), (1, .int y0)]) hx hb dX3_taken_1 rfl hl (by decide) rfl (fun ls hl => ?_)
  refine lv_aload_n hx hb dX3_taken_2 rfl (lv_at hl 1 rfl) ?_
  refine lv_aload_n hx hb dX3_taken_3 rfl (lv_at hl 1 rfl) ?_
  refine va_get (D := (dC, dI)) (ci := 3) (v := .ref bB) (C := RX3) (T := TX3) (N := 17) hx hb hts (by decide +kernel) hown hK hP 0 rfl rfl 8 (by decide) (hts (.fieldLink RX3 32 "CapacityRoundModel" "bought" "[I") (by decide +kernel)) (fun _ h9 => h9) rfl dX3_taken_4 ?_
  refine lv_iload_n hx hb dX3_taken_7 rfl (lv_at hl 2 rfl) ?_
  refine q_iald hx hb hK hP 5 0 rfl rfl (z_n y0) (hy) (hy8) (by decide) dX3_taken_8 ?_
  refine q_rV (wc := [(bm, .inr (3, [.int lo, .int up, .int tp, .ref bP, .ref bA, .ref bE, .ref bT, .int (nI n), .ref bB, .ref bN, .ref bY, .ref bU, .ref bS, .int tr, .int ra, .int ca, .int tw])), (bP, .inl (cI, 12, .inl fP)), (bA, .inl (cI, 12, .inl fA)), (bE, .inl (cI, 12, .inl fE)), (bT, .inl (cI, 12, .inl fT)), (bB, .inl (cI, 8, .inl fB)), (bN, .inl (cI, 40, .inl fN)), (bY, .inl (cI, 480, .inl fY)), (bU, .inl (cI, 480, .inl fU)), (bS, .inl (cZ, 96, .inl fS))]) (r := (z_w lo up tp (min (z_n (fB (z_n y0))) (z_n up)))) (As := [.int (fB (z_n y0))]) (rest := []) ⟨hx, hb, hml, hown, hts⟩ (c_X3_worthOf l dC dI cI cZ cJ bm bP bA bE bT bB bN bY bU bS lo up tp tr ra ca tw n fP fA fE fT fB fN fY fU fS (fB (z_n y0)) hup hup2) (cwV 1 hts gX3_taken_X3_worthOf rfl rfl rfl (by decide +kernel) ⟨Nat.le_of_ble_eq_true rfl, Nat.le_of_ble_eq_true rfl⟩) hK (hP.sub [0, 1, 2, 3, 4, 5, 6, 7, 8, 9] rfl) 3 0 rfl rfl rfl rfl hl.1 rfl (Nat.le_of_ble_eq_true rfl) dX3_taken_9 ⟨Nat.zero_le _, Nat.zero_le _⟩ ?_
  refine lv_istore_n (lv' := [(3, .int (z_w lo up tp (min (z_n (fB (z_n y0))) (z_n up)))), (2, .int 0), (0, .ref bm), (1, .int y0)]) hx hb dX3_taken_12 rfl hl (by decide) rfl (fun ls hl => ?_)
  refine lv_iconst (v := 1) hx hb dX3_taken_13 (by decide) ?_
  refine lv_istore (lv' := [(4, .int 1), (3, .int (z_w lo up tp (min (z_n (fB (z_n y0))) (z_n up)))), (2, .int 0), (0, .ref bm), (1, .int y0)]) hx hb dX3_taken_14 hl (by decide) rfl (fun ls hl => ?_)
  have lp_16 : ∀ (wk k : Nat) (x2 : Int32) (x3 : Int32) (x4 : Int32), k ≤ n → n < k + wk → x2 = nI (z_ag (z_mw lo up tp (fB (z_n y0)) fA fE n) k).1 → x3 = (z_ag (z_mw lo up tp (fB (z_n y0)) fA fE n) k).2 → x4 = nI (k + 1) → ∀ (ls : Array Slot), lv_has ls 9 [(2, .int x2), (3, .int x3), (4, .int x4), (0, .ref bm), (1, .int y0)] → W p l e (headSpec wsX3_taken ({ frames := 2, cells := 0, slots := 0, locals := 44 })).room s m [.ref bm, .int y0].toArray below meth c s.heap [] 0 0 (MQ below (QcRead (nI (z_ag (z_mw lo up tp (fB (z_n y0)) fA fE n) n).1)) [.ref bm, .int y0].toArray s 0 0 (fun _ => False)) (F0 m 16 ls []) := by
    intro wk
    induction wk with
    | zero => intro k x2 x3 x4 hk_k hw_k; exact absurd hw_k (by omega)
    | succ wk ih_k =>
      intro k x2 x3 x4 hk_k hw_k ex2 ex3 ex4   ls hl
      refine lv_iload hx hb dX3_taken_16 (lv_at hl 2 rfl) ?_
      refine lv_aload_n hx hb dX3_taken_18 rfl (lv_at hl 3 rfl) ?_
      refine va_get (D := (dC, dI)) (ci := 3) (v := .int (nI n)) (C := RX3) (T := TX3) (N := 17) hx hb hts (by decide +kernel) hown hK hP 0 rfl rfl 7 (by decide) (hts (.fieldLink RX3 76 "CapacityRoundModel" "many" "I") (by decide +kernel)) (fun _ h9 => h9) rfl dX3_taken_19 ?_
      refine lv_icmp_gt (tgt := 165) hx hb dX3_taken_22 (by decide) (fun c_22 => ?_) (fun c_22 => ?_)
      · have hkn : k = n := by have h9 := (q_cgt (y := nI n) rfl ex4 (by omega) (by omega)).mp c_22; omega
        refine lv_iload_n hx hb dX3_taken_165 rfl (lv_at hl 0 rfl) ?_
        exact W.iret (v := x2) hx hb hr (fun tS htS hWS => ⟨congrArg (fun z => Outcome.returned (some (Value.int z))) (ex2.trans (by rw [hkn]) : (x2 : Int32) = nI (z_ag (z_mw lo up tp (fB (z_n y0)) fA fE n) n).1), htS⟩) (fun _ h => nomatch h) dX3_taken_166
      · have hkn : k < n := by have h9 := (not_congr (q_cgt (y := nI n) rfl ex4 (by omega) (by omega))).mp c_22; omega
        refine lv_aload_n hx hb dX3_taken_25 rfl (lv_at hl 3 rfl) ?_
        refine va_get (D := (dC, dI)) (ci := 3) (v := .ref bB) (C := RX3) (T := TX3) (N := 17) hx hb hts (by decide +kernel) hown hK hP 0 rfl rfl 8 (by decide) (hts (.fieldLink RX3 32 "CapacityRoundModel" "bought" "[I") (by decide +kernel)) (fun _ h9 => h9) rfl dX3_taken_26 ?_
        refine lv_iload_n hx hb dX3_taken_29 rfl (lv_at hl 4 rfl) ?_
        refine q_iald hx hb hK hP 5 0 rfl rfl (z_n y0) (hy) (hy8) (by decide) dX3_taken_30 ?_
        refine lv_istore (lv' := [(5, .int (fB (z_n y0))), (2, .int x2), (3, .int x3), (4, .int x4), (0, .ref bm), (1, .int y0)]) hx hb dX3_taken_31 hl (by decide) rfl (fun ls hl => ?_)
        refine lv_iconst (v := 0) hx hb dX3_taken_33 (by decide) ?_
        refine lv_istore (lv' := [(6, .int 0), (5, .int (fB (z_n y0))), (2, .int x2), (3, .int x3), (4, .int x4), (0, .ref bm), (1, .int y0)]) hx hb dX3_taken_34 hl (by decide) rfl (fun ls hl => ?_)
        refine lv_iconst (v := 0) hx hb dX3_taken_36 (by decide) ?_
        refine lv_istore (lv' := [(7, .int 0), (6, .int 0), (5, .int (fB (z_n y0))), (2, .int x2), (3, .int x3), (4, .int x4), (0, .ref bm), (1, .int y0)]) hx hb dX3_taken_37 hl (by decide) rfl (fun ls hl => ?_)
        have lp_39 : ∀ (wj j : Nat) (x5 : Int32) (x6 : Int32) (x7 : Int32), j ≤ n → n < j + wj → x5 = z_us (fB (z_n y0)) fA (fun j => z_rk fE j n) (k + 1) j → x6 = z_us 0 (fun j => fA j * fE j) (fun j => z_rk fE j n) (k + 1) j → x7 = nI j → ∀ (ls : Array Slot), lv_has ls 9 [(5, .int x5), (6, .int x6), (7, .int x7), (2, .int x2), (3, .int x3), (4, .int x4), (0, .ref bm), (1, .int y0)] → W p l e (headSpec wsX3_taken ({ frames := 2, cells := 0, slots := 0, locals := 44 })).room s m [.ref bm, .int y0].toArray below meth c s.heap [] 0 0 (MQ below (QcRead (nI (z_ag (z_mw lo up tp (fB (z_n y0)) fA fE n) n).1)) [.ref bm, .int y0].toArray s 0 0 (fun _ => False)) (F0 m 39 ls []) := by
          intro wj
          induction wj with
          | zero => intro j x5 x6 x7 hk_j hw_j; exact absurd hw_j (by omega)
          | succ wj ih_j =>
            intro j x5 x6 x7 hk_j hw_j ex5 ex6 ex7   ls hl
            refine lv_iload hx hb dX3_taken_39 (lv_at hl 2 rfl) ?_
            refine lv_aload_n hx hb dX3_taken_41 rfl (lv_at hl 6 rfl) ?_
            refine va_get (D := (dC, dI)) (ci := 3) (v := .int (nI n)) (C := RX3) (T := TX3) (N := 17) hx hb hts (by decide +kernel) hown hK hP 0 rfl rfl 7 (by decide) (hts (.fieldLink RX3 76 "CapacityRoundModel" "many" "I") (by decide +kernel)) (fun _ h9 => h9) rfl dX3_taken_42 ?_
            refine lv_icmp_ge (tgt := 122) hx hb dX3_taken_45 (by decide) (fun c_45 => ?_) (fun c_45 => ?_)
            · have hjn : j = n := q_ex ex7 hk_j (by omega) c_45
              rw [hjn] at ex5 ex6
              refine lv_aload_n hx hb dX3_taken_122 rfl (lv_at hl 6 rfl) ?_
              refine lv_iload hx hb dX3_taken_123 (lv_at hl 0 rfl) ?_
              refine q_rV (wc := [(bm, .inr (3, [.int lo, .int up, .int tp, .ref bP, .ref bA, .ref bE, .ref bT, .int (nI n), .ref bB, .ref bN, .ref bY, .ref bU, .ref bS, .int tr, .int ra, .int ca, .int tw])), (bP, .inl (cI, 12, .inl fP)), (bA, .inl (cI, 12, .inl fA)), (bE, .inl (cI, 12, .inl fE)), (bT, .inl (cI, 12, .inl fT)), (bB, .inl (cI, 8, .inl fB)), (bN, .inl (cI, 40, .inl fN)), (bY, .inl (cI, 480, .inl fY)), (bU, .inl (cI, 480, .inl fU)), (bS, .inl (cZ, 96, .inl fS))]) (r := (z_w lo up tp (min (z_n x5) (z_n up)))) (As := [.int x5]) (rest := []) ⟨hx, hb, hml, hown, hts⟩ (c_X3_worthOf l dC dI cI cZ cJ bm bP bA bE bT bB bN bY bU bS lo up tp tr ra ca tw n fP fA fE fT fB fN fY fU fS x5 hup hup2) (cwV 1 hts gX3_taken_X3_worthOf rfl rfl rfl (by decide +kernel) ⟨Nat.le_of_ble_eq_true rfl, Nat.le_of_ble_eq_true rfl⟩) hK (hP.sub [0, 1, 2, 3, 4, 5, 6, 7, 8, 9] rfl) 3 0 rfl rfl rfl rfl hl.1 rfl (Nat.le_of_ble_eq_true rfl) dX3_taken_125 ⟨Nat.zero_le _, Nat.zero_le _⟩ ?_
              refine lv_iload hx hb dX3_taken_128 (lv_at hl 1 rfl) ?_
              refine lv_isub hx hb dX3_taken_130 ?_
              have hw : z_w lo up tp (min (z_n x5) (z_n up)) - x6 = (z_mw lo up tp (fB (z_n y0)) fA fE n) (k + 1) := by rw [ex5, ex6]; rfl
              refine lv_istore (lv' := [(7, .int ((z_w lo up tp (min (z_n x5) (z_n up))) - x6)), (5, .int x5), (6, .int x6), (2, .int x2), (3, .int x3), (4, .int x4), (0, .ref bm), (1, .int y0)]) hx hb dX3_taken_131 hl (by decide) rfl (fun ls hl => ?_)
              have jn_145 : ∀ (v145 : Int32), v145 = nI (z_ag (z_mw lo up tp (fB (z_n y0)) fA fE n) (k + 1)).1 → ∀ (ls : Array Slot), lv_has ls 9 [(7, .int ((z_w lo up tp (min (z_n x5) (z_n up))) - x6)), (3, .int x3), (4, .int x4), (0, .ref bm), (1, .int y0)] → W p l e (headSpec wsX3_taken ({ frames := 2, cells := 0, slots := 0, locals := 44 })).room s m [.ref bm, .int y0].toArray below meth c s.heap [] 0 0 (MQ below (QcRead (nI (z_ag (z_mw lo up tp (fB (z_n y0)) fA fE n) n).1)) [.ref bm, .int y0].toArray s 0 0 (fun _ => False)) (F0 m 145 ls [.int v145]) := by
                intro v145 ev145  ls hl
                subst ev145
                refine lv_istore_n (lv' := [(2, .int (nI (z_ag (z_mw lo up tp (fB (z_n y0)) fA fE n) (k + 1)).1)), (7, .int ((z_w lo up tp (min (z_n x5) (z_n up))) - x6)), (3, .int x3), (4, .int x4), (0, .ref bm), (1, .int y0)]) hx hb dX3_taken_145 rfl hl (by decide) rfl (fun ls hl => ?_)
                have jn_158 : ∀ (v158 : Int32), v158 = (z_ag (z_mw lo up tp (fB (z_n y0)) fA fE n) (k + 1)).2 → ∀ (ls : Array Slot), lv_has ls 9 [(2, .int (nI (z_ag (z_mw lo up tp (fB (z_n y0)) fA fE n) (k + 1)).1)), (4, .int x4), (0, .ref bm), (1, .int y0)] → W p l e (headSpec wsX3_taken ({ frames := 2, cells := 0, slots := 0, locals := 44 })).room s m [.ref bm, .int y0].toArray below meth c s.heap [] 0 0 (MQ below (QcRead (nI (z_ag (z_mw lo up tp (fB (z_n y0)) fA fE n) n).1)) [.ref bm, .int y0].toArray s 0 0 (fun _ => False)) (F0 m 158 ls [.int v158]) := by
                  intro v158 ev158  ls hl
                  subst ev158
                  refine lv_istore_n (lv' := [(3, .int ((z_ag (z_mw lo up tp (fB (z_n y0)) fA fE n) (k + 1)).2)), (2, .int (nI (z_ag (z_mw lo up tp (fB (z_n y0)) fA fE n) (k + 1)).1)), (4, .int x4), (0, .ref bm), (1, .int y0)]) hx hb dX3_taken_158 rfl hl (by decide) rfl (fun ls hl => ?_)
                  refine lv_iinc (v := x4 + 1) (lv' := [(4, .int (x4 + 1)), (3, .int ((z_ag (z_mw lo up tp (fB (z_n y0)) fA fE n) (k + 1)).2)), (2, .int (nI (z_ag (z_mw lo up tp (fB (z_n y0)) fA fE n) (k + 1)).1)), (0, .ref bm), (1, .int y0)]) hx hb dX3_taken_159 hl (k := 2) rfl rfl (by decide) rfl (fun ls hl => ?_)
                  refine lv_goto (tgt := 16) hx hb dX3_taken_162 (by decide) ?_
                  exact ih_k (k + 1) (nI (z_ag (z_mw lo up tp (fB (z_n y0)) fA fE n) (k + 1)).1) ((z_ag (z_mw lo up tp (fB (z_n y0)) fA fE n) (k + 1)).2) (x4 + 1) (by omega) (by omega) (rfl) (rfl) (q_s1 ex4)   ls (lv_sub hl [2, 1, 0, 3, 4] rfl)
                refine lv_iload hx hb dX3_taken_146 (lv_at hl 1 rfl) ?_
                refine lv_iload_n hx hb dX3_taken_148 rfl (lv_at hl 2 rfl) ?_
                refine lv_icmp_le (tgt := 157) hx hb dX3_taken_149 (by decide) (fun c_149 => ?_) (fun c_149 => ?_)
                · have hg := z_agn (wf := (z_mw lo up tp (fB (z_n y0)) fA fE n)) (k := k) (by rw [← hw, ← ex3]; exact z_nlt.mpr c_149)
                  have hv : x3 = (z_ag (z_mw lo up tp (fB (z_n y0)) fA fE n) (k + 1)).2 := by rw [hg]; exact ex3
                  refine lv_iload_n hx hb dX3_taken_157 rfl (lv_at hl 2 rfl) ?_
                  exact jn_158 x3 (hv)  ls (lv_sub hl [0, 3, 4, 5] rfl)
                · have hg := z_agy (wf := (z_mw lo up tp (fB (z_n y0)) fA fE n)) (k := k) (by rw [← hw, ← ex3]; exact z_nle.mp c_149)
                  have hv : z_w lo up tp (min (z_n x5) (z_n up)) - x6 = (z_ag (z_mw lo up tp (fB (z_n y0)) fA fE n) (k + 1)).2 := by rw [hg]; exact hw
                  refine lv_iload hx hb dX3_taken_152 (lv_at hl 1 rfl) ?_
                  refine lv_goto (tgt := 158) hx hb dX3_taken_154 (by decide) ?_
                  exact jn_158 ((z_w lo up tp (min (z_n x5) (z_n up))) - x6) (hv)  ls (lv_sub hl [0, 3, 4, 5] rfl)
              refine lv_iload hx hb dX3_taken_133 (lv_at hl 0 rfl) ?_
              refine lv_iload_n hx hb dX3_taken_135 rfl (lv_at hl 4 rfl) ?_
              refine lv_icmp_le (tgt := 144) hx hb dX3_taken_136 (by decide) (fun c_136 => ?_) (fun c_136 => ?_)
              · have hg := z_agn (wf := (z_mw lo up tp (fB (z_n y0)) fA fE n)) (k := k) (by rw [← hw, ← ex3]; exact z_nlt.mpr c_136)
                have hv : x2 = nI (z_ag (z_mw lo up tp (fB (z_n y0)) fA fE n) (k + 1)).1 := by rw [hg]; exact ex2
                refine lv_iload_n hx hb dX3_taken_144 rfl (lv_at hl 3 rfl) ?_
                exact jn_145 x2 (hv)  ls (lv_sub hl [0, 4, 5, 6, 7] rfl)
              · have hg := z_agy (wf := (z_mw lo up tp (fB (z_n y0)) fA fE n)) (k := k) (by rw [← hw, ← ex3]; exact z_nle.mp c_136)
                have hv : x4 = nI (z_ag (z_mw lo up tp (fB (z_n y0)) fA fE n) (k + 1)).1 := by rw [hg]; exact ex4
                refine lv_iload hx hb dX3_taken_139 (lv_at hl 5 rfl) ?_
                refine lv_goto (tgt := 145) hx hb dX3_taken_141 (by decide) ?_
                exact jn_145 x4 (hv)  ls (lv_sub hl [0, 4, 5, 6, 7] rfl)
            · have hjn : j < n := q_lt ex7 hk_j (by omega) c_45
              have hrl := z_rkle fE j n
              have jn_64 : ∀ (v4 : Int32), v4 = z_b (decide (z_rk fE j n < k + 1)) → ∀ (ls : Array Slot), lv_has ls 9 [(5, .int x5), (6, .int x6), (7, .int x7), (2, .int x2), (3, .int x3), (4, .int x4), (0, .ref bm), (1, .int y0)] → W p l e (headSpec wsX3_taken ({ frames := 2, cells := 0, slots := 0, locals := 44 })).room s m [.ref bm, .int y0].toArray below meth c s.heap [] 0 0 (MQ below (QcRead (nI (z_ag (z_mw lo up tp (fB (z_n y0)) fA fE n) n).1)) [.ref bm, .int y0].toArray s 0 0 (fun _ => False)) (F0 m 64 ls [.int v4]) := by
                intro v4 ev4  ls hl
                subst ev4
                refine lv_istore (lv' := [(8, .int (z_b (decide (z_rk fE j n < k + 1)))), (5, .int x5), (6, .int x6), (7, .int x7), (2, .int x2), (3, .int x3), (4, .int x4), (0, .ref bm), (1, .int y0)]) hx hb dX3_taken_64 hl (by decide) rfl (fun ls hl => ?_)
                refine lv_iload hx hb dX3_taken_66 (lv_at hl 1 rfl) ?_
                have jn_84 : ∀ (v84 : Int32), v84 = (if z_rk fE j n < k + 1 then fA j else 0) → ∀ (ls : Array Slot), lv_has ls 9 [(8, .int (z_b (decide (z_rk fE j n < k + 1)))), (5, .int x5), (6, .int x6), (7, .int x7), (2, .int x2), (3, .int x3), (4, .int x4), (0, .ref bm), (1, .int y0)] → W p l e (headSpec wsX3_taken ({ frames := 2, cells := 0, slots := 0, locals := 44 })).room s m [.ref bm, .int y0].toArray below meth c s.heap [] 0 0 (MQ below (QcRead (nI (z_ag (z_mw lo up tp (fB (z_n y0)) fA fE n) n).1)) [.ref bm, .int y0].toArray s 0 0 (fun _ => False)) (F0 m 84 ls [.int v84, .int x5]) := by
                  intro v84 ev84  ls hl
                  subst ev84
                  refine lv_iadd hx hb dX3_taken_84 ?_
                  refine lv_istore (lv' := [(5, .int (x5 + (if z_rk fE j n < k + 1 then fA j else 0))), (8, .int (z_b (decide (z_rk fE j n < k + 1)))), (6, .int x6), (7, .int x7), (2, .int x2), (3, .int x3), (4, .int x4), (0, .ref bm), (1, .int y0)]) hx hb dX3_taken_85 hl (by decide) rfl (fun ls hl => ?_)
                  refine lv_iload hx hb dX3_taken_87 (lv_at hl 2 rfl) ?_
                  have jn_113 : ∀ (v113 : Int32), v113 = (if z_rk fE j n < k + 1 then fA j * fE j else 0) → ∀ (ls : Array Slot), lv_has ls 9 [(5, .int (x5 + (if z_rk fE j n < k + 1 then fA j else 0))), (8, .int (z_b (decide (z_rk fE j n < k + 1)))), (6, .int x6), (7, .int x7), (2, .int x2), (3, .int x3), (4, .int x4), (0, .ref bm), (1, .int y0)] → W p l e (headSpec wsX3_taken ({ frames := 2, cells := 0, slots := 0, locals := 44 })).room s m [.ref bm, .int y0].toArray below meth c s.heap [] 0 0 (MQ below (QcRead (nI (z_ag (z_mw lo up tp (fB (z_n y0)) fA fE n) n).1)) [.ref bm, .int y0].toArray s 0 0 (fun _ => False)) (F0 m 113 ls [.int v113, .int x6]) := by
                    intro v113 ev113  ls hl
                    subst ev113
                    refine lv_iadd hx hb dX3_taken_113 ?_
                    refine lv_istore (lv' := [(6, .int (x6 + (if z_rk fE j n < k + 1 then fA j * fE j else 0))), (5, .int (x5 + (if z_rk fE j n < k + 1 then fA j else 0))), (8, .int (z_b (decide (z_rk fE j n < k + 1)))), (7, .int x7), (2, .int x2), (3, .int x3), (4, .int x4), (0, .ref bm), (1, .int y0)]) hx hb dX3_taken_114 hl (by decide) rfl (fun ls hl => ?_)
                    refine lv_iinc (v := x7 + 1) (lv' := [(7, .int (x7 + 1)), (6, .int (x6 + (if z_rk fE j n < k + 1 then fA j * fE j else 0))), (5, .int (x5 + (if z_rk fE j n < k + 1 then fA j else 0))), (8, .int (z_b (decide (z_rk fE j n < k + 1)))), (2, .int x2), (3, .int x3), (4, .int x4), (0, .ref bm), (1, .int y0)]) hx hb dX3_taken_116 hl (k := 3) rfl rfl (by decide) rfl (fun ls hl => ?_)
                    refine lv_goto (tgt := 39) hx hb dX3_taken_119 (by decide) ?_
                    exact ih_j (j + 1) (x5 + (if z_rk fE j n < k + 1 then fA j else 0)) (x6 + (if z_rk fE j n < k + 1 then fA j * fE j else 0)) (x7 + 1) (by omega) (by omega) (by rw [ex5]; rfl) (by rw [ex6]; rfl) (q_s1 ex7)   ls (lv_sub hl [2, 1, 0, 4, 5, 6, 7, 8] rfl)
                  refine lv_iload hx hb dX3_taken_89 (lv_at hl 1 rfl) ?_
                  refine lv_if_eq (tgt := 112) hx hb dX3_taken_91 (by decide) (fun c_91 => ?_) (fun c_91 => ?_)
                  · have f_91 : (decide (z_rk fE j n < k + 1)) = false := z_bf c_91
                    refine lv_iconst (v := 0) hx hb dX3_taken_112 (by decide) ?_
                    exact jn_113 0 (by rw [if_neg (of_decide_eq_false f_91)])  ls (lv_sub hl [0, 1, 2, 3, 4, 5, 6, 7, 8] rfl)
                  · have f_91 : (decide (z_rk fE j n < k + 1)) = true := z_bt c_91
                    refine lv_aload_n hx hb dX3_taken_94 rfl (lv_at hl 7 rfl) ?_
                    refine va_get (D := (dC, dI)) (ci := 3) (v := .ref bA) (C := RX3) (T := TX3) (N := 17) hx hb hts (by decide +kernel) hown hK hP 0 rfl rfl 4 (by decide) (hts (.fieldLink RX3 23 "CapacityRoundModel" "amount" "[I") (by decide +kernel)) (fun _ h9 => h9) rfl dX3_taken_95 ?_
                    refine lv_iload hx hb dX3_taken_98 (lv_at hl 3 rfl) ?_
                    refine q_iald hx hb hK hP 2 0 rfl rfl j (ex7) (by omega) (by decide) dX3_taken_100 ?_
                    refine lv_aload_n hx hb dX3_taken_101 rfl (lv_at hl 7 rfl) ?_
                    refine va_get (D := (dC, dI)) (ci := 3) (v := .ref bE) (C := RX3) (T := TX3) (N := 17) hx hb hts (by decide +kernel) hown hK hP 0 rfl rfl 5 (by decide) (hts (.fieldLink RX3 26 "CapacityRoundModel" "exit" "[I") (by decide +kernel)) (fun _ h9 => h9) rfl dX3_taken_102 ?_
                    refine lv_iload hx hb dX3_taken_105 (lv_at hl 3 rfl) ?_
                    refine q_iald hx hb hK hP 3 0 rfl rfl j (ex7) (by omega) (by decide) dX3_taken_107 ?_
                    refine lv_imul hx hb dX3_taken_108 ?_
                    refine lv_goto (tgt := 113) hx hb dX3_taken_109 (by decide) ?_
                    exact jn_113 ((fA j) * (fE j)) (by rw [if_pos (of_decide_eq_true f_91)])  ls (lv_sub hl [0, 1, 2, 3, 4, 5, 6, 7, 8] rfl)
                refine lv_iload hx hb dX3_taken_68 (lv_at hl 0 rfl) ?_
                refine lv_if_eq (tgt := 83) hx hb dX3_taken_70 (by decide) (fun c_70 => ?_) (fun c_70 => ?_)
                · have f_70 : (decide (z_rk fE j n < k + 1)) = false := z_bf c_70
                  refine lv_iconst (v := 0) hx hb dX3_taken_83 (by decide) ?_
                  exact jn_84 0 (by rw [if_neg (of_decide_eq_false f_70)])  ls (lv_sub hl [0, 1, 2, 3, 4, 5, 6, 7, 8] rfl)
                · have f_70 : (decide (z_rk fE j n < k + 1)) = true := z_bt c_70
                  refine lv_aload_n hx hb dX3_taken_73 rfl (lv_at hl 7 rfl) ?_
                  refine va_get (D := (dC, dI)) (ci := 3) (v := .ref bA) (C := RX3) (T := TX3) (N := 17) hx hb hts (by decide +kernel) hown hK hP 0 rfl rfl 4 (by decide) (hts (.fieldLink RX3 23 "CapacityRoundModel" "amount" "[I") (by decide +kernel)) (fun _ h9 => h9) rfl dX3_taken_74 ?_
                  refine lv_iload hx hb dX3_taken_77 (lv_at hl 3 rfl) ?_
                  refine q_iald hx hb hK hP 2 0 rfl rfl j (ex7) (by omega) (by decide) dX3_taken_79 ?_
                  refine lv_goto (tgt := 84) hx hb dX3_taken_80 (by decide) ?_
                  exact jn_84 (fA j) (by rw [if_pos (of_decide_eq_true f_70)])  ls (lv_sub hl [0, 1, 2, 3, 4, 5, 6, 7, 8] rfl)
              refine lv_aload_n hx hb dX3_taken_48 rfl (lv_at hl 6 rfl) ?_
              refine lv_iload hx hb dX3_taken_49 (lv_at hl 2 rfl) ?_
              refine q_rV (wc := [(bm, .inr (3, [.int lo, .int up, .int tp, .ref bP, .ref bA, .ref bE, .ref bT, .int (nI n), .ref bB, .ref bN, .ref bY, .ref bU, .ref bS, .int tr, .int ra, .int ca, .int tw])), (bP, .inl (cI, 12, .inl fP)), (bA, .inl (cI, 12, .inl fA)), (bE, .inl (cI, 12, .inl fE)), (bT, .inl (cI, 12, .inl fT)), (bB, .inl (cI, 8, .inl fB)), (bN, .inl (cI, 40, .inl fN)), (bY, .inl (cI, 480, .inl fY)), (bU, .inl (cI, 480, .inl fU)), (bS, .inl (cZ, 96, .inl fS))]) (r := (nI (z_rk fE j n))) (As := [.int x7]) (rest := []) ⟨hx, hb, hml, hown, hts⟩ (c_X3_rank l dC dI cI cZ cJ bm bP bA bE bT bB bN bY bU bS lo up tp tr ra ca tw n fP fA fE fT fB fN fY fU fS x7 j hn ex7 (by omega)) (cwV 1 hts gX3_taken_X3_rank rfl rfl rfl (by decide +kernel) ⟨Nat.le_of_ble_eq_true rfl, Nat.le_of_ble_eq_true rfl⟩) hK (hP.sub [0, 1, 2, 3, 4, 5, 6, 7, 8, 9] rfl) 3 0 rfl rfl rfl rfl hl.1 rfl (Nat.le_of_ble_eq_true rfl) dX3_taken_51 ⟨Nat.zero_le _, Nat.zero_le _⟩ ?_
              refine lv_iload hx hb dX3_taken_54 (lv_at hl 5 rfl) ?_
              refine lv_icmp_ge (tgt := 63) hx hb dX3_taken_56 (by decide) (fun c_56 => ?_) (fun c_56 => ?_)
              · have g_56 : decide (z_rk fE j n < k + 1) = false := decide_eq_false (by have h9 := (q_cge ex4 (x := nI (z_rk fE j n)) rfl (by omega) (by omega)).mp c_56; omega)
                refine lv_iconst (v := 0) hx hb dX3_taken_63 (by decide) ?_
                exact jn_64 0 (by rw [g_56]; rfl)  ls (lv_sub hl [0, 1, 2, 3, 4, 5, 6, 7] rfl)
              · have g_56 : decide (z_rk fE j n < k + 1) = true := decide_eq_true (by have h9 := (not_congr (q_cge ex4 (x := nI (z_rk fE j n)) rfl (by omega) (by omega))).mp c_56; omega)
                refine lv_iconst (v := 1) hx hb dX3_taken_59 (by decide) ?_
                refine lv_goto (tgt := 64) hx hb dX3_taken_60 (by decide) ?_
                exact jn_64 1 (by rw [g_56]; rfl)  ls (lv_sub hl [0, 1, 2, 3, 4, 5, 6, 7] rfl)
        exact lp_39 (n + 1) 0 (fB (z_n y0)) 0 0 (by omega) (by omega) (rfl) (rfl) (rfl)   ls (lv_sub hl [2, 1, 0, 3, 4, 5, 6, 7] rfl)
  exact lp_16 (n + 1) 0 0 (z_w lo up tp (min (z_n (fB (z_n y0))) (z_n up))) 1 (by omega) (by omega) (rfl) (by simp only [z_ag, z_mw, z_us0, Int32.sub_zero]) (rfl)   ls (lv_sub hl [2, 1, 0, 3, 4] rfl)
set_option maxHeartbeats 4000000 in
set_option maxRecDepth 100000 in
theorem c_X3_price (l : Launch) (dC : Nat → ClassId) (dI : Nat → Nat → Nat) (cI cZ cJ : ClassId) (bm bP bA bE bT bB bN bY bU bS : Nat) (lo up tp tr ra ca tw : Int32) (n : Nat) (fP fA fE fT fB fN fY fU fS : Nat → Int32) (cn : Int32) (t : Nat) (hn : n ≤ 12) (ht : cn = nI t) (ht12 : t ≤ 12) : Met l yX3_price wsX3_price ({ frames := 1, cells := 0, slots := 0, locals := 23 }) (va_Pc [.ref bm, .int cn] (q_R (dC, dI) vwCl (q_T cI cZ cJ) [(bm, .inr (3, [.int lo, .int up, .int tp, .ref bP, .ref bA, .ref bE, .ref bT, .int (nI n), .ref bB, .ref bN, .ref bY, .ref bU, .ref bS, .int tr, .int ra, .int ca, .int tw])), (bP, .inl (cI, 12, .inl fP)), (bA, .inl (cI, 12, .inl fA)), (bE, .inl (cI, 12, .inl fE)), (bT, .inl (cI, 12, .inl fT)), (bB, .inl (cI, 8, .inl fB)), (bN, .inl (cI, 40, .inl fN)), (bY, .inl (cI, 480, .inl fY)), (bU, .inl (cI, 480, .inl fU)), (bS, .inl (cZ, 96, .inl fS))])) (QcRead (z_pr fE (fun j => z_rk fE j n) t n)) 0 0 (fun _ => False) := by
  refine Met.ofW (cc := cX3_price) (maxL := 4) (ret := (some .int)) (by decide) rfl ?_
  intro p e s m args below meth c s₁ B hml hv
  obtain ⟨rfl, hP, hK⟩ := hv
  have hx := B.exec
  have hb := B.bytes
  have hr := B.returns
  have hts := atoms_spec (ws := wsX3_price) B.pre
  have hown : s.vm.findClass RX3 = some m.cls := findClass_of_methodNamed B.named
  have hlocks := B.notSynchronized
  have hP : va_P (dC, dI) vwCl [(bm, .inr (3, [.int lo, .int up, .int tp, .ref bP, .ref bA, .ref bE, .ref bT, .int (nI n), .ref bB, .ref bN, .ref bY, .ref bU, .ref bS, .int tr, .int ra, .int ca, .int tw])), (bP, .inl (cI, 12, .inl fP)), (bA, .inl (cI, 12, .inl fA)), (bE, .inl (cI, 12, .inl fE)), (bT, .inl (cI, 12, .inl fT)), (bB, .inl (cI, 8, .inl fB)), (bN, .inl (cI, 40, .inl fN)), (bY, .inl (cI, 480, .inl fY)), (bU, .inl (cI, 480, .inl fU)), (bS, .inl (cZ, 96, .inl fS))] s.heap := hP
  have hl := lv_entry ([.ref bm, .int cn]) (n := 4) (Nat.le_of_ble_eq_true rfl)
  rw [lg_entry_eq]
  generalize (lg_sl ([.ref bm, .int cn]) ++ List.replicate (4 - (lg_sl ([.ref bm, .int cn])).length) Slot.unset).toArray = ls at hl ⊢
  have hl : lv_has ls 4 [(0, .ref bm), (1, .int cn)] := hl
  refine lv_iconst (v := 0) hx hb dX3_price_0 (by decide) ?_
  refine lv_istore_n (lv' := [(2, .int 0), (0, .ref bm), (1, .int cn)]) hx hb dX3_price_1 rfl hl (by decide) rfl (fun ls hl => ?_)
  refine lv_iconst (v := 0) hx hb dX3_price_2 (by decide) ?_
  refine lv_istore_n (lv' := [(3, .int 0), (2, .int 0), (0, .ref bm), (1, .int cn)]) hx hb dX3_price_3 rfl hl (by decide) rfl (fun ls hl => ?_)
  have lp_4 : ∀ (wk k : Nat) (x2 : Int32) (x3 : Int32), k ≤ n → n < k + wk → x2 = z_pr fE (fun j => z_rk fE j n) t k → x3 = nI k → ∀ (ls : Array Slot), lv_has ls 4 [(2, .int x2), (3, .int x3), (0, .ref bm), (1, .int cn)] → W p l e (headSpec wsX3_price ({ frames := 1, cells := 0, slots := 0, locals := 23 })).room s m [.ref bm, .int cn].toArray below meth c s.heap [] 0 0 (MQ below (QcRead (z_pr fE (fun j => z_rk fE j n) t n)) [.ref bm, .int cn].toArray s 0 0 (fun _ => False)) (F0 m 4 ls []) := by
    intro wk
    induction wk with
    | zero => intro k x2 x3 hk_k hw_k; exact absurd hw_k (by omega)
    | succ wk ih_k =>
      intro k x2 x3 hk_k hw_k ex2 ex3   ls hl
      refine lv_iload_n hx hb dX3_price_4 rfl (lv_at hl 1 rfl) ?_
      refine lv_aload_n hx hb dX3_price_5 rfl (lv_at hl 2 rfl) ?_
      refine va_get (D := (dC, dI)) (ci := 3) (v := .int (nI n)) (C := RX3) (T := TX3) (N := 17) hx hb hts (by decide +kernel) hown hK hP 0 rfl rfl 7 (by decide) (hts (.fieldLink RX3 76 "CapacityRoundModel" "many" "I") (by decide +kernel)) (fun _ h9 => h9) rfl dX3_price_6 ?_
      refine lv_icmp_ge (tgt := 48) hx hb dX3_price_9 (by decide) (fun c_9 => ?_) (fun c_9 => ?_)
      · have hkn : k = n := q_ex ex3 hk_k (by omega) c_9
        refine lv_iload_n hx hb dX3_price_48 rfl (lv_at hl 0 rfl) ?_
        exact W.iret (v := x2) hx hb hr (fun tS htS hWS => ⟨congrArg (fun z => Outcome.returned (some (Value.int z))) (ex2.trans (by rw [hkn]) : (x2 : Int32) = z_pr fE (fun j => z_rk fE j n) t n), htS⟩) (fun _ h => nomatch h) dX3_price_49
      · have hkn : k < n := q_lt ex3 hk_k (by omega) c_9
        have hrl := z_rkle fE k n
        refine lv_aload_n hx hb dX3_price_12 rfl (lv_at hl 2 rfl) ?_
        refine lv_iload_n hx hb dX3_price_13 rfl (lv_at hl 1 rfl) ?_
        refine q_rV (wc := [(bm, .inr (3, [.int lo, .int up, .int tp, .ref bP, .ref bA, .ref bE, .ref bT, .int (nI n), .ref bB, .ref bN, .ref bY, .ref bU, .ref bS, .int tr, .int ra, .int ca, .int tw])), (bP, .inl (cI, 12, .inl fP)), (bA, .inl (cI, 12, .inl fA)), (bE, .inl (cI, 12, .inl fE)), (bT, .inl (cI, 12, .inl fT)), (bB, .inl (cI, 8, .inl fB)), (bN, .inl (cI, 40, .inl fN)), (bY, .inl (cI, 480, .inl fY)), (bU, .inl (cI, 480, .inl fU)), (bS, .inl (cZ, 96, .inl fS))]) (r := (nI (z_rk fE k n))) (As := [.int x3]) (rest := []) ⟨hx, hb, hml, hown, hts⟩ (c_X3_rank l dC dI cI cZ cJ bm bP bA bE bT bB bN bY bU bS lo up tp tr ra ca tw n fP fA fE fT fB fN fY fU fS x3 k hn ex3 (by omega)) (cwV 1 hts gX3_price_X3_rank rfl rfl rfl (by decide +kernel) ⟨Nat.le_of_ble_eq_true rfl, Nat.le_of_ble_eq_true rfl⟩) hK (hP.sub [0, 1, 2, 3, 4, 5, 6, 7, 8, 9] rfl) 3 0 rfl rfl rfl rfl hl.1 rfl (Nat.le_of_ble_eq_true rfl) dX3_price_14 ⟨Nat.zero_le _, Nat.zero_le _⟩ ?_
        refine lv_iload_n hx hb dX3_price_17 rfl (lv_at hl 3 rfl) ?_
        refine lv_icmp_ge (tgt := 40) hx hb dX3_price_18 (by decide) (fun c_18 => ?_) (fun c_18 => ?_)
        · have h18 : ¬ z_rk fE k n < t := by have h9 := (q_cge ht (x := nI (z_rk fE k n)) rfl (by omega) (by omega)).mp c_18; omega
          have hv : x2 = z_pr fE (fun j => z_rk fE j n) t (k + 1) := by rw [z_pr, if_neg (fun q => h18 q.1)]; exact ex2
          refine lv_iload_n hx hb dX3_price_40 rfl (lv_at hl 0 rfl) ?_
          refine lv_istore_n (lv' := [(2, .int x2), (3, .int x3), (0, .ref bm), (1, .int cn)]) hx hb dX3_price_41 rfl hl (by decide) rfl (fun ls hl => ?_)
          refine lv_iinc (v := x3 + 1) (lv' := [(3, .int (x3 + 1)), (2, .int x2), (0, .ref bm), (1, .int cn)]) hx hb dX3_price_42 hl (k := 1) rfl rfl (by decide) rfl (fun ls hl => ?_)
          refine lv_goto (tgt := 4) hx hb dX3_price_45 (by decide) ?_
          exact ih_k (k + 1) x2 (x3 + 1) (by omega) (by omega) (hv) (q_s1 ex3)   ls (lv_sub hl [1, 0, 2, 3] rfl)
        · have h18 : z_rk fE k n < t := by have h9 := (not_congr (q_cge ht (x := nI (z_rk fE k n)) rfl (by omega) (by omega))).mp c_18; omega
          refine lv_aload_n hx hb dX3_price_21 rfl (lv_at hl 2 rfl) ?_
          refine va_get (D := (dC, dI)) (ci := 3) (v := .ref bE) (C := RX3) (T := TX3) (N := 17) hx hb hts (by decide +kernel) hown hK hP 0 rfl rfl 5 (by decide) (hts (.fieldLink RX3 26 "CapacityRoundModel" "exit" "[I") (by decide +kernel)) (fun _ h9 => h9) rfl dX3_price_22 ?_
          refine lv_iload_n hx hb dX3_price_25 rfl (lv_at hl 1 rfl) ?_
          refine q_iald hx hb hK hP 3 0 rfl rfl k (ex3) (by omega) (by decide) dX3_price_26 ?_
          refine lv_iload_n hx hb dX3_price_27 rfl (lv_at hl 0 rfl) ?_
          refine lv_icmp_le (tgt := 40) hx hb dX3_price_28 (by decide) (fun c_28 => ?_) (fun c_28 => ?_)
          · have hv : x2 = z_pr fE (fun j => z_rk fE j n) t (k + 1) := by rw [z_pr, if_neg (fun q => z_nlt.mpr c_28 (by rw [ex2]; exact q.2))]; exact ex2
            refine lv_iload_n hx hb dX3_price_40 rfl (lv_at hl 0 rfl) ?_
            refine lv_istore_n (lv' := [(2, .int x2), (3, .int x3), (0, .ref bm), (1, .int cn)]) hx hb dX3_price_41 rfl hl (by decide) rfl (fun ls hl => ?_)
            refine lv_iinc (v := x3 + 1) (lv' := [(3, .int (x3 + 1)), (2, .int x2), (0, .ref bm), (1, .int cn)]) hx hb dX3_price_42 hl (k := 1) rfl rfl (by decide) rfl (fun ls hl => ?_)
            refine lv_goto (tgt := 4) hx hb dX3_price_45 (by decide) ?_
            exact ih_k (k + 1) x2 (x3 + 1) (by omega) (by omega) (hv) (q_s1 ex3)   ls (lv_sub hl [1, 0, 2, 3] rfl)
          · have hv : fE k = z_pr fE (fun j => z_rk fE j n) t (k + 1) := by rw [z_pr, if_pos ⟨h18, by rw [← ex2]; exact z_nle.mp c_28⟩]
            refine lv_aload_n hx hb dX3_price_31 rfl (lv_at hl 2 rfl) ?_
            refine va_get (D := (dC, dI)) (ci := 3) (v := .ref bE) (C := RX3) (T := TX3) (N := 17) hx hb hts (by decide +kernel) hown hK hP 0 rfl rfl 5 (by decide) (hts (.fieldLink RX3 26 "CapacityRoundModel" "exit" "[I") (by decide +kernel)) (fun _ h9 => h9) rfl dX3_price_32 ?_
            refine lv_iload_n hx hb dX3_price_35 rfl (lv_at hl 1 rfl) ?_
            refine q_iald hx hb hK hP 3 0 rfl rfl k (ex3) (by omega) (by decide) dX3_price_36 ?_
            refine lv_goto (tgt := 41) hx hb dX3_price_37 (by decide) ?_
            refine lv_istore_n (lv' := [(2, .int (fE k)), (3, .int x3), (0, .ref bm), (1, .int cn)]) hx hb dX3_price_41 rfl hl (by decide) rfl (fun ls hl => ?_)
            refine lv_iinc (v := x3 + 1) (lv' := [(3, .int (x3 + 1)), (2, .int (fE k)), (0, .ref bm), (1, .int cn)]) hx hb dX3_price_42 hl (k := 1) rfl rfl (by decide) rfl (fun ls hl => ?_)
            refine lv_goto (tgt := 4) hx hb dX3_price_45 (by decide) ?_
            exact ih_k (k + 1) (fE k) (x3 + 1) (by omega) (by omega) (hv) (q_s1 ex3)   ls (lv_sub hl [1, 0, 2, 3] rfl)
  exact lp_4 (n + 1) 0 0 0 (by omega) (by omega) (rfl) (rfl)   ls (lv_sub hl [1, 0, 2, 3] rfl)
