/-! The order of the offers by exit prices: ranks, sums, the best first ones, both ways. -/
theorem z_bfi {E : Nat → Int32} {i j : Nat} : z_before E i j = true ↔ (E i).toInt < (E j).toInt ∨ ((E i).toInt = (E j).toInt ∧ i < j) := by
  unfold z_before
  simp only [Bool.or_eq_true, Bool.and_eq_true, decide_eq_true_eq, z_lt, Int32.toInt_inj]
theorem z_rkmono {E : Nat → Int32} {i j : Nat} (h : z_before E i j = true) (m : Nat) : z_rk E i m + (if i < m then 1 else 0) ≤ z_rk E j m := by
  induction m with
  | zero => simp [z_rk]
  | succ m ih =>
    unfold z_rk
    have h1 : z_before E m i = true → z_before E m j = true := by
      rw [z_bfi] at *
      rw [z_bfi] at *
      omega
    have h2 : z_before E i i = false := by
      cases hq : z_before E i i with
      | false => rfl
      | true => rw [z_bfi] at hq; omega
    by_cases hm : i = m
    · subst hm
      rw [h, h2]
      simp at ih ⊢
      omega
    · by_cases hb : z_before E m i = true
      · rw [if_pos hb, if_pos (h1 hb)]
        split at ih <;> split <;> omega
      · rw [if_neg hb]
        split at ih <;> split <;> split <;> omega
theorem z_rklt {E : Nat → Int32} {i j n : Nat} (h : z_before E i j = true) (hi : i < n) : z_rk E i n < z_rk E j n := by
  have h1 := z_rkmono h n
  rw [if_pos hi] at h1
  omega
theorem z_tot {E : Nat → Int32} {i j : Nat} (h : i ≠ j) : z_before E i j = true ∨ z_before E j i = true := by
  rw [z_bfi, z_bfi]; omega
theorem z_rkinj {E : Nat → Int32} {i j n : Nat} (hi : i < n) (hj : j < n) (h : z_rk E i n = z_rk E j n) : i = j := by
  rcases Nat.decEq i j with q | q
  · rcases z_tot (E := E) q with r | r
    · have := z_rklt r hi; omega
    · have := z_rklt r hj; omega
  · exact q
theorem z_rkE {E : Nat → Int32} {i j n : Nat} (hj : j < n) (h : z_rk E i n ≤ z_rk E j n) : (E i).toInt ≤ (E j).toInt := by
  rcases Nat.decEq i j with q | q
  · rcases z_tot (E := E) q with r | r
    · rw [z_bfi] at r; omega
    · have := z_rklt r hj; omega
  · rw [q]; exact Int.le_refl _
theorem z_rkn {E : Nat → Int32} {j n : Nat} (hj : j < n) : z_rk E j n < n := by
  have h2 : z_before E j j = false := by
    cases hq : z_before E j j with
    | false => rfl
    | true => rw [z_bfi] at hq; omega
  have key : ∀ m, j < m → z_rk E j m < m := by
    intro m
    induction m with
    | zero => omega
    | succ m ih =>
      intro h
      unfold z_rk
      by_cases q : j = m
      · subst q
        have := z_rkle E j j
        rw [h2]; simp; omega
      · have := ih (by omega)
        split <;> omega
  exact key n hj
/-- the order: places and ranks -/
def z_Or (E : Nat → Int32) (n : Nat) (o : Nat → Nat) : Prop := ∀ k, k < n → o k < n ∧ z_rk E (o k) n = k
theorem z_usstep {b : Int32} {f : Nat → Int32} {r : Nat → Nat} {c j0 : Nat} (n : Nat) (h : ∀ j, j < n → r j = c → j = j0) : z_us b f r (c + 1) n = z_us b f r c n + (if j0 < n ∧ r j0 = c then f j0 else 0) := by
  induction n with
  | zero => rw [if_neg (by omega), Int32.add_zero]; rfl
  | succ n ih =>
    have ih := ih (fun j hj => h j (by omega))
    rw [z_us, z_us, ih]
    by_cases q : r n = c
    · have e := h n (by omega) q
      subst e
      rw [if_neg (by omega), if_pos (by omega), if_neg (by omega), if_pos (by omega), Int32.add_zero]
    · by_cases q2 : r n < c
      · rw [if_pos (show r n < c + 1 by omega), if_pos q2]
        by_cases q3 : j0 < n ∧ r j0 = c
        · rw [if_pos q3, if_pos (by omega), Int32.add_assoc, Int32.add_assoc, Int32.add_comm (f j0)]
        · have q4 : ¬ (j0 < n + 1 ∧ r j0 = c) := by
            intro q5
            have : j0 ≠ n := fun e => q (by rw [← e]; exact q5.2)
            omega
          rw [if_neg q3, if_neg q4, Int32.add_zero, Int32.add_zero]
      · rw [if_neg (show ¬ r n < c + 1 by omega), if_neg q2, Int32.add_zero, Int32.add_zero]
        by_cases q3 : j0 < n ∧ r j0 = c
        · rw [if_pos q3, if_pos (by omega)]
        · have q4 : ¬ (j0 < n + 1 ∧ r j0 = c) := by
            intro q5
            have : j0 ≠ n := fun e => q (by rw [← e]; exact q5.2)
            omega
          rw [if_neg q3, if_neg q4]
theorem z_amus {E : Nat → Int32} {n : Nat} {o : Nat → Nat} (h : z_Or E n o) (b : Int32) (f : Nat → Int32) (k : Nat) (hk : k ≤ n) : z_am b f o k = z_us b f (fun j => z_rk E j n) k n := by
  induction k with
  | zero => rw [z_us0]; rfl
  | succ k ih =>
    obtain ⟨h1, h2⟩ := h k (by omega)
    rw [z_usstep (j0 := o k) n (fun j hj e => z_rkinj hj h1 (by rw [h2]; exact e)), if_pos ⟨h1, h2⟩, ← ih (by omega)]; rfl
theorem z_coam {A E : Nat → Int32} {o : Nat → Nat} (k : Nat) : z_co A E o k = z_am 0 (fun j => A j * E j) o k := by
  induction k with
  | zero => rfl
  | succ k ih => rw [z_co, ih]; rfl
theorem z_agcg {w w' : Nat → Int32} {n : Nat} (h : ∀ k, k ≤ n → w k = w' k) : z_ag w n = z_ag w' n := by
  induction n with
  | zero => unfold z_ag; rw [h 0 (Nat.le_refl _)]
  | succ n ih => unfold z_ag; rw [ih (fun k hk => h k (by omega)), h (n + 1) (Nat.le_refl _)]
/-- worths -/
theorem z_wconst {lo up tp : Int32} (hlu : lo.toInt < up.toInt) (hup : up = nI (z_n up)) (hu : z_n up ≤ 1001) (j : Nat) (hj : z_n up ≤ j) (hj2 : j ≤ 2000) : z_w lo up tp j = z_w lo up tp (z_n up) := by
  induction j with
  | zero => rw [show z_n up = 0 by omega]
  | succ j ih =>
    by_cases q : z_n up = j + 1
    · rw [q]
    · have e1 : (nI (j + 1)).toInt = ((j + 1 : Nat) : Int) := nI_toInt (by omega)
      have e2 : up.toInt = (z_n up : Int) := by rw [hup, z_nI (by omega)]; exact nI_toInt (by omega)
      have hv : z_v lo up tp (nI (j + 1)) = 0 := by
        unfold z_v
        rw [if_neg (by rw [z_le]; omega), if_neg (by rw [z_le]; omega)]
      rw [z_w, ih (by omega) (by omega), hv, Int32.add_zero]
theorem z_worth {lo up tp : Int32} {fW : Nat → Int32} (hlu : lo.toInt < up.toInt) (hup : up = nI (z_n up)) (hu : z_n up ≤ 1001) (hW : ∀ j, j ≤ 1001 → fW j = z_w lo up tp j) (a : Int32) : fW (z_wi a) = z_w lo up tp (min (z_n a) (z_n up)) := by
  have h1 := z_wil a
  rw [hW _ (by omega)]
  unfold z_wi
  rcases Nat.le_total (z_n a) (z_n up) with q | q
  · rw [Nat.min_eq_left q, Nat.min_eq_left (by omega)]
  · rw [Nat.min_eq_right q]
    exact z_wconst hlu hup hu _ (by omega) (by omega)
theorem z_wfmw {lo up tp b : Int32} {fW A E : Nat → Int32} {n : Nat} {o : Nat → Nat} (h : z_Or E n o) (hlu : lo.toInt < up.toInt) (hup : up = nI (z_n up)) (hu : z_n up ≤ 1001) (hW : ∀ j, j ≤ 1001 → fW j = z_w lo up tp j) (k : Nat) (hk : k ≤ n) : z_wf fW b A E o k = z_mw lo up tp b A E n k := by
  unfold z_wf z_mw
  rw [z_worth hlu hup hu hW, z_coam, z_amus h b A k hk, z_amus h 0 _ k hk]
/-- the price of the first t, by maxima -/
theorem z_prinv {E : Nat → Int32} {r : Nat → Nat} {t : Nat} (m : Nat) : (∀ j, j < m → r j < t → (E j).toInt ≤ (z_pr E r t m).toInt) ∧ (z_pr E r t m = 0 ∨ ∃ j, j < m ∧ r j < t ∧ z_pr E r t m = E j) ∧ 0 ≤ (z_pr E r t m).toInt := by
  induction m with
  | zero => exact ⟨fun j hj => by omega, Or.inl rfl, by show 0 ≤ (0 : Int32).toInt; decide⟩
  | succ m ih =>
    obtain ⟨h1, h2, h3⟩ := ih
    unfold z_pr
    by_cases q : r m < t ∧ z_pr E r t m < E m
    · rw [if_pos q]
      have q2 := z_lt.mp q.2
      refine ⟨fun j hj hr => ?_, Or.inr ⟨m, by omega, q.1, rfl⟩, by omega⟩
      rcases Nat.lt_or_ge j m with c | c
      · have := h1 j c hr; omega
      · rw [show j = m by omega]; exact Int.le_refl _
    · rw [if_neg q]
      refine ⟨fun j hj hr => ?_, ?_, h3⟩
      · rcases Nat.lt_or_ge j m with c | c
        · exact h1 j c hr
        · have e : j = m := by omega
          subst e
          have : ¬ (z_pr E r t j).toInt < (E j).toInt := fun x => q ⟨hr, z_lt.mpr x⟩
          omega
      · rcases h2 with h2 | ⟨j, a1, a2, a3⟩
        · exact Or.inl h2
        · exact Or.inr ⟨j, by omega, a2, a3⟩
theorem z_popr {E : Nat → Int32} {n t : Nat} {o : Nat → Nat} (h : z_Or E n o) (ht : t ≤ n) (hE : ∀ j, j < n → 0 ≤ (E j).toInt) : z_po E o t = z_pr E (fun j => z_rk E j n) t n := by
  obtain ⟨h1, h2, h3⟩ := z_prinv (E := E) (r := fun j => z_rk E j n) (t := t) n
  cases t with
  | zero =>
    rcases h2 with h2 | ⟨j, a1, a2, a3⟩
    · exact h2.symm
    · omega
  | succ t =>
    obtain ⟨g1, g2⟩ := h t (by omega)
    have k1 := h1 (o t) g1 (by show z_rk E (o t) n < t + 1; omega)
    have k0 := hE (o t) g1
    apply Int32.toInt_inj.mp
    show (E (o t)).toInt = _
    rcases h2 with h2 | ⟨j, a1, a2, a3⟩
    · have e0 : (z_pr E (fun j => z_rk E j n) (t + 1) n).toInt = 0 := by rw [h2]; decide
      omega
    · have e1 := z_rkE (E := E) (i := j) g1 (by rw [g2]; have a2' : z_rk E j n < t + 1 := a2; omega)
      rw [a3] at k1 ⊢
      omega
theorem z_memrk {E : Nat → Int32} {n t w : Nat} {o : Nat → Nat} (h : z_Or E n o) (ht : t ≤ n) (hw : w < n) : z_mem o w t = decide (z_rk E w n < t) := by
  by_cases q : z_rk E w n < t
  · obtain ⟨g1, g2⟩ := h _ (show z_rk E w n < n by omega)
    rw [decide_eq_true q]
    exact z_memt q (z_rkinj g1 hw g2)
  · rw [decide_eq_false q]
    have key : ∀ m, m ≤ t → z_mem o w m = false := by
      intro m
      induction m with
      | zero => intro _; rfl
      | succ m ih =>
        intro hm
        refine z_mems (ih (by omega)) (fun e => q ?_)
        obtain ⟨g1, g2⟩ := h m (by omega)
        rw [← e, g2]; omega
    exact key t (Nat.le_refl _)
