/-! The falling clock finds the same price. -/
theorem z_deis {Z E : Nat → Int32} {n t : Nat} {o : Nat → Nat} (h : z_Or E n o) (hn : n ≤ 12) (ht : t ≤ n) (hZ : ∀ j, j < n → (¬ Z j = 0 ↔ z_rk E j n < t)) : z_de Z E n = if t = 0 then -1 else nI (o (t - 1)) := by
  have key : ∀ m, m ≤ n → (z_de Z E m = -1 ∧ ∀ j, j < m → ¬ z_rk E j n < t) ∨ ∃ j, j < m ∧ z_de Z E m = nI j ∧ z_rk E j n < t ∧ ∀ i, i < m → z_rk E i n < t → z_rk E i n ≤ z_rk E j n := by
    intro m
    induction m with
    | zero => intro _; exact Or.inl ⟨rfl, fun j hj => by omega⟩
    | succ m ih =>
      intro hm
      by_cases c1 : Z m = 0
      · rw [z_de1 c1]
        have hr : ¬ z_rk E m n < t := fun q => (hZ m (by omega)).mpr q c1
        rcases ih (by omega) with ⟨a1, a2⟩ | ⟨j, a1, a2, a3, a4⟩
        · refine Or.inl ⟨a1, fun j hj => ?_⟩
          rcases Nat.lt_or_ge j m with q | q
          · exact a2 j q
          · rw [show j = m by omega]; exact hr
        · refine Or.inr ⟨j, by omega, a2, a3, fun i hi hit => ?_⟩
          rcases Nat.lt_or_ge i m with q | q
          · exact a4 i q hit
          · exact absurd (show z_rk E m n < t by rw [← show i = m by omega]; exact hit) hr
      · have hr : z_rk E m n < t := (hZ m (by omega)).mp c1
        rcases ih (by omega) with ⟨a1, a2⟩ | ⟨j, a1, a2, a3, a4⟩
        · rw [z_de2 c1 a1]
          refine Or.inr ⟨m, by omega, rfl, hr, fun i hi hit => ?_⟩
          rcases Nat.lt_or_ge i m with q | q
          · exact absurd hit (a2 i q)
          · rw [show i = m by omega]; exact Nat.le_refl _
        · have hnm : ¬ z_de Z E m = -1 := by rw [a2]; exact z_nm1 (by omega)
          have hzn : z_n (z_de Z E m) = j := by rw [a2]; exact z_nI (by omega)
          by_cases c3 : E j ≤ E m
          · rw [z_de3 c1 hnm (by rw [hzn]; exact c3)]
            have hb : z_before E j m = true := by rw [z_bfi]; rw [z_le] at c3; omega
            have hl := z_rklt (n := n) hb (by omega)
            refine Or.inr ⟨m, by omega, rfl, hr, fun i hi hit => ?_⟩
            rcases Nat.lt_or_ge i m with q | q
            · have := a4 i q hit; omega
            · rw [show i = m by omega]; exact Nat.le_refl _
          · rw [z_de4 c1 hnm (by rw [hzn]; exact c3)]
            have hb : z_before E m j = true := by rw [z_bfi]; rw [z_le] at c3; omega
            have hl := z_rklt (n := n) hb (by omega)
            refine Or.inr ⟨j, by omega, a2, a3, fun i hi hit => ?_⟩
            rcases Nat.lt_or_ge i m with q | q
            · exact a4 i q hit
            · rw [show i = m by omega]; omega
  rcases key n (Nat.le_refl _) with ⟨a1, a2⟩ | ⟨j, a1, a2, a3, a4⟩
  · by_cases q : t = 0
    · rw [if_pos q]; exact a1
    · obtain ⟨g1, g2⟩ := h (t - 1) (by omega)
      exact absurd (show z_rk E (o (t - 1)) n < t by omega) (a2 _ g1)
  · rw [if_neg (by omega)]
    obtain ⟨g1, g2⟩ := h (t - 1) (by omega)
    have := a4 _ g1 (by omega)
    rw [a2, z_rkinj (E := E) a1 g1 (by omega)]
section CLK
variable {E : Nat → Int32} {n : Nat} {o : Nat → Nat} {f : Nat → Int32}
theorem z_kIis (h : z_Or E n o) (hn : n ≤ 12) (i : Nat) (hi : i ≤ n) : ∀ j, j < n → (¬ z_kI f E n i j = 0 ↔ z_rk E j n < n - i) := by
  induction i with
  | zero =>
    intro j hj
    have h1 := z_rkn (E := E) hj
    have h2 : z_kI f E n 0 j = 1 := by show z_one f n j = 1; unfold z_one; rw [if_pos hj]
    rw [h2]
    exact ⟨fun _ => by omega, fun _ => by decide⟩
  | succ i ih =>
    intro j hj
    have hd := z_deis h hn (by omega) (ih (by omega))
    rw [if_neg (by omega)] at hd
    obtain ⟨g1, g2⟩ := h (n - i - 1) (by omega)
    have e : z_kI f E n (i + 1) j = if j = o (n - i - 1) then 0 else z_kI f E n i j := by
      show upd (z_kI f E n i) (z_n (z_de (z_kI f E n i) E n)) 0 j = _
      rw [hd, z_nI (by omega)]; rfl
    rw [e]
    by_cases q : j = o (n - i - 1)
    · rw [if_pos q]
      subst q
      exact ⟨fun x => absurd rfl x, fun x => by omega⟩
    · rw [if_neg q, ih (by omega) j hj]
      have hne : z_rk E j n ≠ n - i - 1 := fun x => q (z_rkinj hj g1 (by rw [g2]; exact x))
      omega
theorem z_klis (h : z_Or E n o) (hn : n ≤ 12) (i : Nat) (hi : i ≤ n) : z_kl f E n i = if n - i = 0 then -1 else nI (o (n - i - 1)) := z_deis h hn (by omega) (z_kIis h hn i hi)
theorem z_klne (h : z_Or E n o) (hn : n ≤ 12) (i : Nat) (hi : i < n) : ¬ z_kl f E n i = -1 := by
  rw [z_klis h hn i (by omega), if_neg (by omega)]
  have := (h (n - i - 1) (by omega)).1
  exact z_nm1 (by omega)
theorem z_amid {b : Int32} {A : Nat → Int32} {r : Nat → Nat} {c : Nat} (m : Nat) (hr : ∀ j, j < m → r j < c) : z_am b A (fun j => j) m = z_us b A r c m := by
  induction m with
  | zero => rfl
  | succ m ih => rw [z_am, z_us, ih (fun j hj => hr j (by omega)), if_pos (hr m (by omega))]
theorem z_kais (h : z_Or E n o) (hn : n ≤ 12) (b : Int32) (A : Nat → Int32) (i : Nat) (hi : i ≤ n) : z_ka f E n b A i = z_am b A o (n - i) := by
  induction i with
  | zero =>
    show z_am b A (fun j => j) n = z_am b A o n
    rw [z_amid (r := fun j => z_rk E j n) n (fun j hj => z_rkn hj), z_amus h b A n (Nat.le_refl _)]
  | succ i ih =>
    obtain ⟨g1, g2⟩ := h (n - i - 1) (by omega)
    rw [z_ka, ih (by omega), z_klis h hn i (by omega), if_neg (by omega), z_nI (by omega), show n - i = n - (i + 1) + 1 by omega, z_am, show n - (i + 1) + 1 - 1 = n - (i + 1) by omega, Int32.add_sub_cancel]
theorem z_kcis (h : z_Or E n o) (hn : n ≤ 12) (A : Nat → Int32) (i : Nat) (hi : i ≤ n) : z_kc f E n A i = z_co A E o (n - i) := by
  induction i with
  | zero =>
    show z_co A E (fun j => j) n = z_co A E o n
    rw [z_coam, z_coam, z_amid (r := fun j => z_rk E j n) n (fun j hj => z_rkn hj), z_amus h 0 _ n (Nat.le_refl _)]
  | succ i ih =>
    obtain ⟨g1, g2⟩ := h (n - i - 1) (by omega)
    rw [z_kc, ih (by omega), z_klis h hn i (by omega), if_neg (by omega), z_nI (by omega), show n - i = n - (i + 1) + 1 by omega, z_co, show n - (i + 1) + 1 - 1 = n - (i + 1) by omega, Int32.add_sub_cancel]
theorem z_kwis (h : z_Or E n o) (hn : n ≤ 12) (W : Nat → Int32) (b : Int32) (A : Nat → Int32) (i : Nat) (hi : i ≤ n) : z_kw f E n W b A i = z_wf W b A E o (n - i) := by
  unfold z_kw z_wf
  rw [z_kais h hn b A i hi, z_kcis h hn A i hi]
theorem z_xois (h : z_Or E n o) (hn : n ≤ 12) (i : Nat) (hi : i ≤ n) : z_xo E (z_kl f E n i) = z_po E o (n - i) := by
  rw [z_klis h hn i hi]
  by_cases q : n - i = 0
  · rw [if_pos q, q]; rfl
  · obtain ⟨t, ht⟩ : ∃ t, n - i = t + 1 := ⟨n - i - 1, by omega⟩
    obtain ⟨g1, g2⟩ := h t (by omega)
    rw [if_neg q, ht, show t + 1 - 1 = t from rfl]
    unfold z_xo
    rw [if_neg (z_nm1 (by omega)), z_nI (by omega)]; rfl
/-- the best of the last ones -/
theorem z_kbinv (h : z_Or E n o) (hn : n ≤ 12) {w : Nat → Int32} {g : Nat → Int32} (hw : ∀ i, i ≤ n → w i = g (n - i)) (i : Nat) (hi : i ≤ n) :
    ∃ k, n - i ≤ k ∧ k ≤ n ∧ (z_kb f E n w i).1 = g k ∧ (z_kb f E n w i).2 = z_po E o k ∧ (∀ j, n - i ≤ j → j ≤ n → (g j).toInt ≤ (g k).toInt) ∧ ∀ j, n - i ≤ j → j < k → (g j).toInt < (g k).toInt := by
  induction i with
  | zero =>
    refine ⟨n, by omega, Nat.le_refl _, hw 0 (by omega), z_xois h hn 0 (by omega), fun j h1 h2 => ?_, fun j h1 h2 => by omega⟩
    rw [show j = n by omega]; exact Int.le_refl _
  | succ i ih =>
    obtain ⟨k, a1, a2, a3, a4, a5, a6⟩ := ih (by omega)
    have e := hw (i + 1) hi
    by_cases q : w (i + 1) < (z_kb f E n w i).1
    · rw [z_kby q]
      rw [z_lt, e, a3] at q
      refine ⟨k, by omega, a2, a3, a4, fun j h1 h2 => ?_, fun j h1 h2 => ?_⟩
      · rcases Nat.lt_or_ge j (n - i) with c | c
        · rw [show j = n - (i + 1) by omega]; omega
        · exact a5 j c h2
      · rcases Nat.lt_or_ge j (n - i) with c | c
        · rw [show j = n - (i + 1) by omega]; exact q
        · exact a6 j c h2
    · rw [z_kbn q]
      rw [z_lt, e, a3] at q
      refine ⟨n - (i + 1), Nat.le_refl _, by omega, e, z_xois h hn (i + 1) hi, fun j h1 h2 => ?_, fun j h1 h2 => by omega⟩
      rcases Nat.lt_or_ge j (n - i) with c | c
      · rw [show j = n - (i + 1) by omega]; exact Int.le_refl _
      · have := a5 j c h2; omega
theorem z_aginv {g : Nat → Int32} (m : Nat) : (z_ag g m).1 ≤ m ∧ (z_ag g m).2 = g (z_ag g m).1 ∧ (∀ j, j ≤ m → (g j).toInt ≤ (g (z_ag g m).1).toInt) ∧ ∀ j, j < (z_ag g m).1 → (g j).toInt < (g (z_ag g m).1).toInt := by
  induction m with
  | zero => exact ⟨Nat.le_refl _, rfl, fun j hj => by rw [show j = 0 by omega]; exact Int.le_refl _, fun j hj => absurd hj (Nat.not_lt_zero j)⟩
  | succ m ih =>
    obtain ⟨a1, a2, a3, a4⟩ := ih
    by_cases q : (z_ag g m).2 < g (m + 1)
    · rw [z_agy q]
      rw [a2, z_lt] at q
      refine ⟨Nat.le_refl _, rfl, fun j hj => ?_, fun j hj => ?_⟩
      · show (g j).toInt ≤ (g (m + 1)).toInt
        rcases Nat.lt_or_ge j (m + 1) with c | c
        · have := a3 j (by omega); omega
        · rw [show j = m + 1 by omega]; exact Int.le_refl _
      · show (g j).toInt < (g (m + 1)).toInt
        have hj' : j < m + 1 := hj
        have := a3 j (by omega); omega
    · rw [z_agn q]
      rw [a2, z_lt] at q
      refine ⟨by omega, a2, fun j hj => ?_, a4⟩
      rcases Nat.lt_or_ge j (m + 1) with c | c
      · exact a3 j (by omega)
      · rw [show j = m + 1 by omega]; omega
theorem z_clock (h : z_Or E n o) (hn : n ≤ 12) (W : Nat → Int32) (b : Int32) (A : Nat → Int32) : (z_kb f E n (z_kw f E n W b A) n).2 = z_po E o (z_ag (z_wf W b A E o) n).1 := by
  obtain ⟨k, a1, a2, a3, a4, a5, a6⟩ := z_kbinv (f := f) h hn (w := z_kw f E n W b A) (g := z_wf W b A E o) (fun i hi => z_kwis h hn W b A i hi) n (Nat.le_refl _)
  obtain ⟨b1, b2, b3, b4⟩ := z_aginv (g := z_wf W b A E o) n
  have e : k = (z_ag (z_wf W b A E o) n).1 := by
    rcases Nat.lt_trichotomy k (z_ag (z_wf W b A E o) n).1 with c | c | c
    · have h1 := b4 k c
      have h2 := a5 _ (show n - n ≤ (z_ag (z_wf W b A E o) n).1 by omega) b1
      omega
    · exact c
    · have h1 := a6 _ (show n - n ≤ (z_ag (z_wf W b A E o) n).1 by omega) c
      have h2 := b3 k a2
      omega
  rw [a4, e]
end CLK
