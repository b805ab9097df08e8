/-! The property's plain facts: the best first part, its price, the sums that the law takes. -/
theorem z_b1y {x : Bool} (h : z_b x = 1) : x = true := by cases x <;> simp_all [z_b]
theorem z_b1n {x : Bool} (h : ¬ z_b x = 1) : x = false := by cases x <;> simp_all [z_b]
theorem z_inr {u : Nat} (h : u ≤ 10000) : z_in (nI u) 0 10000 = true := z_in_t (nI_le (a := 0) (Nat.zero_le _) (by omega)) (nI_le (b := 10000) h (by omega))
theorem z_wok {x y : Int32} {k n : Nat} (hx : x = nI k) (hk : k < n) (hn : n ≤ 12) (hy : z_in y 0 7 = true) : (decide (0 ≤ x) && decide (x < nI n) && z_in y 0 7) = true := by
  subst hx
  rw [hy, decide_eq_true (show (0 : Int32) ≤ nI k from nI_le (a := 0) (Nat.zero_le _) (by omega)), decide_eq_true (nI_lt hk (by omega))]; rfl
theorem z_agmax (wf : Nat → Int32) (n : Nat) : (z_ag wf n).2 = wf (z_ag wf n).1 ∧ ∀ k, k ≤ n → (wf k).toInt ≤ (z_ag wf n).2.toInt := by
  induction n with
  | zero => exact ⟨rfl, fun k hk => by rw [show k = 0 by omega]; exact Int.le_refl _⟩
  | succ n ih =>
    obtain ⟨h1, h2⟩ := ih
    by_cases q : (z_ag wf n).2 < wf (n + 1)
    · rw [z_agy q]
      refine ⟨rfl, fun k hk => ?_⟩
      rw [z_lt] at q
      show (wf k).toInt ≤ (wf (n + 1)).toInt
      rcases Nat.lt_or_ge k (n + 1) with r | r
      · have := h2 k (by omega); omega
      · rw [show k = n + 1 by omega]; exact Int.le_refl _
    · rw [z_agn q]
      refine ⟨h1, fun k hk => ?_⟩
      rw [z_lt] at q
      rcases Nat.lt_or_ge k (n + 1) with r | r
      · exact h2 k (by omega)
      · rw [show k = n + 1 by omega]; omega
theorem z_poge {E : Nat → Int32} {n t k : Nat} {o : Nat → Nat} (h : z_Or E n o) (ht : t ≤ n) (hk : k < n) (hr : z_rk E k n < t) : ¬ z_po E o t < E k := by
  cases t with
  | zero => omega
  | succ t =>
    obtain ⟨g1, g2⟩ := h t (by omega)
    have := z_rkE (E := E) (i := k) g1 (by rw [g2]; omega)
    show ¬ E (o t) < E k
    rw [z_lt]; omega
/-- is one of those that are taken at the price -/
def z_any (E : Nat → Int32) (r : Nat → Nat) (t : Nat) (pr : Int32) : Nat → Bool
  | 0 => false
  | k + 1 => z_any E r t pr k || (decide (r k < t) && decide (E k = pr))
theorem z_any0 {E : Nat → Int32} {n t : Nat} {o : Nat → Nat} (h : z_Or E n o) (ht : t ≤ n) (hf : z_any E (fun j => z_rk E j n) t (z_po E o t) n = false) : z_po E o t = 0 := by
  cases t with
  | zero => rfl
  | succ t =>
    obtain ⟨g1, g2⟩ := h t (by omega)
    have key : ∀ m, o t < m → z_any E (fun j => z_rk E j n) (t + 1) (z_po E o (t + 1)) m = true := by
      intro m
      induction m with
      | zero => omega
      | succ m ih =>
        intro hm
        rw [z_any]
        rcases Nat.lt_or_ge (o t) m with q | q
        · rw [ih q]; rfl
        · have e : m = o t := by omega
          subst e
          rw [decide_eq_true (show z_rk E (o t) n < t + 1 by omega), decide_eq_true (show E (o t) = z_po E o (t + 1) from rfl), Bool.and_true, Bool.or_true]
    rw [key n g1] at hf
    cases hf
theorem z_usb {b : Int32} {x : Nat} {A : Nat → Int32} (hb : b = nI x) (hA : ∀ j, A j = nI (z_n (A j)) ∧ z_n (A j) ≤ 120) (r : Nat → Nat) (c : Nat) (k : Nat) : ∃ u, z_us b A r c k = nI u ∧ x ≤ u ∧ u ≤ x + 120 * k := by
  induction k with
  | zero => exact ⟨x, hb, Nat.le_refl _, by omega⟩
  | succ k ih =>
    obtain ⟨u, e, h1, h2⟩ := ih
    rw [z_us, e]
    by_cases q : r k < c
    · rw [if_pos q, (hA k).1, nI_add]
      have := (hA k).2
      exact ⟨u + z_n (A k), rfl, by omega, by omega⟩
    · rw [if_neg q, Int32.add_zero]
      exact ⟨u, rfl, h1, by omega⟩
theorem z_usr {b : Int32} {x : Nat} {A : Nat → Int32} (hb : b = nI x) (hx : x ≤ 8000) (hA : ∀ j, A j = nI (z_n (A j)) ∧ z_n (A j) ≤ 120) {n : Nat} (hn : n ≤ 12) (r : Nat → Nat) (c : Nat) : z_in (z_us b A r c n) 0 10000 = true := by
  obtain ⟨u, e, h1, h2⟩ := z_usb hb hA r c n
  rw [e]
  exact z_inr (by omega)
section OWN
variable {E A W : Nat → Int32} {n : Nat} {o : Nat → Nat} {b : Int32}
theorem z_wfus (h : z_Or E n o) (k : Nat) (hk : k ≤ n) : W (z_wi (z_us b A (fun j => z_rk E j n) k n)) - z_us 0 (fun j => A j * E j) (fun j => z_rk E j n) k n = z_wf W b A E o k := by
  unfold z_wf
  rw [z_coam, z_amus h b A k hk, z_amus h 0 _ k hk]
theorem z_own (h : z_Or E n o) : W (z_wi (z_us b A (fun j => z_rk E j n) (z_ag (z_wf W b A E o) n).1 n)) - z_us 0 (fun j => A j * E j) (fun j => z_rk E j n) (z_ag (z_wf W b A E o) n).1 n = (z_ag (z_wf W b A E o) n).2 := by
  rw [z_wfus h _ (z_agle _ n)]
  exact (z_agmax _ n).1.symm
theorem z_ownb : ¬ (z_ag (z_wf W b A E o) n).2 < W (z_wi b) := by
  have h1 := (z_agmax (z_wf W b A E o) n).2 0 (Nat.zero_le _)
  have h2 : z_wf W b A E o 0 = W (z_wi b) := Int32.sub_zero _
  rw [h2] at h1
  rw [z_lt]; omega
theorem z_ownk (h : z_Or E n o) {i : Nat} (hi : i < n) : ¬ (z_ag (z_wf W b A E o) n).2 < W (z_wi (z_us b A (fun j => z_rk E j n) (z_rk E i n + 1) n)) - z_us 0 (fun j => A j * E j) (fun j => z_rk E j n) (z_rk E i n + 1) n := by
  have h1 := z_rkn (E := E) hi
  rw [z_wfus h _ (by omega)]
  have h2 := (z_agmax (z_wf W b A E o) n).2 (z_rk E i n + 1) (by omega)
  rw [z_lt]; omega
theorem z_in1 {i j : Nat} (hj : j < n) (h : E j < E i) : decide (z_rk E j n < z_rk E i n + 1) = true := decide_eq_true (by have := z_rklt (n := n) (z_bf1 h) hj; omega)
theorem z_in2 {i j : Nat} (hj : j < n) (h : E j = E i) (h2 : j ≤ i) : decide (z_rk E j n < z_rk E i n + 1) = true := by
  refine decide_eq_true ?_
  rcases Nat.lt_or_ge j i with q | q
  · have := z_rklt (n := n) (z_bf2 h q) hj; omega
  · rw [show j = i by omega]; omega
theorem z_in3 {i j : Nat} (hi : i < n) (hj : j < n) (h : ¬ E j < E i) (h2 : ¬ E j = E i) : decide (z_rk E j n < z_rk E i n + 1) = false := by
  refine decide_eq_false ?_
  have h3 : E i < E j := by
    rw [z_lt] at *
    have : ¬ (E j).toInt = (E i).toInt := fun q => h2 (Int32.toInt_inj.mp q)
    omega
  have := z_rklt (n := n) (z_bf1 h3) hi
  omega
theorem z_in4 {i j : Nat} (hi : i < n) (hj : j < n) (h : ¬ E j < E i) (h2 : i < j) : decide (z_rk E j n < z_rk E i n + 1) = false := by
  by_cases q : E j = E i
  · refine decide_eq_false ?_
    have := z_rklt (n := n) (z_bf2 q.symm h2) hi
    omega
  · exact z_in3 hi hj h q
end OWN
