/-! Runs, trades, penalties, a new offer: class and reference alike; what stays in range. -/
theorem z_adp (f : Nat → Int32) (lo hi : Nat) (a : Int32) (c : Nat) : z_ad f lo hi a c = f c + (if lo ≤ c ∧ c < hi then a else 0) := by
  unfold z_ad
  by_cases q : lo ≤ c ∧ c < hi
  · rw [if_pos q, if_pos q]
  · rw [if_neg q, if_neg q, Int32.add_zero]
section RUN
variable {E : Nat → Int32} {n t y : Nat} {o : Nat → Nat} {A T P : Nat → Int32}
theorem z_rBam (B : Nat → Int32) (c k : Nat) : z_rB B A T o y k c = z_am (B c) (fun j => if y ≤ c ∧ c < z_e T y j then A j else 0) o k := by
  induction k with
  | zero => rfl
  | succ k ih => rw [z_rB, z_adp, ih]; rfl
theorem z_mBus (B : Nat → Int32) (c k : Nat) : z_mB B A T E n t y k c = z_us (B c) (fun j => if y ≤ c ∧ c < z_e T y j then A j else 0) (fun j => z_rk E j n) t k := by
  induction k with
  | zero => rfl
  | succ k ih =>
    rw [z_mB, z_adp, ih, z_us]
    unfold z_me
    by_cases q : z_rk E k n < t
    · rw [if_pos q, if_pos q]
    · rw [if_neg q, if_neg q, if_neg (by omega)]
theorem z_rBmB (h : z_Or E n o) (ht : t ≤ n) (B : Nat → Int32) : z_rB B A T o y t = z_mB B A T E n t y n := by
  funext c
  rw [z_rBam, z_mBus, z_amus h _ _ t ht]
theorem z_rNam (N : Nat → Int32) (pr : Int32) (c k : Nat) : z_rN N A P T o y pr k c = z_am (N c) (fun j => if z_n (P j) * 8 + y ≤ c ∧ c < z_n (P j) * 8 + z_e T y j then A j * pr else 0) o k := by
  induction k with
  | zero => rfl
  | succ k ih => rw [z_rN, z_adp, ih]; rfl
theorem z_mNus (N : Nat → Int32) (pr : Int32) (c k : Nat) : z_mN N A P T E n t y pr k c = z_us (N c) (fun j => if z_n (P j) * 8 + y ≤ c ∧ c < z_n (P j) * 8 + z_e T y j then A j * pr else 0) (fun j => z_rk E j n) t k := by
  induction k with
  | zero => rfl
  | succ k ih =>
    rw [z_mN, z_adp, ih, z_us]
    unfold z_me
    by_cases q : z_rk E k n < t
    · rw [if_pos q, if_pos q]
    · rw [if_neg q, if_neg q, if_neg (by omega)]
theorem z_rNmN (h : z_Or E n o) (ht : t ≤ n) (N : Nat → Int32) (pr : Int32) : z_rN N A P T o y pr t = z_mN N A P T E n t y pr n := by
  funext c
  rw [z_rNam, z_mNus, z_amus h _ _ t ht]
theorem z_rYam (Y : Nat → Int32) (c k : Nat) : z_rY Y A P T o y k c = z_am (Y c) (fun j => if (z_n (P j) * 8 + y) * 12 ≤ c ∧ c < (z_n (P j) * 8 + z_e T y j) * 12 then A j else 0) o k := by
  induction k with
  | zero => rfl
  | succ k ih => rw [z_rY, z_adp, ih]; rfl
theorem z_mYus (Y : Nat → Int32) (c k : Nat) : z_mY Y A P T E n t y k c = z_us (Y c) (fun j => if (z_n (P j) * 8 + y) * 12 ≤ c ∧ c < (z_n (P j) * 8 + z_e T y j) * 12 then A j else 0) (fun j => z_rk E j n) t k := by
  induction k with
  | zero => rfl
  | succ k ih =>
    rw [z_mY, z_adp, ih, z_us]
    unfold z_me
    by_cases q : z_rk E k n < t
    · rw [if_pos q, if_pos q]
    · rw [if_neg q, if_neg q, if_neg (by omega)]
theorem z_rYmY (h : z_Or E n o) (ht : t ≤ n) (Y : Nat → Int32) : z_rY Y A P T o y t = z_mY Y A P T E n t y n := by
  funext c
  rw [z_rYam, z_mYus, z_amus h _ _ t ht]
/-- incomes stay small -/
theorem z_rNle (h : z_Or E n o) (N : Nat → Int32) (pr : Int32) {m : Nat} (hpr : ∃ b, b ≤ 1000 ∧ pr = nI b) (hA : ∀ j, j < n → ∃ a, a ≤ 300 ∧ A j = nI a) (c : Nat) {x : Nat} (hx : N c = nI x) (k : Nat) (hk : k ≤ n) : ∃ x', z_rN N A P T o y pr k c = nI x' ∧ x' ≤ x + 300000 * k := by
  induction k with
  | zero => exact ⟨x, hx, by omega⟩
  | succ k ih =>
    obtain ⟨x', e, hle⟩ := ih (by omega)
    obtain ⟨b, hb, rfl⟩ := hpr
    obtain ⟨a, ha, hae⟩ := hA (o k) (h k (by omega)).1
    have hab : a * b ≤ 300 * 1000 := Nat.mul_le_mul ha hb
    rw [z_rN, z_adp, e, hae, pk_mul]
    by_cases q : z_n (P (o k)) * 8 + y ≤ c ∧ c < z_n (P (o k)) * 8 + z_e T y (o k)
    · rw [if_pos q, nI_add]
      exact ⟨x' + a * b, rfl, by omega⟩
    · rw [if_neg q, Int32.add_zero]
      exact ⟨x', rfl, by omega⟩
end RUN
/-- a trade -/
theorem z_tdp (f : Nat → Int32) (p q : Nat) (a : Int32) (k : Nat) : ∀ i, i < 12 → k ≤ 12 → (∀ i j, i < 12 → j < 12 → p + i ≠ q + j) → z_td f p q a k (p + i) = if i < k then f (p + i) - a else f (p + i) := by
  induction k with
  | zero => intro i hi hk hd; rw [if_neg (by omega)]; rfl
  | succ k ih =>
    intro i hi hk hd
    rw [z_td]
    unfold upd
    rw [if_neg (hd i k hi (by omega))]
    by_cases c : i = k
    · subst c
      rw [if_pos rfl, if_pos (by omega), ih i hi (by omega) hd, if_neg (by omega)]
    · rw [if_neg (by omega), ih i hi (by omega) hd]
      by_cases c2 : i < k
      · rw [if_pos c2, if_pos (by omega)]
      · rw [if_neg c2, if_neg (by omega)]
theorem z_lsle (f : Nat → Int32) (p n : Nat) : ∀ i, i ≤ n → (z_ls f p n).toInt ≤ (f (p + i)).toInt := by
  induction n with
  | zero => intro i hi; rw [show i = 0 by omega]; exact Int.le_refl _
  | succ n ih =>
    intro i hi
    rw [z_ls]
    by_cases c : f (p + (n + 1)) < z_ls f p n
    · rw [if_pos c]
      rw [z_lt] at c
      rcases Nat.lt_or_ge i (n + 1) with q | q
      · have := ih i (by omega); omega
      · rw [show i = n + 1 by omega]; exact Int.le_refl _
    · rw [if_neg c]
      rw [z_lt] at c
      rcases Nat.lt_or_ge i (n + 1) with q | q
      · exact ih i (by omega)
      · rw [show i = n + 1 by omega]; omega
theorem z_suba {x a : Int32} (h0 : 0 ≤ a.toInt) (h : a.toInt ≤ x.toInt) : (x - a).toInt = x.toInt - a.toInt := by
  have := Int32.toInt_lt x
  rw [Int32.toInt_sub]
  exact Int.bmod_eq_of_le_mul_two (by omega) (by omega)
theorem z_lssub (f g : Nat → Int32) (p : Nat) (a : Int32) (h0 : 0 ≤ a.toInt) (n : Nat) (hg : ∀ i, i ≤ n → g (p + i) = f (p + i) - a) (ha : ∀ i, i ≤ n → a.toInt ≤ (f (p + i)).toInt) : z_ls g p n = z_ls f p n - a ∧ a.toInt ≤ (z_ls f p n).toInt := by
  induction n with
  | zero => exact ⟨hg 0 (Nat.le_refl _), ha 0 (Nat.le_refl _)⟩
  | succ n ih =>
    obtain ⟨i1, i2⟩ := ih (fun i hi => hg i (by omega)) (fun i hi => ha i (by omega))
    have e1 := z_suba h0 i2
    have e2 := z_suba h0 (ha (n + 1) (Nat.le_refl _))
    rw [z_ls, z_ls, i1, hg (n + 1) (Nat.le_refl _)]
    by_cases c : f (p + (n + 1)) < z_ls f p n
    · have c' : f (p + (n + 1)) - a < z_ls f p n - a := by rw [z_lt] at *; omega
      rw [if_pos c, if_pos c']
      exact ⟨rfl, ha _ (Nat.le_refl _)⟩
    · have c' : ¬ f (p + (n + 1)) - a < z_ls f p n - a := by rw [z_lt] at *; omega
      rw [if_neg c, if_neg c']
      exact ⟨rfl, i2⟩
theorem z_trade (f : Nat → Int32) {p q y g n : Nat} {a : Int32} (hpq : p ≠ q) (hn : g + n < 12) (h0 : 0 ≤ a.toInt) (ha : a ≤ z_ls f ((p * 8 + y) * 12 + g) n) : z_ls (z_td f ((p * 8 + y) * 12 + g) ((q * 8 + y) * 12 + g) a (n + 1)) ((p * 8 + y) * 12 + g) n = z_ls f ((p * 8 + y) * 12 + g) n - a := by
  rw [z_le] at ha
  refine (z_lssub f _ _ a h0 n (fun i hi => ?_) (fun i hi => ?_)).1
  · rw [z_tdp f _ _ a (n + 1) i (by omega) (by omega) (fun i j hi hj => by omega), if_pos (by omega)]
  · have := z_lsle f ((p * 8 + y) * 12 + g) n i hi
    omega
/-- penalties -/
theorem z_pmin {inc cap : Int32} {x k : Nat} (h1 : inc = nI x) (hx : x ≤ 200000000) (h2 : cap = nI k) (hk : k ≤ 200) : ∃ v : Nat, v ≤ 400000000 ∧ z_pm inc cap = lN v := by
  subst h1; subst h2
  have hxk : x * k ≤ 200000000 * 200 := Nat.mul_le_mul hx hk
  refine ⟨x * k / 100, by omega, ?_⟩
  unfold z_pm
  rw [nI_l (by omega), nI_l (by omega), lN_mul, show (100 : Int64) = lN 100 from rfl, pk_lDiv (by omega) (by omega) (by omega)]
theorem z_pcpp {lk rate inc cap : Int32} {v : Nat} (hv : v ≤ 400000000) (h : z_pm inc cap = lN v) : z_pc lk rate inc cap = (z_pp lk rate inc cap).toInt32 ∧ (z_pc lk rate inc cap).toInt64 = z_pp lk rate inc cap := by
  have hvi : (lN v).toInt = (v : Int) := lN_toInt (by omega)
  have e : (if (if z_pm inc cap < z_pd lk rate then z_pm inc cap else z_pd lk rate) < 0 then 0 else (if z_pm inc cap < z_pd lk rate then z_pm inc cap else z_pd lk rate) : Int64) = z_pp lk rate inc cap := by
    unfold z_pp
    rw [h]
    have h0 : (0 : Int64).toInt = 0 := by decide
    by_cases c1 : z_pd lk rate < 0
    · rw [Int64.lt_iff_toInt_lt, h0] at c1
      have c2 : ¬ lN v < z_pd lk rate := by rw [Int64.lt_iff_toInt_lt]; omega
      rw [if_neg c2, if_pos (by rw [Int64.lt_iff_toInt_lt, h0]; omega), if_pos (by rw [Int64.lt_iff_toInt_lt, h0]; omega)]
    · rw [Int64.lt_iff_toInt_lt, h0] at c1
      rw [if_neg (show ¬ z_pd lk rate < 0 by rw [Int64.lt_iff_toInt_lt, h0]; omega)]
      by_cases c2 : lN v < z_pd lk rate
      · have c3 := Int64.lt_iff_toInt_lt.mp c2
        rw [if_pos c2, if_neg (by rw [Int64.lt_iff_toInt_lt, h0]; omega), if_neg (by rw [Int64.lt_iff_toInt_lt]; omega)]
      · have c3 : ¬ (lN v).toInt < (z_pd lk rate).toInt := fun q => c2 (Int64.lt_iff_toInt_lt.mpr q)
        rw [if_neg c2, if_neg (by rw [Int64.lt_iff_toInt_lt, h0]; omega)]
        by_cases c4 : z_pd lk rate < lN v
        · rw [if_pos c4]
        · rw [if_neg c4]
          rw [Int64.lt_iff_toInt_lt] at c4
          exact Int64.toInt_inj.mp (by omega)
  have hc : z_pc lk rate inc cap = (z_pp lk rate inc cap).toInt32 := by
    unfold z_pc
    rw [e]
  obtain ⟨w, hw, hwe⟩ : ∃ w : Nat, w ≤ 400000000 ∧ z_pp lk rate inc cap = lN w := by
    have h0 : (0 : Int64).toInt = 0 := by decide
    unfold z_pp
    rw [h]
    by_cases c1 : z_pd lk rate < 0
    · rw [if_pos c1]; exact ⟨0, by omega, rfl⟩
    · rw [if_neg c1]
      by_cases c4 : z_pd lk rate < lN v
      · rw [if_pos c4]
        rw [Int64.lt_iff_toInt_lt] at c4
        obtain ⟨w, hw, e2⟩ := pk_lOf c1
        rw [e2, pk_lT hw] at c4
        exact ⟨w, by omega, e2⟩
      · rw [if_neg c4]; exact ⟨v, hv, rfl⟩
  refine ⟨hc, ?_⟩
  rw [hc, hwe, lN_i, nI_l (by omega)]
theorem z_psqs {Y U S N : Nat → Int32} {ra ca : Int32} (h : ∀ p y, (z_pc (z_lk Y U S p y 12) ra (N (p * 8 + y)) ca).toInt64 = z_pp (z_lk Y U S p y 12) ra (N (p * 8 + y)) ca) (k : Nat) : z_ps Y U S N ra ca k = z_qs Y U S N ra ca k := by
  have hy : ∀ p b m, z_py Y U S N ra ca p b m = z_qy Y U S N ra ca p b m := by
    intro p b m
    induction m with
    | zero => rfl
    | succ m ih => rw [z_py, z_qy, ih, h]
  induction k with
  | zero => rfl
  | succ k ih => rw [z_ps, z_qs, ih, hy]
/-- a new offer in the order -/
def z_un (r : Nat → Nat) (c : Nat) : Nat → Nat
  | 0 => 0
  | k + 1 => z_un r c k + (if r k < c then 1 else 0)
theorem z_un0 {r : Nat → Nat} (n : Nat) : z_un r 0 n = 0 := by
  induction n with
  | zero => rfl
  | succ n ih => rw [z_un, ih, if_neg (by omega)]
theorem z_unstep {r : Nat → Nat} {c j0 : Nat} (n : Nat) (h : ∀ j, j < n → r j = c → j = j0) : z_un r (c + 1) n = z_un r c n + (if j0 < n ∧ r j0 = c then 1 else 0) := by
  induction n with
  | zero => rw [if_neg (by omega)]; rfl
  | succ n ih =>
    have ih := ih (fun j hj => h j (by omega))
    rw [z_un, z_un, ih]
    by_cases q : r n = c
    · have e := h n (by omega) q
      subst e
      rw [if_neg (by omega), if_pos (by omega), if_neg (by omega), if_pos (by omega)]
    · have q4 : (j0 < n + 1 ∧ r j0 = c) ↔ (j0 < n ∧ r j0 = c) := by
        constructor
        · intro q5
          have : j0 ≠ n := fun e => q (by rw [← e]; exact q5.2)
          exact ⟨by omega, q5.2⟩
        · intro q5; exact ⟨by omega, q5.2⟩
      by_cases q2 : r n < c
      · rw [if_pos (show r n < c + 1 by omega), if_pos q2]
        by_cases q3 : j0 < n ∧ r j0 = c
        · rw [if_pos q3, if_pos (q4.mpr q3)]
        · rw [if_neg q3, if_neg (fun x => q3 (q4.mp x))]
      · rw [if_neg (show ¬ r n < c + 1 by omega), if_neg q2]
        by_cases q3 : j0 < n ∧ r j0 = c
        · rw [if_pos q3, if_pos (q4.mpr q3)]
        · rw [if_neg q3, if_neg (fun x => q3 (q4.mp x))]
theorem z_uncnt {E : Nat → Int32} {n : Nat} {o : Nat → Nat} (h : z_Or E n o) (k : Nat) (hk : k ≤ n) : z_un (fun j => z_rk E j n) k n = k := by
  induction k with
  | zero => exact z_un0 n
  | succ k ih =>
    obtain ⟨h1, h2⟩ := h k (by omega)
    rw [z_unstep (j0 := o k) n (fun j hj e => z_rkinj hj h1 (by rw [h2]; exact e)), if_pos ⟨h1, h2⟩, ih (by omega)]
theorem z_plis {E : Nat → Int32} {ex : Int32} {o : Nat → Nat} (n : Nat) : z_pl E ex o n ≤ n ∧ (∀ p, z_pl E ex o n ≤ p → p < n → ex < E (o p)) ∧ (0 < z_pl E ex o n → ¬ ex < E (o (z_pl E ex o n - 1))) := by
  induction n with
  | zero => exact ⟨Nat.le_refl _, fun p h1 h2 => by omega, fun h => absurd h (Nat.lt_irrefl _)⟩
  | succ n ih =>
    obtain ⟨a1, a2, a3⟩ := ih
    unfold z_pl
    by_cases q : ex < E (o n)
    · rw [if_pos q]
      refine ⟨by omega, fun p h1 h2 => ?_, a3⟩
      rcases Nat.lt_or_ge p n with c | c
      · exact a2 p h1 c
      · rw [show p = n by omega]; exact q
    · rw [if_neg q]
      exact ⟨Nat.le_refl _, fun p h1 h2 => by omega, fun _ => q⟩
theorem z_rkupd {E : Nat → Int32} {ex : Int32} {n j : Nat} (hj : j < n) (m : Nat) (hm : m ≤ n) : z_rk (upd E n ex) j m = z_rk E j m := by
  induction m with
  | zero => rfl
  | succ m ih =>
    have e1 : upd E n ex m = E m := by unfold upd; rw [if_neg (by omega)]
    have e2 : upd E n ex j = E j := by unfold upd; rw [if_neg (by omega)]
    have e3 : z_before (upd E n ex) m j = z_before E m j := by unfold z_before; rw [e1, e2]
    rw [z_rk, z_rk, ih (by omega), e3]
theorem z_ins {E fO : Nat → Int32} {ex : Int32} {n : Nat} {o : Nat → Nat} (h : z_Or E n o) (hn : n < 12) (hO : ∀ k, k < n → fO k = nI (o k)) :
    ∀ k, k < n + 1 → z_ord fO n (z_pl E ex o n) k = nI (z_n (z_ord fO n (z_pl E ex o n) k)) ∧ z_n (z_ord fO n (z_pl E ex o n) k) < n + 1 ∧ z_rk (upd E n ex) (z_n (z_ord fO n (z_pl E ex o n) k)) (n + 1) = k := by
  obtain ⟨a1, a2, a3⟩ := z_plis (E := E) (ex := ex) (o := o) n
  have hlow : ∀ p, p < z_pl E ex o n → ¬ ex < E (o p) := by
    intro p hp
    have h3 := a3 (by omega)
    obtain ⟨g1, g2⟩ := h p (by omega)
    obtain ⟨g3, g4⟩ := h (z_pl E ex o n - 1) (by omega)
    have := z_rkE (E := E) (i := o p) g3 (by rw [g2, g4]; omega)
    rw [z_lt] at *
    omega
  have hiff : ∀ j, j < n → (ex < E j ↔ ¬ z_rk E j n < z_pl E ex o n) := by
    intro j hj
    have hr := z_rkn (E := E) hj
    obtain ⟨g1, g2⟩ := h _ hr
    have e : o (z_rk E j n) = j := z_rkinj g1 hj g2
    constructor
    · intro q q2
      exact hlow _ q2 (by rw [e]; exact q)
    · intro q
      have := a2 (z_rk E j n) (by omega) hr
      rw [e] at this
      exact this
  have een : upd E n ex n = ex := by unfold upd; rw [if_pos rfl]
  have eej : ∀ j, j < n → upd E n ex j = E j := fun j hj => by unfold upd; rw [if_neg (by omega)]
  have hold : ∀ j, j < n → z_rk (upd E n ex) j (n + 1) = z_rk E j n + (if z_rk E j n < z_pl E ex o n then 0 else 1) := by
    intro j hj
    have hb : z_before (upd E n ex) n j = decide (ex < E j) := by
      unfold z_before
      rw [een, eej j hj, decide_eq_false (show ¬ n < j by omega), Bool.and_false, Bool.or_false]
    rw [z_rk, z_rkupd hj n (Nat.le_refl _), hb]
    by_cases q : z_rk E j n < z_pl E ex o n
    · rw [if_pos q, decide_eq_false (fun x => (hiff j hj).mp x q)]; rfl
    · rw [if_neg q, decide_eq_true ((hiff j hj).mpr q)]; rfl
  have hnew : z_rk (upd E n ex) n (n + 1) = z_pl E ex o n := by
    have key : ∀ m, m ≤ n → z_rk (upd E n ex) n m = z_un (fun j => z_rk E j n) (z_pl E ex o n) m := by
      intro m
      induction m with
      | zero => intro _; rfl
      | succ m ih =>
        intro hm
        have hb : z_before (upd E n ex) m n = decide (z_rk E m n < z_pl E ex o n) := by
          have hi := hiff m (by omega)
          by_cases q : z_rk E m n < z_pl E ex o n
          · rw [decide_eq_true q, z_bfi, een, eej m (by omega)]
            have : ¬ ex < E m := fun x => hi.mp x q
            rw [z_lt] at this
            omega
          · rw [decide_eq_false q]
            have h8 := hi.mpr q
            cases hq : z_before (upd E n ex) m n with
            | false => rfl
            | true =>
              rw [z_bfi, een, eej m (by omega)] at hq
              rw [z_lt] at h8
              omega
        rw [z_rk, z_un, ih (by omega), hb]
        by_cases q : z_rk E m n < z_pl E ex o n
        · rw [decide_eq_true q, if_pos q]; rfl
        · rw [decide_eq_false q, if_neg q]; rfl
    have hself : z_before (upd E n ex) n n = false := by
      cases hq : z_before (upd E n ex) n n with
      | false => rfl
      | true => rw [z_bfi] at hq; omega
    rw [z_rk, key n (Nat.le_refl _), z_uncnt h _ a1, hself]; rfl
  intro k hk
  generalize hpe : z_pl E ex o n = pt at *
  rcases Nat.lt_trichotomy k pt with c | c | c
  · have e : z_ord fO n pt k = fO k := by
      unfold z_ord upd z_sh
      rw [if_neg (by omega), if_neg (by omega)]
    obtain ⟨g1, g2⟩ := h k (by omega)
    rw [e, hO k (by omega), z_nI (by omega)]
    refine ⟨rfl, by omega, ?_⟩
    rw [hold _ g1, g2, if_pos c, Nat.add_zero]
  · have e : z_ord fO n pt k = nI n := by
      unfold z_ord upd
      rw [if_pos c]
    rw [e, z_nI (by omega)]
    exact ⟨rfl, by omega, by rw [hnew]; exact c.symm⟩
  · have e : z_ord fO n pt k = fO (k - 1) := by
      unfold z_ord upd z_sh
      rw [if_neg (by omega), if_pos (by omega)]
    obtain ⟨g1, g2⟩ := h (k - 1) (by omega)
    rw [e, hO (k - 1) (by omega), z_nI (by omega)]
    refine ⟨rfl, by omega, ?_⟩
    rw [hold _ g1, g2, if_neg (by omega)]; omega
