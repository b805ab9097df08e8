/-! Plain facts: what the methods answer, in words of functions over Int32. -/
def z_b (x : Bool) : Int32 := if x then 1 else 0
def z_in (x a b : Int32) : Bool := decide (a ≤ x) && decide (x ≤ b)
def z_n (x : Int32) : Nat := x.toNatClampNeg
theorem z_lt {x y : Int32} : x < y ↔ x.toInt < y.toInt := Int32.lt_iff_toInt_lt
theorem z_le {x y : Int32} : x ≤ y ↔ x.toInt ≤ y.toInt := Int32.le_iff_toInt_le
theorem z_nlt {x y : Int32} : ¬ x < y ↔ y ≤ x := by rw [z_lt, z_le]; omega
theorem z_nle {x y : Int32} : ¬ x ≤ y ↔ y < x := by rw [z_lt, z_le]; omega
theorem z_in_t {x a b : Int32} (h1 : a ≤ x) (h2 : x ≤ b) : z_in x a b = true := by simp [z_in, h1, h2]
theorem z_in_1 {x a b : Int32} (h1 : ¬ a ≤ x) : z_in x a b = false := by simp only [z_in, h1, decide_false, Bool.false_and]
theorem z_in_2 {x a b : Int32} (h1 : ¬ x ≤ b) : z_in x a b = false := by simp only [z_in, h1, decide_false, Bool.and_false]
theorem z_in_iff {x a b : Int32} : z_in x a b = true ↔ a ≤ x ∧ x ≤ b := by simp [z_in]
theorem z_bt {x : Bool} (h : ¬ z_b x = 0) : x = true := by cases x <;> simp_all [z_b]
theorem z_bf {x : Bool} (h : z_b x = 0) : x = false := by cases x <;> simp_all [z_b]
theorem z_b1 : z_b true = 1 := rfl
theorem z_b0 : z_b false = 0 := rfl
theorem z_bnar (x : Bool) : narrow .boolean (.int (z_b x)) = .int (z_b x) := by cases x <;> rfl
theorem z_nI {n : Nat} (h : n < 2 ^ 31) : z_n (nI n) = n := nI_clamp h
theorem z_of {x b : Int32} (h : z_in x 0 b = true) : x = nI (z_n x) ∧ (z_n x : Int) ≤ b.toInt ∧ (z_n x : Int) = x.toInt := by
  obtain ⟨h1, h2⟩ := z_in_iff.mp h
  have h0 : ¬ x < 0 := z_nlt.mpr h1
  obtain ⟨j, hj, rfl⟩ := nI_of h0
  rw [z_nI hj]
  rw [z_le, nI_toInt hj] at h2
  exact ⟨rfl, h2, (nI_toInt hj).symm⟩
theorem z_P {x : Int32} (h : z_in x 0 4 = true) : x = nI (z_n x) ∧ z_n x < 5 := by
  obtain ⟨h1, h2, -⟩ := z_of h
  have h3 : (4 : Int32).toInt = 4 := by decide
  rw [h3] at h2
  exact ⟨h1, by omega⟩
theorem z_Y {x : Int32} (h : z_in x 0 7 = true) : x = nI (z_n x) ∧ z_n x < 8 := by
  obtain ⟨h1, h2, -⟩ := z_of h
  have h3 : (7 : Int32).toInt = 7 := by decide
  rw [h3] at h2
  exact ⟨h1, by omega⟩
theorem z_H {x : Int32} (h : z_in x 0 11 = true) : x = nI (z_n x) ∧ z_n x < 12 := by
  obtain ⟨h1, h2, -⟩ := z_of h
  have h3 : (11 : Int32).toInt = 11 := by decide
  rw [h3] at h2
  exact ⟨h1, by omega⟩
theorem z_up {x a b : Int32} (c : Int32) (hb : b.toInt + 1 = c.toInt) : z_in x a b = true ↔ a ≤ x ∧ x < c := by
  rw [z_in_iff, z_le, z_le, z_lt]; omega
/-- cells -/
theorem z_yc {p y : Int32} {i j : Nat} (hp : p = nI i) (hy : y = nI j) : p * 8 + y = nI (i * 8 + j) := by
  subst hp; subst hy
  rw [show (8 : Int32) = nI 8 from rfl, pk_mul, nI_add]
theorem z_hc {p y h : Int32} {i j k : Nat} (hp : p = nI i) (hy : y = nI j) (hh : h = nI k) : (p * 8 + y) * 12 + h = nI ((i * 8 + j) * 12 + k) := by
  rw [z_yc hp hy]; subst hh
  rw [show (12 : Int32) = nI 12 from rfl, pk_mul, nI_add]
theorem z_yh {y h : Int32} {j k : Nat} (hy : y = nI j) (hh : h = nI k) : y * 12 + h = nI (j * 12 + k) := by
  subst hy; subst hh
  rw [show (12 : Int32) = nI 12 from rfl, pk_mul, nI_add]
/-- the value of a unit, the sum of the first n values, the worth of an amount -/
def z_v (lo up tp u : Int32) : Int32 := if u ≤ lo then tp else if u ≤ up then tp * (up - u) / (up - lo) else 0
def z_w (lo up tp : Int32) : Nat → Int32
  | 0 => 0
  | n + 1 => z_w lo up tp n + z_v lo up tp (nI (n + 1))
theorem z_ne {lo up u : Int32} (h1 : ¬ u ≤ lo) (h2 : u ≤ up) : ¬ up - lo = 0 := by
  intro h
  have h3 : up = lo := by
    have h4 : up - lo + lo = 0 + lo := by rw [h]
    rw [Int32.sub_add_cancel, Int32.zero_add] at h4
    exact h4
  exact h1 (h3 ▸ h2)
/-- the worths' row behind the units up to k -/
def z_wa (lo up tp : Int32) (f : Nat → Int32) (k : Nat) : Nat → Int32 := fun j => if j = 0 ∨ k < j then f j else z_w lo up tp j
theorem z_wa0 {lo up tp : Int32} {f : Nat → Int32} : z_wa lo up tp f 0 = f := by
  funext j
  unfold z_wa
  rw [if_pos (by omega)]
theorem z_was {lo up tp : Int32} {f : Nat → Int32} {k : Nat} (hf : f 0 = 0) : upd (z_wa lo up tp f k) (k + 1) (z_wa lo up tp f k k + z_v lo up tp (nI (k + 1))) = z_wa lo up tp f (k + 1) := by
  have h0 : z_wa lo up tp f k k = z_w lo up tp k := by
    unfold z_wa
    by_cases hk : k = 0
    · subst hk; simp [hf, z_w]
    · rw [if_neg (by omega)]
  funext j
  unfold upd
  by_cases hj : j = k + 1
  · subst hj
    rw [if_pos rfl, h0]
    unfold z_wa
    rw [if_neg (by omega)]; rfl
  · rw [if_neg hj]
    unfold z_wa
    by_cases h1 : j = 0 ∨ k < j
    · rw [if_pos h1, if_pos (by omega)]
    · rw [if_neg h1, if_neg (by omega)]
theorem z_wae {lo up tp : Int32} {f : Nat → Int32} (hf : f 0 = 0) (j : Nat) (hj : j ≤ 1001) : z_wa lo up tp f 1001 j = z_w lo up tp j := by
  unfold z_wa
  by_cases h : j = 0
  · subst h; rw [if_pos (Or.inl rfl), hf]; rfl
  · rw [if_neg (by omega)]
/-- an index into the worths -/
def z_wi (a : Int32) : Nat := min (z_n a) 1001
theorem z_wix (a : Int32) : (if 0 < (if 1001 < a then 1001 else a) then (if 1001 < a then 1001 else a) else 0 : Int32) = nI (z_wi a) := by
  have h3 : (1001 : Int32).toInt = 1001 := by decide
  have h4 : (0 : Int32).toInt = 0 := by decide
  by_cases h1 : (1001 : Int32) < a
  · rw [if_pos h1, if_pos (by decide)]
    rw [z_lt, h3] at h1
    obtain ⟨j, hj, rfl⟩ := nI_of (x := a) (by rw [z_lt, h4]; omega)
    rw [nI_toInt hj] at h1
    unfold z_wi
    rw [z_nI hj, Nat.min_eq_right (by omega)]; rfl
  · rw [if_neg h1]
    by_cases h2 : (0 : Int32) < a
    · rw [if_pos h2]
      obtain ⟨j, hj, rfl⟩ := nI_of (x := a) (by rw [z_lt, h4] at *; omega)
      rw [z_lt, h3, nI_toInt hj] at h1
      unfold z_wi
      rw [z_nI hj, Nat.min_eq_left (by omega)]
    · rw [if_neg h2]
      have h5 : z_n a = 0 := by
        unfold z_n
        rw [z_lt, h4] at h2
        unfold Int32.toNatClampNeg
        omega
      unfold z_wi
      rw [h5]; rfl
theorem z_wil (a : Int32) : z_wi a < 1002 := by unfold z_wi; omega
/-- supply -/
def z_su (A E : Nat → Int32) (pr : Int32) : Nat → Int32
  | 0 => 0
  | k + 1 => z_su A E pr k + (if E k ≤ pr then A k else 0)
/-- the first k in the order o: their amounts, their costs, the welfare; the best k and its welfare -/
def z_am (b : Int32) (A : Nat → Int32) (o : Nat → Nat) : Nat → Int32
  | 0 => b
  | k + 1 => z_am b A o k + A (o k)
def z_co (A E : Nat → Int32) (o : Nat → Nat) : Nat → Int32
  | 0 => 0
  | k + 1 => z_co A E o k + A (o k) * E (o k)
def z_wf (Wf : Nat → Int32) (b : Int32) (A E : Nat → Int32) (o : Nat → Nat) (k : Nat) : Int32 := Wf (z_wi (z_am b A o k)) - z_co A E o k
def z_ag (wf : Nat → Int32) : Nat → Nat × Int32
  | 0 => (0, wf 0)
  | k + 1 => if (z_ag wf k).2 < wf (k + 1) then (k + 1, wf (k + 1)) else z_ag wf k
/-- the rank of an offer among the first n -/
def z_before (E : Nat → Int32) (i j : Nat) : Bool := decide (E i < E j) || (decide (E i = E j) && decide (i < j))
def z_rk (E : Nat → Int32) (w : Nat) : Nat → Nat
  | 0 => 0
  | k + 1 => z_rk E w k + (if z_before E k w then 1 else 0)
theorem z_rkle (E : Nat → Int32) (w n : Nat) : z_rk E w n ≤ n := by
  induction n with
  | zero => exact Nat.le_refl _
  | succ n ih => unfold z_rk; split <;> omega
/-- sums over the offers in their own order, of those whose rank is less than c -/
def z_us (b : Int32) (f : Nat → Int32) (r : Nat → Nat) (c : Nat) : Nat → Int32
  | 0 => b
  | k + 1 => z_us b f r c k + (if r k < c then f k else 0)
/-- the greatest exit price of those whose rank is less than c -/
def z_pr (E : Nat → Int32) (r : Nat → Nat) (c : Nat) : Nat → Int32
  | 0 => 0
  | k + 1 => if r k < c ∧ z_pr E r c k < E k then E k else z_pr E r c k
/-- a stretch of a row raised by a -/
def z_ad (f : Nat → Int32) (lo hi : Nat) (a : Int32) : Nat → Int32 := fun c => if lo ≤ c ∧ c < hi then f c + a else f c
theorem z_ad0 {f : Nat → Int32} {lo : Nat} {a : Int32} : z_ad f lo lo a = f := by
  funext c; unfold z_ad; rw [if_neg (by omega)]
theorem z_ads {f : Nat → Int32} {lo hi : Nat} {a : Int32} (h : lo ≤ hi) : upd (z_ad f lo hi a) hi (z_ad f lo hi a hi + a) = z_ad f lo (hi + 1) a := by
  funext c
  unfold upd z_ad
  by_cases hc : c = hi
  · subst hc
    rw [if_pos rfl, if_neg (by omega), if_pos (by omega)]
  · rw [if_neg hc]
    by_cases h1 : lo ≤ c ∧ c < hi
    · rw [if_pos h1, if_pos (by omega)]
    · rw [if_neg h1, if_neg (by omega)]
/-- a trade: n hours from the places p and q on -/
def z_td (f : Nat → Int32) (p q : Nat) (a : Int32) : Nat → (Nat → Int32)
  | 0 => f
  | n + 1 => upd (upd (z_td f p q a n) (p + n) (z_td f p q a n (p + n) - a)) (q + n) (upd (z_td f p q a n) (p + n) (z_td f p q a n (p + n) - a) (q + n) + a)
/-- the least of n + 1 cells from p on -/
def z_ls (f : Nat → Int32) (p : Nat) : Nat → Int32
  | 0 => f p
  | n + 1 => if f (p + (n + 1)) < z_ls f p n then f (p + (n + 1)) else z_ls f p n
/-- the lack over the first h hours of a year -/
def z_lk (Ob Ou St : Nat → Int32) (p y : Nat) : Nat → Int32
  | 0 => 0
  | h + 1 => z_lk Ob Ou St p y h + (if St (y * 12 + h) = 0 then 0 else Ob ((p * 8 + y) * 12 + h) - Ou ((p * 8 + y) * 12 + h))
/-- what the class answers as a penalty, and what the reference does -/
def z_pd (lk rate : Int32) : Int64 := lk.toInt64 * rate.toInt64
def z_pm (inc cap : Int32) : Int64 := inc.toInt64 * cap.toInt64 / 100
def z_pc (lk rate inc cap : Int32) : Int32 := (if (if z_pm inc cap < z_pd lk rate then z_pm inc cap else z_pd lk rate) < 0 then 0 else (if z_pm inc cap < z_pd lk rate then z_pm inc cap else z_pd lk rate) : Int64).toInt32
def z_pp (lk rate inc cap : Int32) : Int64 := if z_pd lk rate < 0 then 0 else if z_pd lk rate < z_pm inc cap then z_pd lk rate else z_pm inc cap
/-- the dearest of those that are in -/
def z_de (Z E : Nat → Int32) : Nat → Int32
  | 0 => -1
  | k + 1 => if Z k = 0 then z_de Z E k else if z_de Z E k = -1 then nI k else if E (z_n (z_de Z E k)) ≤ E k then nI k else z_de Z E k
/-- the codes of a throw -/
def z_cd (a b c : Bool) : Int32 := if !a then 1 else if !b then 2 else if !c then 3 else 0
theorem z_agn {wf : Nat → Int32} {k : Nat} (h : ¬ (z_ag wf k).2 < wf (k + 1)) : z_ag wf (k + 1) = z_ag wf k := by
  rw [z_ag, if_neg h]
theorem z_agy {wf : Nat → Int32} {k : Nat} (h : (z_ag wf k).2 < wf (k + 1)) : z_ag wf (k + 1) = (k + 1, wf (k + 1)) := by
  rw [z_ag, if_pos h]
theorem q_cgt {x y : Int32} {k n : Nat} (ey : y = nI n) (e : x = nI k) (hk : k < 2 ^ 31) (hn : n < 2 ^ 31) : y < x ↔ n < k := by subst e; subst ey; exact nI_ltI hn hk
theorem q_cge {x y : Int32} {k n : Nat} (ey : y = nI n) (e : x = nI k) (hk : k < 2 ^ 31) (hn : n < 2 ^ 31) : y ≤ x ↔ n ≤ k := by subst e; subst ey; exact nI_leI hn hk
theorem q_ceq {x y : Int32} {k n : Nat} (ey : y = nI n) (e : x = nI k) (hk : k < 2 ^ 31) (hn : n < 2 ^ 31) : y = x ↔ n = k := by subst e; subst ey; exact nI_eq hn hk
/-- the order behind k shifts, the place of a new one, the new order -/
def z_sh (f : Nat → Int32) (n k : Nat) : Nat → Int32 := fun c => if n - k < c ∧ c ≤ n then f (c - 1) else f c
theorem z_sh0 {f : Nat → Int32} {n : Nat} : z_sh f n 0 = f := by funext c; unfold z_sh; rw [if_neg (by omega)]
theorem z_shl {f : Nat → Int32} {n k c : Nat} (h : c ≤ n - k) : z_sh f n k c = f c := by unfold z_sh; rw [if_neg (by omega)]
theorem z_shs {f : Nat → Int32} {n k t : Nat} {v : Int32} (h : n - k = t + 1) (hv : f t = v) : upd (z_sh f n k) (t + 1) v = z_sh f n (k + 1) := by
  funext c
  unfold upd z_sh
  by_cases hc : c = t + 1
  · subst hc; rw [if_pos rfl, if_pos (by omega)]; exact hv.symm
  · rw [if_neg hc]
    by_cases h1 : n - k < c ∧ c ≤ n
    · rw [if_pos h1, if_pos (by omega)]
    · rw [if_neg h1, if_neg (by omega)]
def z_pl (E : Nat → Int32) (ex : Int32) (o : Nat → Nat) : Nat → Nat
  | 0 => 0
  | t + 1 => if ex < E (o t) then z_pl E ex o t else t + 1
def z_ord (f : Nat → Int32) (n t : Nat) : Nat → Int32 := upd (z_sh f n (n - t)) t (nI n)
/-- the price of the first t -/
def z_po (E : Nat → Int32) (o : Nat → Nat) : Nat → Int32
  | 0 => 0
  | t + 1 => E (o t)
/-- is w among the first t -/
def z_mem (o : Nat → Nat) (w : Nat) : Nat → Bool
  | 0 => false
  | t + 1 => z_mem o w t || decide (o t = w)
theorem z_memt {o : Nat → Nat} {w k t : Nat} (h : k < t) (e : o k = w) : z_mem o w t = true := by
  induction t with
  | zero => omega
  | succ t ih =>
    unfold z_mem
    rcases Nat.lt_or_ge k t with q | q
    · rw [ih q]; rfl
    · have : k = t := by omega
      subst this
      rw [decide_eq_true e, Bool.or_true]
theorem z_mems {o : Nat → Nat} {w k : Nat} (h : z_mem o w k = false) (e : ¬ o k = w) : z_mem o w (k + 1) = false := by
  unfold z_mem; rw [h, decide_eq_false e]; rfl
theorem z_nm1 {k : Nat} (h : k < 2 ^ 31) : ¬ nI k = -1 := by
  intro q
  have h2 : (nI k).toInt = (-1 : Int32).toInt := by rw [q]
  rw [nI_toInt h, show (-1 : Int32).toInt = -1 by decide] at h2
  omega
theorem z_dein (Z E : Nat → Int32) (k : Nat) (hk : k < 2 ^ 31) : z_de Z E k = -1 ∨ (z_de Z E k = nI (z_n (z_de Z E k)) ∧ z_n (z_de Z E k) < k) := by
  induction k with
  | zero => exact Or.inl rfl
  | succ k ih =>
    have hn : z_n (nI k) = k := z_nI (by omega)
    have h2 : nI k = -1 ∨ (nI k = nI (z_n (nI k)) ∧ z_n (nI k) < k + 1) := Or.inr ⟨by rw [hn], by omega⟩
    have h3 : z_de Z E k = -1 ∨ (z_de Z E k = nI (z_n (z_de Z E k)) ∧ z_n (z_de Z E k) < k + 1) := (ih (by omega)).imp id (fun q => ⟨q.1, by omega⟩)
    unfold z_de
    by_cases c1 : Z k = 0
    · rw [if_pos c1]; exact h3
    · rw [if_neg c1]
      by_cases c2 : z_de Z E k = -1
      · rw [if_pos c2]; exact h2
      · rw [if_neg c2]
        by_cases c3 : E (z_n (z_de Z E k)) ≤ E k
        · rw [if_pos c3]; exact h2
        · rw [if_neg c3]; exact h3
theorem z_de1 {Z E : Nat → Int32} {k : Nat} (c1 : Z k = 0) : z_de Z E (k + 1) = z_de Z E k := by rw [z_de, if_pos c1]
theorem z_de2 {Z E : Nat → Int32} {k : Nat} (c1 : ¬ Z k = 0) (c2 : z_de Z E k = -1) : z_de Z E (k + 1) = nI k := by rw [z_de, if_neg c1, if_pos c2]
theorem z_de3 {Z E : Nat → Int32} {k : Nat} (c1 : ¬ Z k = 0) (c2 : ¬ z_de Z E k = -1) (c3 : E (z_n (z_de Z E k)) ≤ E k) : z_de Z E (k + 1) = nI k := by rw [z_de, if_neg c1, if_neg c2, if_pos c3]
theorem z_de4 {Z E : Nat → Int32} {k : Nat} (c1 : ¬ Z k = 0) (c2 : ¬ z_de Z E k = -1) (c3 : ¬ E (z_n (z_de Z E k)) ≤ E k) : z_de Z E (k + 1) = z_de Z E k := by rw [z_de, if_neg c1, if_neg c2, if_neg c3]
/-- the exit price of a leaver -/
def z_xo (E : Nat → Int32) (w : Int32) : Int32 := if w = -1 then 0 else E (z_n w)
/-- the clock: the offers that are in, amount, cost, best welfare, price, behind i leavings -/
def z_one (f : Nat → Int32) (k : Nat) : Nat → Int32 := fun j => if j < k then 1 else f j
theorem z_one0 {f : Nat → Int32} : z_one f 0 = f := by funext j; unfold z_one; rw [if_neg (by omega)]
theorem z_ones {f : Nat → Int32} {k : Nat} : upd (z_one f k) k 1 = z_one f (k + 1) := by
  funext j
  unfold upd z_one
  by_cases h : j = k
  · subst h; rw [if_pos rfl, if_pos (by omega)]
  · rw [if_neg h]
    by_cases h1 : j < k
    · rw [if_pos h1, if_pos (by omega)]
    · rw [if_neg h1, if_neg (by omega)]
def z_kI (f E : Nat → Int32) (n : Nat) : Nat → (Nat → Int32)
  | 0 => z_one f n
  | i + 1 => upd (z_kI f E n i) (z_n (z_de (z_kI f E n i) E n)) 0
def z_kl (f E : Nat → Int32) (n i : Nat) : Int32 := z_de (z_kI f E n i) E n
def z_ka (f E : Nat → Int32) (n : Nat) (b : Int32) (A : Nat → Int32) : Nat → Int32
  | 0 => z_am b A (fun j => j) n
  | i + 1 => z_ka f E n b A i - A (z_n (z_kl f E n i))
def z_kc (f E : Nat → Int32) (n : Nat) (A : Nat → Int32) : Nat → Int32
  | 0 => z_co A E (fun j => j) n
  | i + 1 => z_kc f E n A i - A (z_n (z_kl f E n i)) * E (z_n (z_kl f E n i))
def z_kw (f E : Nat → Int32) (n : Nat) (Wf : Nat → Int32) (b : Int32) (A : Nat → Int32) (i : Nat) : Int32 := Wf (z_wi (z_ka f E n b A i)) - z_kc f E n A i
def z_kb (f E : Nat → Int32) (n : Nat) (w : Nat → Int32) : Nat → Int32 × Int32
  | 0 => (w 0, z_xo E (z_kl f E n 0))
  | i + 1 => if w (i + 1) < (z_kb f E n w i).1 then z_kb f E n w i else (w (i + 1), z_xo E (z_kl f E n (i + 1)))
theorem z_kby {f E : Nat → Int32} {n : Nat} {w : Nat → Int32} {i : Nat} (h : w (i + 1) < (z_kb f E n w i).1) : z_kb f E n w (i + 1) = z_kb f E n w i := by rw [z_kb, if_pos h]
theorem z_kbn {f E : Nat → Int32} {n : Nat} {w : Nat → Int32} {i : Nat} (h : ¬ w (i + 1) < (z_kb f E n w i).1) : z_kb f E n w (i + 1) = (w (i + 1), z_xo E (z_kl f E n (i + 1))) := by rw [z_kb, if_neg h]
theorem z_klin (f E : Nat → Int32) (n i : Nat) (hn : n < 2 ^ 31) : z_kl f E n i = -1 ∨ (z_kl f E n i = nI (z_n (z_kl f E n i)) ∧ z_n (z_kl f E n i) < n) := z_dein _ _ n hn
theorem z_mn {a : Int32} {y T : Nat} (h : a = nI y) (hy : y < 8) (hT : T ≤ 4) : (if 8 < a + nI T then 8 else a + nI T : Int32) = nI (min (y + T) 8) := by
  subst h
  rw [nI_add]
  by_cases c : (8 : Int32) < nI (y + T)
  · have h9 := (q_cgt (y := 8) (n := 8) rfl rfl (by omega) (by omega)).mp c
    rw [if_pos c, Nat.min_eq_right (by omega)]; rfl
  · have h9 := (not_congr (q_cgt (y := 8) (n := 8) rfl rfl (by omega) (by omega))).mp c
    rw [if_neg c, Nat.min_eq_left (by omega)]
theorem z_agle (wf : Nat → Int32) (n : Nat) : (z_ag wf n).1 ≤ n := by
  induction n with
  | zero => exact Nat.le_refl _
  | succ n ih =>
    unfold z_ag
    split
    · exact Nat.le_refl _
    · omega
theorem z_bvn (x : Bool) : vp_nar .boolean (z_b x) = z_b x := by cases x <;> rfl
/-- what the first k of the order bring, from the year y on -/
def z_e (T : Nat → Int32) (y j : Nat) : Nat := min (y + z_n (T j)) 8
def z_rB (B A T : Nat → Int32) (o : Nat → Nat) (y : Nat) : Nat → (Nat → Int32)
  | 0 => B
  | k + 1 => z_ad (z_rB B A T o y k) y (z_e T y (o k)) (A (o k))
def z_rN (N A P T : Nat → Int32) (o : Nat → Nat) (y : Nat) (pr : Int32) : Nat → (Nat → Int32)
  | 0 => N
  | k + 1 => z_ad (z_rN N A P T o y pr k) (z_n (P (o k)) * 8 + y) (z_n (P (o k)) * 8 + z_e T y (o k)) (A (o k) * pr)
def z_rY (Y A P T : Nat → Int32) (o : Nat → Nat) (y : Nat) : Nat → (Nat → Int32)
  | 0 => Y
  | k + 1 => z_ad (z_rY Y A P T o y k) ((z_n (P (o k)) * 8 + y) * 12) ((z_n (P (o k)) * 8 + z_e T y (o k)) * 12) (A (o k))
/-- the class's penalties: over years of a party, over parties -/
def z_py (Y U S N : Nat → Int32) (ra ca : Int32) (p : Nat) (b : Int64) : Nat → Int64
  | 0 => b
  | y + 1 => z_py Y U S N ra ca p b y + (z_pc (z_lk Y U S p y 12) ra (N (p * 8 + y)) ca).toInt64
def z_ps (Y U S N : Nat → Int32) (ra ca : Int32) : Nat → Int64
  | 0 => 0
  | p + 1 => z_py Y U S N ra ca p (z_ps Y U S N ra ca p) 8
theorem z_lti {k : Nat} {x : Int32} (b : Nat) (hb : b < 2 ^ 31) (e : x = nI k) (hk : k < 2 ^ 31) (c : ¬ nI b ≤ x) : k < b := by
  have := (not_congr (q_cge (y := nI b) (n := b) rfl e hk hb)).mp c
  omega
theorem z_has {w : Int32} {n : Nat} (hn : n ≤ 12) (h : (decide (0 ≤ w) && decide (w < nI n)) = true) : w = nI (z_n w) ∧ z_n w < n := by
  simp only [Bool.and_eq_true, decide_eq_true_eq] at h
  obtain ⟨j, hj, rfl⟩ := nI_of (x := w) (z_nlt.mpr h.1)
  have h2 := (nI_ltI hj (by omega)).mp h.2
  rw [z_nI hj]
  exact ⟨rfl, h2⟩
theorem z_cdn {a b c : Bool} (h : ¬ z_cd a b c = 0) : (a && b && c) = false := by
  cases a <;> cases b <;> cases c <;> first | rfl | exact absurd rfl h
theorem z_cdy {a b c : Bool} (h : z_cd a b c = 0) : (a && b && c) = true := by
  cases a <;> cases b <;> cases c <;> first | rfl | exact absurd h (by decide)
theorem z_ltn {a : Int32} {k : Nat} (hk : k + 1 < 2 ^ 31) : a < nI (k + 1) ↔ z_n a < k + 1 := by
  rw [z_lt, nI_toInt hk]
  unfold z_n Int32.toNatClampNeg
  omega
theorem z_bf1 {E : Nat → Int32} {i j : Nat} (h : E i < E j) : z_before E i j = true := by simp [z_before, h]
theorem z_bf2 {E : Nat → Int32} {i j : Nat} (h : E i = E j) (h2 : i < j) : z_before E i j = true := by simp [z_before, h, h2]
theorem z_bf3 {E : Nat → Int32} {i j : Nat} (h : ¬ E i < E j) (h2 : ¬ E i = E j) : z_before E i j = false := by
  unfold z_before; rw [decide_eq_false h, decide_eq_false h2]; rfl
theorem z_bf4 {E : Nat → Int32} {i j : Nat} (h : ¬ E i < E j) (h2 : ¬ i < j) : z_before E i j = false := by
  unfold z_before; rw [decide_eq_false h, decide_eq_false h2, Bool.and_false]; rfl
theorem z_us0 {b : Int32} {f : Nat → Int32} {r : Nat → Nat} (n : Nat) : z_us b f r 0 n = b := by
  induction n with
  | zero => rfl
  | succ n ih => rw [z_us, if_neg (by omega), ih, Int32.add_zero]
/-- the reference's welfare of the first k -/
def z_mw (lo up tp b : Int32) (A E : Nat → Int32) (n k : Nat) : Int32 := z_w lo up tp (min (z_n (z_us b A (fun j => z_rk E j n) k n)) (z_n up)) - z_us 0 (fun j => A j * E j) (fun j => z_rk E j n) k n
/-- the reference's run -/
def z_me (E T : Nat → Int32) (n t y k : Nat) : Nat := if z_rk E k n < t then z_e T y k else y
def z_mB (B A T E : Nat → Int32) (n t y : Nat) : Nat → (Nat → Int32)
  | 0 => B
  | k + 1 => z_ad (z_mB B A T E n t y k) y (z_me E T n t y k) (A k)
def z_mN (N A P T E : Nat → Int32) (n t y : Nat) (pr : Int32) : Nat → (Nat → Int32)
  | 0 => N
  | k + 1 => z_ad (z_mN N A P T E n t y pr k) (z_n (P k) * 8 + y) (z_n (P k) * 8 + z_me E T n t y k) (A k * pr)
def z_mY (Y A P T E : Nat → Int32) (n t y : Nat) : Nat → (Nat → Int32)
  | 0 => Y
  | k + 1 => z_ad (z_mY Y A P T E n t y k) ((z_n (P k) * 8 + y) * 12) ((z_n (P k) * 8 + z_me E T n t y k) * 12) (A k)
/-- the reference's penalties -/
def z_qy (Y U S N : Nat → Int32) (ra ca : Int32) (p : Nat) (b : Int64) : Nat → Int64
  | 0 => b
  | y + 1 => z_qy Y U S N ra ca p b y + z_pp (z_lk Y U S p y 12) ra (N (p * 8 + y)) ca
def z_qs (Y U S N : Nat → Int32) (ra ca : Int32) : Nat → Int64
  | 0 => 0
  | p + 1 => z_qy Y U S N ra ca p (z_qs Y U S N ra ca p) 8
theorem z_lge {x y : Int64} : 0 ≤ lg_cmp x y ↔ ¬ x < y := by
  rw [lg_cmp_ge, Int64.lt_iff_toInt_lt, Int64.le_iff_toInt_le]; omega
