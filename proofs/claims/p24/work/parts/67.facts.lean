/-! What each step of the property's law compares. -/
section STEP
variable {E A T P : Nat → Int32} {n t y : Nat} {o : Nat → Nat}
/-- how many are taken -/
theorem z_unst (r : Nat → Nat) (c k : Nat) : nI (z_un r c k) + (if r k < c then 1 else 0) = nI (z_un r c (k + 1)) := by
  rw [z_un]
  by_cases q : r k < c
  · rw [if_pos q, if_pos q, nI_1]
  · rw [if_neg q, if_neg q, Int32.add_zero]; rfl
theorem z_am0 (b : Int32) (f : Nat → Int32) (k : Nat) : z_am b f o k = b + z_am 0 f o k := by
  induction k with
  | zero => exact (Int32.add_zero b).symm
  | succ k ih => rw [z_am, z_am, ih, Int32.add_assoc]
theorem z_amcg {f g : Nat → Int32} (b : Int32) (k : Nat) (h : ∀ j, j < k → f (o j) = g (o j)) : z_am b f o k = z_am b g o k := by
  induction k with
  | zero => rfl
  | succ k ih => rw [z_am, z_am, ih (fun j hj => h j (by omega)), h k (by omega)]
theorem z_rBy (h : z_Or E n o) (ht : t ≤ n) (hT : ∀ j, j < n → 1 ≤ z_n (T j)) (hy : y < 8) (B : Nat → Int32) : z_rB B A T o y t y = B y + z_us 0 A (fun j => z_rk E j n) t n := by
  rw [z_rBam, ← z_amus h 0 A t ht, ← z_am0]
  refine z_amcg _ t (fun j hj => ?_)
  have h1 := hT (o j) (h j (by omega)).1
  have h2 : y ≤ y ∧ y < z_e T y (o j) := ⟨Nat.le_refl _, by unfold z_e; omega⟩
  show (if y ≤ y ∧ y < z_e T y (o j) then A (o j) else 0) = A (o j)
  rw [if_pos h2]
/-- what the first k of the order pay to the party p -/
def z_dp (A P : Nat → Int32) (o : Nat → Nat) (pr : Int32) (p k : Nat) : Int32 := z_am 0 (fun j => if z_n (P j) = p then A j * pr else 0) o k
theorem z_rNy (h : z_Or E n o) (ht : t ≤ n) (hT : ∀ j, j < n → 1 ≤ z_n (T j)) (hy : y < 8) (N : Nat → Int32) (pr : Int32) (p : Nat) (hp : p < 5) : z_rN N A P T o y pr t (p * 8 + y) = N (p * 8 + y) + z_dp A P o pr p t := by
  unfold z_dp
  rw [z_rNam, ← z_am0]
  refine z_amcg _ t (fun j hj => ?_)
  have h1 := hT (o j) (h j (by omega)).1
  have h3 : y < z_e T y (o j) ∧ z_e T y (o j) ≤ 8 := by unfold z_e; omega
  show (if z_n (P (o j)) * 8 + y ≤ p * 8 + y ∧ p * 8 + y < z_n (P (o j)) * 8 + z_e T y (o j) then A (o j) * pr else 0) = if z_n (P (o j)) = p then A (o j) * pr else 0
  by_cases q : z_n (P (o j)) = p
  · rw [if_pos q, if_pos (by omega)]
  · rw [if_neg q, if_neg (by omega)]
theorem z_dps (hP : ∀ j, z_n (P j) < 5) (pr : Int32) (k : Nat) : z_dp A P o pr 0 k + z_dp A P o pr 1 k + z_dp A P o pr 2 k + z_dp A P o pr 3 k + z_dp A P o pr 4 k = z_am 0 A o k * pr := by
  induction k with
  | zero =>
    show (0 : Int32) + 0 + 0 + 0 + 0 = 0 * pr
    rw [Int32.zero_mul]; rfl
  | succ k ih =>
    have e : ∀ p, z_dp A P o pr p (k + 1) = z_dp A P o pr p k + (if z_n (P (o k)) = p then A (o k) * pr else 0) := fun p => rfl
    have hp := hP (o k)
    rw [e, e, e, e, e, z_am]
    rcases (show z_n (P (o k)) = 0 ∨ z_n (P (o k)) = 1 ∨ z_n (P (o k)) = 2 ∨ z_n (P (o k)) = 3 ∨ z_n (P (o k)) = 4 by omega) with q | q | q | q | q
    · rw [if_pos q, if_neg (by omega), if_neg (by omega), if_neg (by omega), if_neg (by omega), Int32.add_zero, Int32.add_zero, Int32.add_zero, Int32.add_zero]
      exact za_d0 _ _ _ _ _ _ _ _ ih
    · rw [if_neg (by omega), if_pos q, if_neg (by omega), if_neg (by omega), if_neg (by omega), Int32.add_zero, Int32.add_zero, Int32.add_zero, Int32.add_zero]
      exact za_d1 _ _ _ _ _ _ _ _ ih
    · rw [if_neg (by omega), if_neg (by omega), if_pos q, if_neg (by omega), if_neg (by omega), Int32.add_zero, Int32.add_zero, Int32.add_zero, Int32.add_zero]
      exact za_d2 _ _ _ _ _ _ _ _ ih
    · rw [if_neg (by omega), if_neg (by omega), if_neg (by omega), if_pos q, if_neg (by omega), Int32.add_zero, Int32.add_zero, Int32.add_zero, Int32.add_zero]
      exact za_d3 _ _ _ _ _ _ _ _ ih
    · rw [if_neg (by omega), if_neg (by omega), if_neg (by omega), if_neg (by omega), if_pos q, Int32.add_zero, Int32.add_zero, Int32.add_zero, Int32.add_zero]
      exact za_d4 _ _ _ _ _ _ _ _ ih
/-- the law's sum of incomes, taken off and added -/
def z_es (x : Int32) (N : Nat → Int32) (y : Nat) : Nat → Int32
  | 0 => x
  | p + 1 => z_es x N y p - N (p * 8 + y)
def z_ep (x : Int32) (N : Nat → Int32) (y : Nat) : Nat → Int32
  | 0 => x
  | p + 1 => z_ep x N y p + N (p * 8 + y)
theorem z_earn (h : z_Or E n o) (ht : t ≤ n) (hT : ∀ j, j < n → 1 ≤ z_n (T j)) (hP : ∀ j, z_n (P j) < 5) (hy : y < 8) (N : Nat → Int32) (pr : Int32) :
    z_ep (z_es (-pr * z_us 0 A (fun j => z_rk E j n) t n) N y 5) (z_rN N A P T o y pr t) y 5 = 0 := by
  have e : ∀ p, p < 5 → z_rN N A P T o y pr t (p * 8 + y) = N (p * 8 + y) + z_dp A P o pr p t := fun p hp => z_rNy h ht hT hy N pr p hp
  rw [← z_amus h 0 A t ht]
  show -pr * z_am 0 A o t - N (0 * 8 + y) - N (1 * 8 + y) - N (2 * 8 + y) - N (3 * 8 + y) - N (4 * 8 + y) + z_rN N A P T o y pr t (0 * 8 + y) + z_rN N A P T o y pr t (1 * 8 + y) + z_rN N A P T o y pr t (2 * 8 + y) + z_rN N A P T o y pr t (3 * 8 + y) + z_rN N A P T o y pr t (4 * 8 + y) = 0
  rw [e 0 (by omega), e 1 (by omega), e 2 (by omega), e 3 (by omega), e 4 (by omega)]
  exact za_1 _ _ _ _ _ _ _ _ _ _ _ _ (z_dps hP pr t)
theorem z_earn0 (x : Int32) (hx : x = 0) (N : Nat → Int32) (y : Nat) : z_ep (z_es x N y 5) N y 5 = 0 := za_5 _ _ _ _ _ _ hx
end STEP
/-- supply -/
def z_sN (A E : Nat → Int32) (x : Nat) : Nat → Nat
  | 0 => 0
  | m + 1 => z_sN A E x m + (if z_n (E m) ≤ x then z_n (A m) else 0)
theorem z_sNle {A E : Nat → Int32} (hA : ∀ j, z_n (A j) ≤ 120) (x m : Nat) : z_sN A E x m ≤ 120 * m := by
  induction m with
  | zero => exact Nat.le_refl _
  | succ m ih =>
    rw [z_sN]
    have := hA m
    split <;> omega
theorem z_suN {A E : Nat → Int32} (hA : ∀ j, A j = nI (z_n (A j)) ∧ z_n (A j) ≤ 120) (hE : ∀ j, E j = nI (z_n (E j)) ∧ z_n (E j) ≤ 69) {x : Nat} (hx : x ≤ 100) (m : Nat) : z_su A E (nI x) m = nI (z_sN A E x m) := by
  induction m with
  | zero => rfl
  | succ m ih =>
    obtain ⟨e1, e2⟩ := hE m
    have hc : E m ≤ nI x ↔ z_n (E m) ≤ x := q_cge (y := E m) (x := nI x) e1 rfl (by omega) (by omega)
    rw [z_su, z_sN, ih]
    by_cases q : z_n (E m) ≤ x
    · rw [if_pos (hc.mpr q), if_pos q]
      exact (congrArg (nI (z_sN A E x m) + ·) (hA m).1).trans (nI_add _ _)
    · rw [if_neg (fun h => q (hc.mp h)), if_neg q, Int32.add_zero]; rfl
theorem z_sNm {A E : Nat → Int32} {x x' : Nat} (h : x ≤ x') (m : Nat) : z_sN A E x m ≤ z_sN A E x' m := by
  induction m with
  | zero => exact Nat.le_refl _
  | succ m ih =>
    rw [z_sN, z_sN]
    by_cases q : z_n (E m) ≤ x
    · rw [if_pos q, if_pos (by omega)]; omega
    · rw [if_neg q]; omega
theorem z_supp {A E : Nat → Int32} (hA : ∀ j, A j = nI (z_n (A j)) ∧ z_n (A j) ≤ 120) (hE : ∀ j, E j = nI (z_n (E j)) ∧ z_n (E j) ≤ 69) {n ex am : Nat} (hn : n < 12) (hex : ex ≤ 69) (ham : am ≤ 120) (hAn : A n = nI am) (hEn : E n = nI ex) :
    ¬ z_su A E (nI ex) (n + 1) < (if ex = 0 then 0 else z_su A E (nI (ex - 1)) (n + 1)) + nI am := by
  have b1 := z_sNle (A := A) (E := E) (fun j => (hA j).2) ex (n + 1)
  have b2 := z_sNle (A := A) (E := E) (fun j => (hA j).2) (ex - 1) (n + 1)
  have zA : z_n (A n) = am := by rw [hAn]; exact z_nI (by omega)
  have zE : z_n (E n) = ex := by rw [hEn]; exact z_nI (by omega)
  have e1 : z_sN A E ex (n + 1) = z_sN A E ex n + am := by rw [z_sN, zE, zA, if_pos (Nat.le_refl _)]
  rw [z_suN hA hE (by omega)]
  by_cases q : ex = 0
  · rw [if_pos q, show (0 : Int32) = nI 0 from rfl, nI_add]
    exact z_nlt.mpr (nI_le (by omega) (by omega))
  · rw [if_neg q, z_suN hA hE (by omega), nI_add]
    have e2 : z_sN A E (ex - 1) (n + 1) = z_sN A E (ex - 1) n := by rw [z_sN, zE, if_neg (by omega), Nat.add_zero]
    have e3 := z_sNm (A := A) (E := E) (show ex - 1 ≤ ex by omega) n
    exact z_nlt.mpr (nI_le (by omega) (by omega))
/-- the demand's values fall, its worths add them up -/
def z_vN (l u t x : Nat) : Nat := if x ≤ l then t else if x ≤ u then t * (u - x) / (u - l) else 0
theorem z_vNe {l u t x : Nat} (hl : l ≤ 1000) (hu : u ≤ 1001) (ht : t ≤ 1000) (hx : x ≤ 20000) (hlu : l < u) : z_v (nI l) (nI u) (nI t) (nI x) = nI (z_vN l u t x) := by
  unfold z_v z_vN
  by_cases c1 : x ≤ l
  · rw [if_pos (nI_le c1 (by omega)), if_pos c1]
  · rw [if_neg (fun h => c1 ((nI_leI (by omega) (by omega)).mp h)), if_neg c1]
    by_cases c2 : x ≤ u
    · have hm : t * (u - x) ≤ 1000 * 1001 := Nat.mul_le_mul ht (by omega)
      rw [if_pos (nI_le c2 (by omega)), if_pos c2, pk_sub c2, pk_sub (by omega), pk_mul, pk_div (by omega) (by omega) (by omega)]
    · rw [if_neg (fun h => c2 ((nI_leI (by omega) (by omega)).mp h)), if_neg c2]; rfl
theorem z_vNle {l u t x : Nat} (hlu : l < u) : z_vN l u t x ≤ t := by
  unfold z_vN
  by_cases c1 : x ≤ l
  · rw [if_pos c1]; exact Nat.le_refl _
  · rw [if_neg c1]
    by_cases c2 : x ≤ u
    · rw [if_pos c2]
      exact Nat.div_le_of_le_mul (by rw [Nat.mul_comm (u - l) t]; exact Nat.mul_le_mul_left t (by omega))
    · rw [if_neg c2]; exact Nat.zero_le _
theorem z_vNf {l u t x : Nat} (hlu : l < u) : z_vN l u t (x + 1) ≤ z_vN l u t x := by
  by_cases c1 : x ≤ l
  · have : z_vN l u t x = t := by unfold z_vN; rw [if_pos c1]
    rw [this]; exact z_vNle hlu
  · by_cases c2 : x + 1 ≤ u
    · unfold z_vN
      rw [if_neg (by omega), if_pos c2, if_neg c1, if_pos (by omega)]
      exact Nat.div_le_div_right (Nat.mul_le_mul_left t (by omega))
    · have : z_vN l u t (x + 1) = 0 := by unfold z_vN; rw [if_neg (by omega), if_neg c2]
      rw [this]; exact Nat.zero_le _
theorem z_fall {l u t x : Nat} {fW : Nat → Int32} (h0 : fW 0 = 0) (hl : l ≤ 1000) (hu : u ≤ 1001) (ht : t ≤ 1000) (hlu : l < u) (hx1 : 1 ≤ x) (hx : x ≤ 500) :
    ¬ z_v (nI l) (nI u) (nI t) (nI x) < z_v (nI l) (nI u) (nI t) (nI x + 1) ∧ ¬ z_v (nI l) (nI u) (nI t) (nI x) < 0 ∧
    z_wa (nI l) (nI u) (nI t) fW 1001 (z_wi (nI x)) = z_wa (nI l) (nI u) (nI t) fW 1001 (z_wi (nI x - 1)) + z_v (nI l) (nI u) (nI t) (nI x) := by
  obtain ⟨w, rfl⟩ : ∃ w, x = w + 1 := ⟨x - 1, by omega⟩
  have b1 := z_vNle (l := l) (u := u) (t := t) (x := w + 1) hlu
  have b2 := z_vNf (l := l) (u := u) (t := t) (x := w + 1) hlu
  refine ⟨?_, ?_, ?_⟩
  · rw [nI_1, z_vNe hl hu ht (by omega) hlu, z_vNe hl hu ht (by omega) hlu]
    exact z_nlt.mpr (nI_le b2 (by omega))
  · rw [z_vNe hl hu ht (by omega) hlu]
    exact z_nlt.mpr (nI_le (a := 0) (Nat.zero_le _) (by omega))
  · rw [nI_pred]
    have e1 : z_wi (nI (w + 1)) = w + 1 := by unfold z_wi; rw [z_nI (by omega)]; omega
    have e2 : z_wi (nI w) = w := by unfold z_wi; rw [z_nI (by omega)]; omega
    rw [e1, e2, z_wae h0 _ (by omega), z_wae h0 _ (by omega)]; rfl
/-- a stress hour turned twice -/
theorem z_stt (f : Nat → Int32) (c : Nat) (x : Bool) : z_b x + z_b (decide (upd f c (z_b x) c = 0)) = 1 := by
  rw [pk_us]
  cases x <;> decide
theorem z_bge (x : Bool) : ¬ z_b x < 0 := by cases x <;> decide
/-- a telling moves the lack by what it tells more, or not at all -/
theorem z_lkt (fY fU fS : Nat → Int32) (p y h : Nat) (v : Int32) (m : Nat) (hm : m ≤ 12) : z_lk fY (upd fU ((p * 8 + y) * 12 + h) v) fS p y m = z_lk fY fU fS p y m ∨ (h < m ∧ z_lk fY (upd fU ((p * 8 + y) * 12 + h) v) fS p y m = z_lk fY fU fS p y m + fU ((p * 8 + y) * 12 + h) - v) := by
  induction m with
  | zero => exact Or.inl rfl
  | succ m ih =>
    rw [z_lk, z_lk]
    by_cases q : m = h
    · subst q
      rcases ih (by omega) with e | ⟨e, -⟩
      · rw [e, pk_us]
        by_cases c : fS (y * 12 + m) = 0
        · rw [if_pos c, if_pos c]; exact Or.inl rfl
        · rw [if_neg c, if_neg c]
          exact Or.inr ⟨by omega, za_2 _ _ _ _⟩
      · omega
    · rw [pk_un (f := fU) (show (p * 8 + y) * 12 + m ≠ (p * 8 + y) * 12 + h by omega)]
      rcases ih (by omega) with e | ⟨g, e⟩
      · rw [e]; exact Or.inl rfl
      · rw [e]; exact Or.inr ⟨by omega, za_3 _ _ _ _⟩
/-- the sum of obligations -/
def z_ob (fY : Nat → Int32) (y h : Nat) : Nat → Int32
  | 0 => 0
  | p + 1 => z_ob fY y h p + fY ((p * 8 + y) * 12 + h)
theorem z_sum5 {a b c d e : Int32} {x0 x1 x2 x3 x4 : Nat} (h0 : a = nI x0) (h1 : b = nI x1) (h2 : c = nI x2) (h3 : d = nI x3) (h4 : e = nI x4) : 0 + a + b + c + d + e = nI (x0 + x1 + x2 + x3 + x4) := by
  subst h0; subst h1; subst h2; subst h3; subst h4
  rw [Int32.zero_add, nI_add, nI_add, nI_add, nI_add]
theorem z_ob5 {fB fY : Nat → Int32} (hO : z_OB fB fY) (hB : ∀ c, fB c = nI (z_n (fB c))) {y h : Nat} (hy : y < 8) (hh : h < 12) : z_ob fY y h 5 = fB y := by
  obtain ⟨h1, h2⟩ := hO y h hy hh
  rw [hB y, ← h2]
  exact z_sum5 (h1 0 (by omega)) (h1 1 (by omega)) (h1 2 (by omega)) (h1 3 (by omega)) (h1 4 (by omega))
/-- trades -/
theorem z_tdv (f : Nat → Int32) {p q : Nat} (a : Int32) (k : Nat) (hd : p + k ≤ q ∨ q + k ≤ p) (c : Nat) : z_td f p q a k c = if p ≤ c ∧ c < p + k then f c - a else if q ≤ c ∧ c < q + k then f c + a else f c := by
  induction k generalizing c with
  | zero => rw [if_neg (by omega), if_neg (by omega)]; rfl
  | succ k ih =>
    have ih := ih (by omega)
    rw [z_td]
    by_cases c1 : c = q + k
    · subst c1
      rw [pk_us, pk_un (by omega), ih, if_neg (by omega), if_neg (by omega), if_neg (by omega), if_pos (by omega)]
    · rw [pk_un c1]
      by_cases c2 : c = p + k
      · subst c2
        rw [pk_us, ih, if_neg (by omega), if_neg (by omega), if_pos (by omega)]
      · rw [pk_un c2, ih]
        by_cases c3 : p ≤ c ∧ c < p + k
        · rw [if_pos c3, if_pos (by omega)]
        · rw [if_neg c3, if_neg (show ¬ (p ≤ c ∧ c < p + (k + 1)) by omega)]
          by_cases c4 : q ≤ c ∧ c < q + k
          · rw [if_pos c4, if_pos (by omega)]
          · rw [if_neg c4, if_neg (by omega)]
theorem z_OBtd {fB fY : Nat → Int32} (hO : z_OB fB fY) {p q y f m a : Nat} (hp : p < 5) (hq : q < 5) (hpq : p ≠ q) (hy : y < 8) (hf : f + m ≤ 12) (hB : ∀ c, fB c = nI (z_n (fB c)) ∧ z_n (fB c) ≤ 100000) (ha : a ≤ 1000)
    (hle : ∀ i, i < m → a ≤ z_n (fY ((p * 8 + y) * 12 + f + i))) : z_OB fB (z_td fY ((p * 8 + y) * 12 + f) ((q * 8 + y) * 12 + f) (nI a) m) := by
  intro y' h hy' hh
  obtain ⟨h1, h2⟩ := hO y' h hy' hh
  have hb : ∀ r, r < 5 → z_n (fY ((r * 8 + y') * 12 + h)) ≤ z_n (fB y') := fun r hr => by
    rw [← h2]; exact z_s5le (g := fun p => z_n (fY ((p * 8 + y') * 12 + h))) hr
  have b2 := (hB y').2
  have hcell : ∀ r, r < 5 → z_td fY ((p * 8 + y) * 12 + f) ((q * 8 + y) * 12 + f) (nI a) m ((r * 8 + y') * 12 + h) = if y' = y ∧ f ≤ h ∧ h < f + m then (if r = p then nI (z_n (fY ((r * 8 + y') * 12 + h)) - a) else if r = q then nI (z_n (fY ((r * 8 + y') * 12 + h)) + a) else fY ((r * 8 + y') * 12 + h)) else fY ((r * 8 + y') * 12 + h) := by
    intro r hr
    rw [z_tdv fY (nI a) m (by omega)]
    by_cases c : y' = y ∧ f ≤ h ∧ h < f + m
    · rw [if_pos c]
      obtain ⟨rfl, c2, c3⟩ := c
      by_cases c4 : r = p
      · subst c4
        rw [if_pos (show (r * 8 + y') * 12 + f ≤ (r * 8 + y') * 12 + h ∧ (r * 8 + y') * 12 + h < (r * 8 + y') * 12 + f + m by omega), if_pos rfl]
        have h9 := hle (h - f) (by omega)
        rw [show (r * 8 + y') * 12 + f + (h - f) = (r * 8 + y') * 12 + h by omega] at h9
        exact (congrArg (· - nI a) (h1 r hr)).trans (pk_sub h9)
      · rw [if_neg c4, if_neg (by omega)]
        by_cases c5 : r = q
        · subst c5
          rw [if_pos (show (r * 8 + y') * 12 + f ≤ (r * 8 + y') * 12 + h ∧ (r * 8 + y') * 12 + h < (r * 8 + y') * 12 + f + m by omega), if_pos rfl]
          exact z_plus (h1 r hr)
        · rw [if_neg c5, if_neg (by omega)]
    · rw [if_neg c, if_neg (by omega), if_neg (by omega)]
  by_cases c : y' = y ∧ f ≤ h ∧ h < f + m
  · refine ⟨fun r hr => ?_, ?_⟩
    · have := hb r hr
      rw [hcell r hr, if_pos c]
      by_cases c4 : r = p
      · rw [if_pos c4, z_nI (by omega)]
      · rw [if_neg c4]
        by_cases c5 : r = q
        · rw [if_pos c5, z_nI (by omega)]
        · rw [if_neg c5]; exact h1 r hr
    · rw [← h2]
      obtain ⟨rfl, c2, c3⟩ := c
      have h9 := hle (h - f) (by omega)
      rw [show (p * 8 + y') * 12 + f + (h - f) = (p * 8 + y') * 12 + h by omega] at h9
      refine z_s5tr (g := fun r => z_n (fY ((r * 8 + y') * 12 + h))) hp hq hpq h9 (fun r hr => ?_)
      have := hb r hr
      show z_n (z_td fY ((p * 8 + y') * 12 + f) ((q * 8 + y') * 12 + f) (nI a) m ((r * 8 + y') * 12 + h)) = _
      rw [hcell r hr, if_pos ⟨rfl, c2, c3⟩]
      by_cases c4 : r = p
      · rw [if_pos c4, if_pos c4, z_nI (by omega)]
      · rw [if_neg c4, if_neg c4]
        by_cases c5 : r = q
        · rw [if_pos c5, if_pos c5, z_nI (by omega)]
        · rw [if_neg c5, if_neg c5]
  · refine ⟨fun r hr => ?_, ?_⟩
    · rw [hcell r hr, if_neg c]; exact h1 r hr
    · rw [← h2]
      refine z_s5eq (fun r hr => ?_)
      show z_n (z_td fY ((p * 8 + y) * 12 + f) ((q * 8 + y) * 12 + f) (nI a) m ((r * 8 + y') * 12 + h)) = _
      rw [hcell r hr, if_neg c]
/-- an accepted trade: what it answers, what it leaves -/
theorem z_Ktr {k : Nat} {ra ca : Int32} {fW : Nat → Int32} {n : Nat} {fP fA fT fO fE fB fN fY fU : Nat → Int32} (hK : z_K k ra ca fW n fP fA fT fO fE fB fN fY fU) (hk : k ≤ 50) {p q y f g a : Nat} (hp : p < 5) (hq : q < 5) (hpq : p ≠ q) (hy : y < 8) (hfg : f ≤ g) (hg : g < 12) (ha1 : 1 ≤ a) (ha : a ≤ 1000)
    (hle : nI a ≤ z_ls fY ((p * 8 + y) * 12 + f) (g - f)) :
    z_K (k + 1) ra ca fW n fP fA fT fO fE fB fN (z_td fY ((p * 8 + y) * 12 + f) ((q * 8 + y) * 12 + f) (nI a) (g - f + 1)) fU ∧
    ¬ z_ls fY ((p * 8 + y) * 12 + f) (g - f) - nI a < 0 ∧ ¬ fY ((p * 8 + y) * 12 + f) - nI a < z_ls fY ((p * 8 + y) * 12 + f) (g - f) - nI a ∧
    z_td fY ((p * 8 + y) * 12 + f) ((q * 8 + y) * 12 + f) (nI a) (g - f + 1) ((p * 8 + y) * 12 + f) = fY ((p * 8 + y) * 12 + f) - nI a := by
  have hKm := z_Kmono hK
  obtain ⟨h1, h2, h3, h4, h5, h6, h7, h8⟩ := hKm
  have hc : ∀ i, i ≤ g - f → a ≤ z_n (fY ((p * 8 + y) * 12 + f + i)) := by
    intro i hi
    have e := (h7 y (f + i) hy (by omega)).1 p hp
    rw [show (p * 8 + y) * 12 + (f + i) = (p * 8 + y) * 12 + f + i by omega] at e
    have l1 := z_lsle fY ((p * 8 + y) * 12 + f) (g - f) i hi
    rw [z_le, nI_toInt (by omega)] at hle
    have l3 : (z_n (fY ((p * 8 + y) * 12 + f + i)) : Int) = (fY ((p * 8 + y) * 12 + f + i)).toInt := by
      unfold z_n Int32.toNatClampNeg
      omega
    omega
  have hat : (nI a).toInt = (a : Int) := nI_toInt (by omega)
  have hle' : (a : Int) ≤ (z_ls fY ((p * 8 + y) * 12 + f) (g - f)).toInt := by rw [z_le, hat] at hle; exact hle
  have l0 := z_lsle fY ((p * 8 + y) * 12 + f) (g - f) 0 (Nat.zero_le _)
  rw [Nat.add_zero] at l0
  refine ⟨⟨h1, h2, h3, h4, h5, h6, z_OBtd h7 hp hq hpq hy (by omega) (fun c => ⟨(h5 c).1, by have := (h5 c).2; omega⟩) ha (fun i hi => hc i (by omega)), h8⟩, ?_, ?_, ?_⟩
  · rw [z_lt, z_suba (by omega) (by omega), hat, show (0 : Int32).toInt = 0 by decide]; omega
  · rw [z_lt, z_suba (by omega) (by omega), z_suba (by omega) (by omega)]; omega
  · rw [z_tdv fY (nI a) (g - f + 1) (by omega), if_pos (by omega)]
/-- penalties -/
theorem z_pen {k : Nat} {ra ca : Int32} {fW : Nat → Int32} {n : Nat} {fP fA fT fO fE fB fN fY fU : Nat → Int32} (hK : z_K k ra ca fW n fP fA fT fO fE fB fN fY fU) (hk : k ≤ 60) (lk : Int32) (c : Nat) :
    ¬ z_pc lk ra (fN c) ca < 0 ∧ (¬ 0 < lk → z_pc lk ra (fN c) ca = 0) ∧ ¬ 2 * (fN c).toInt64 < (z_pc lk ra (fN c) ca).toInt64 := by
  obtain ⟨-, -, -, -, -, h6, -, -, ⟨v, hv, rfl⟩, h10⟩ := hK
  obtain ⟨e, hx⟩ := h6 c
  generalize hxe : z_n (fN c) = x at e hx
  rw [e]
  obtain ⟨r, hr, rfl⟩ := nI_of h10
  have hxv : x * v ≤ 496800 * 200 := Nat.mul_le_mul (by omega) hv
  have hxv2 : x * v / 100 ≤ 2 * x := by
    have : x * v ≤ x * 200 := Nat.mul_le_mul_left x hv
    omega
  have hpm : z_pm (nI x) (nI v) = lN (x * v / 100) := by
    unfold z_pm
    rw [nI_l (by omega), nI_l (by omega), lN_mul, show (100 : Int64) = lN 100 from rfl, pk_lDiv (by omega) (by omega) (by omega)]
  obtain ⟨hc, hc2⟩ := z_pcpp (lk := lk) (rate := nI r) (v := x * v / 100) (by omega) hpm
  have hpd : ¬ 0 < lk → (z_pd lk (nI r)).toInt ≤ 0 := by
    intro h
    rw [z_lt, show (0 : Int32).toInt = 0 by decide] at h
    have hl := Int32.le_toInt lk
    unfold z_pd
    obtain ⟨u, hu⟩ : ∃ u : Nat, lk.toInt = -(u : Int) := ⟨(-lk.toInt).toNat, by omega⟩
    have hur : u * r ≤ 2 ^ 31 * 2 ^ 31 := Nat.mul_le_mul (by omega) (by omega)
    have he : lk.toInt64.toInt * (nI r).toInt64.toInt = -((u * r : Nat) : Int) := by
      rw [Int32.toInt_toInt64, Int32.toInt_toInt64, hu, nI_toInt hr, Int.neg_mul, Int.natCast_mul]
    rw [Int64.toInt_mul, he, Int.bmod_eq_of_le_mul_two (by omega) (by omega)]
    omega
  have h0 : (0 : Int64).toInt = 0 := by decide
  have hvi : (lN (x * v / 100)).toInt = ((x * v / 100 : Nat) : Int) := lN_toInt (by omega)
  have key : ∃ w : Nat, w ≤ x * v / 100 ∧ z_pc lk (nI r) (nI x) (nI v) = nI w ∧ (¬ 0 < lk → w = 0) := by
    rw [hc]
    unfold z_pp
    rw [hpm]
    by_cases c1 : z_pd lk (nI r) < 0
    · rw [if_pos c1]; exact ⟨0, Nat.zero_le _, lN_i 0, fun _ => rfl⟩
    · rw [if_neg c1]
      by_cases c4 : z_pd lk (nI r) < lN (x * v / 100)
      · rw [if_pos c4]
        obtain ⟨w, hw, e2⟩ := pk_lOf c1
        rw [Int64.lt_iff_toInt_lt, e2, pk_lT hw, hvi] at c4
        refine ⟨w, by omega, by rw [e2]; exact lN_i w, fun hl => ?_⟩
        have := hpd hl
        rw [e2, pk_lT hw] at this
        omega
      · rw [if_neg c4]
        refine ⟨_, Nat.le_refl _, lN_i _, fun hl => ?_⟩
        have h9 := hpd hl
        rw [Int64.lt_iff_toInt_lt, h0] at c1
        rw [Int64.lt_iff_toInt_lt, hvi] at c4
        omega
  obtain ⟨w, hw, e3, hz⟩ := key
  rw [e3]
  refine ⟨z_nlt.mpr (nI_le (a := 0) (Nat.zero_le _) (by omega)), fun hl => by rw [hz hl]; rfl, ?_⟩
  rw [nI_l (by omega), nI_l (by omega), show (2 : Int64) = lN 2 from rfl, lN_mul, pk_lLT (by omega) (by omega)]
  omega
