/-! What holds behind k steps of the property's law; what its sums are. -/
theorem z_inN {u a b : Nat} (h1 : a ≤ u) (h2 : u ≤ b) (hb : b < 2 ^ 31) : z_in (nI u) (nI a) (nI b) = true := z_in_t (nI_le h1 (by omega)) (nI_le h2 hb)
theorem z_upn (f : Nat → Int32) {n j : Nat} (v : Int32) (h : j ≠ n) : upd f n v j = f j := by unfold upd; rw [if_neg h]
theorem z_plus {x : Int32} {v a : Nat} (h : x = nI v) : x + nI a = nI (v + a) := by rw [h, nI_add]
def z_s5 (g : Nat → Nat) : Nat := g 0 + g 1 + g 2 + g 3 + g 4
theorem z_s5up {g g' : Nat → Nat} {P a : Nat} (hP : P < 5) (h : ∀ p, p < 5 → g' p = if p = P then g p + a else g p) : z_s5 g' = z_s5 g + a := by
  unfold z_s5
  rw [h 0 (by omega), h 1 (by omega), h 2 (by omega), h 3 (by omega), h 4 (by omega)]
  rcases (show P = 0 ∨ P = 1 ∨ P = 2 ∨ P = 3 ∨ P = 4 by omega) with rfl | rfl | rfl | rfl | rfl <;> simp <;> omega
theorem z_s5eq {g g' : Nat → Nat} (h : ∀ p, p < 5 → g' p = g p) : z_s5 g' = z_s5 g := by
  unfold z_s5
  rw [h 0 (by omega), h 1 (by omega), h 2 (by omega), h 3 (by omega), h 4 (by omega)]
theorem z_s5le {g : Nat → Nat} {p : Nat} (hp : p < 5) : g p ≤ z_s5 g := by
  unfold z_s5
  rcases (show p = 0 ∨ p = 1 ∨ p = 2 ∨ p = 3 ∨ p = 4 by omega) with rfl | rfl | rfl | rfl | rfl <;> omega
theorem z_s5tr {g g' : Nat → Nat} {P R a : Nat} (hP : P < 5) (hR : R < 5) (hne : P ≠ R) (ha : a ≤ g P) (h : ∀ p, p < 5 → g' p = if p = P then g p - a else if p = R then g p + a else g p) : z_s5 g' = z_s5 g := by
  unfold z_s5
  rw [h 0 (by omega), h 1 (by omega), h 2 (by omega), h 3 (by omega), h 4 (by omega)]
  rcases (show P = 0 ∨ P = 1 ∨ P = 2 ∨ P = 3 ∨ P = 4 by omega) with rfl | rfl | rfl | rfl | rfl <;> rcases (show R = 0 ∨ R = 1 ∨ R = 2 ∨ R = 3 ∨ R = 4 by omega) with rfl | rfl | rfl | rfl | rfl <;> first | omega | (simp; omega)
/-- obligations of all parties are what was bought -/
def z_OB (fB fY : Nat → Int32) : Prop := ∀ y h, y < 8 → h < 12 → (∀ p, p < 5 → fY ((p * 8 + y) * 12 + h) = nI (z_n (fY ((p * 8 + y) * 12 + h)))) ∧ z_s5 (fun p => z_n (fY ((p * 8 + y) * 12 + h))) = z_n (fB y)
theorem z_OBtake {fB fY : Nat → Int32} (hO : z_OB fB fY) {P y e a : Nat} (hP : P < 5) (he : e ≤ 8) (hB : ∀ c, fB c = nI (z_n (fB c)) ∧ z_n (fB c) ≤ 100000) (ha : a ≤ 120) : z_OB (z_ad fB y e (nI a)) (z_ad fY ((P * 8 + y) * 12) ((P * 8 + e) * 12) (nI a)) := by
  intro y' h hy hh
  obtain ⟨h1, h2⟩ := hO y' h hy hh
  have hle : ∀ p, p < 5 → z_n (fY ((p * 8 + y') * 12 + h)) ≤ z_n (fB y') := fun p hp => by
    rw [← h2]; exact z_s5le (g := fun p => z_n (fY ((p * 8 + y') * 12 + h))) hp
  obtain ⟨b1, b2⟩ := hB y'
  have hcell : ∀ p, p < 5 → z_ad fY ((P * 8 + y) * 12) ((P * 8 + e) * 12) (nI a) ((p * 8 + y') * 12 + h) = if p = P ∧ y ≤ y' ∧ y' < e then nI (z_n (fY ((p * 8 + y') * 12 + h)) + a) else fY ((p * 8 + y') * 12 + h) := by
    intro p hp
    unfold z_ad
    by_cases q : p = P ∧ y ≤ y' ∧ y' < e
    · rw [if_pos q, if_pos (by omega)]
      exact z_plus (h1 p hp)
    · rw [if_neg q, if_neg (by omega)]
  refine ⟨fun p hp => ?_, ?_⟩
  · have := hle p hp
    rw [hcell p hp]
    by_cases q : p = P ∧ y ≤ y' ∧ y' < e
    · rw [if_pos q, z_nI (by omega)]
    · rw [if_neg q]; exact h1 p hp
  · by_cases q : y ≤ y' ∧ y' < e
    · have hb : z_ad fB y e (nI a) y' = nI (z_n (fB y') + a) := by unfold z_ad; rw [if_pos q]; exact z_plus b1
      rw [hb, z_nI (by omega), ← h2]
      refine z_s5up hP (fun p hp => ?_)
      have := hle p hp
      show z_n (z_ad fY ((P * 8 + y) * 12) ((P * 8 + e) * 12) (nI a) ((p * 8 + y') * 12 + h)) = _
      rw [hcell p hp]
      by_cases c : p = P
      · rw [if_pos ⟨c, q⟩, if_pos c, z_nI (by omega)]
      · rw [if_neg (fun x => c x.1), if_neg c]
    · have hb : z_ad fB y e (nI a) y' = fB y' := by unfold z_ad; rw [if_neg q]
      rw [hb, ← h2]
      refine z_s5eq (fun p hp => ?_)
      show z_n (z_ad fY ((P * 8 + y) * 12) ((P * 8 + e) * 12) (nI a) ((p * 8 + y') * 12 + h)) = _
      rw [hcell p hp, if_neg (fun x => q x.2)]
theorem z_adb {f : Nat → Int32} {lo hi a M : Nat} (hM : M < 2 ^ 31) (hf : ∀ c, f c = nI (z_n (f c)) ∧ z_n (f c) + a ≤ M) (c : Nat) : z_ad f lo hi (nI a) c = nI (z_n (z_ad f lo hi (nI a) c)) ∧ z_n (z_ad f lo hi (nI a) c) ≤ z_n (f c) + a := by
  obtain ⟨h1, h2⟩ := hf c
  unfold z_ad
  by_cases q : lo ≤ c ∧ c < hi
  · rw [if_pos q, z_plus h1, z_nI (by omega)]
    exact ⟨rfl, Nat.le_refl _⟩
  · rw [if_neg q]; exact ⟨h1, by omega⟩
section RUN2
variable {A T P : Nat → Int32} {o : Nat → Nat} {y n M K b : Nat} {pr : Int32} {B N Y : Nat → Int32}
theorem z_run0 (hA : ∀ j, A j = nI (z_n (A j)) ∧ z_n (A j) ≤ 120) (hP : ∀ j, z_n (P j) < 5) (hb : b ≤ 69) (hpr : pr = nI b) (hM : M ≤ 90000) (hK : K ≤ 6000000)
    (hB : ∀ c, B c = nI (z_n (B c)) ∧ z_n (B c) + 120 * n ≤ M) (hN : ∀ c, N c = nI (z_n (N c)) ∧ z_n (N c) + 8280 * n ≤ K) (hO : z_OB B Y) (k : Nat) (hk : k ≤ n) :
    (∀ c, z_rB B A T o y k c = nI (z_n (z_rB B A T o y k c)) ∧ z_n (z_rB B A T o y k c) + 120 * (n - k) ≤ M) ∧
    (∀ c, z_rN N A P T o y pr k c = nI (z_n (z_rN N A P T o y pr k c)) ∧ z_n (z_rN N A P T o y pr k c) + 8280 * (n - k) ≤ K) ∧ z_OB (z_rB B A T o y k) (z_rY Y A P T o y k) := by
  induction k with
  | zero => exact ⟨hB, hN, hO⟩
  | succ k ih =>
    obtain ⟨i1, i2, i3⟩ := ih (by omega)
    obtain ⟨a1, a2⟩ := hA (o k)
    have ap : A (o k) * pr = nI (z_n (A (o k)) * b) := by rw [hpr, ← pk_mul, ← a1]
    have hab : z_n (A (o k)) * b ≤ 120 * 69 := Nat.mul_le_mul a2 hb
    have e1 : z_rB B A T o y (k + 1) = z_ad (z_rB B A T o y k) y (z_e T y (o k)) (nI (z_n (A (o k)))) := by rw [z_rB, ← a1]
    have e2 : z_rN N A P T o y pr (k + 1) = z_ad (z_rN N A P T o y pr k) (z_n (P (o k)) * 8 + y) (z_n (P (o k)) * 8 + z_e T y (o k)) (nI (z_n (A (o k)) * b)) := by rw [z_rN, ap]
    have e3 : z_rY Y A P T o y (k + 1) = z_ad (z_rY Y A P T o y k) ((z_n (P (o k)) * 8 + y) * 12) ((z_n (P (o k)) * 8 + z_e T y (o k)) * 12) (nI (z_n (A (o k)))) := by rw [z_rY, ← a1]
    rw [e1, e2, e3]
    refine ⟨fun c => ?_, fun c => ?_, ?_⟩
    · have h := z_adb (f := z_rB B A T o y k) (lo := y) (hi := z_e T y (o k)) (a := z_n (A (o k))) (M := M) (by omega) (fun c => ⟨(i1 c).1, by have := (i1 c).2; omega⟩) c
      have h2 := (i1 c).2
      exact ⟨h.1, by have := h.2; omega⟩
    · have h := z_adb (f := z_rN N A P T o y pr k) (lo := z_n (P (o k)) * 8 + y) (hi := z_n (P (o k)) * 8 + z_e T y (o k)) (a := z_n (A (o k)) * b) (M := K) (by omega) (fun c => ⟨(i2 c).1, by have := (i2 c).2; omega⟩) c
      have h2 := (i2 c).2
      exact ⟨h.1, by have := h.2; omega⟩
    · exact z_OBtake i3 (hP _) (by unfold z_e; omega) (fun c => ⟨(i1 c).1, by have := (i1 c).2; omega⟩) a2
end RUN2
/-- what holds behind k steps -/
def z_K (k : Nat) (ra ca : Int32) (fW : Nat → Int32) (n : Nat) (fP fA fT fO fE fB fN fY fU : Nat → Int32) : Prop :=
  fW 0 = 0 ∧
  (n ≤ 12 ∧ ∀ j, j < n → fO j = nI (z_n (fO j)) ∧ z_n (fO j) < n ∧ z_rk fE (z_n (fO j)) n = j) ∧
  (∀ j, (fP j = nI (z_n (fP j)) ∧ z_n (fP j) < 5) ∧ (fT j = nI (z_n (fT j)) ∧ z_n (fT j) ≤ 4) ∧ (fA j = nI (z_n (fA j)) ∧ z_n (fA j) ≤ 120) ∧ fE j = nI (z_n (fE j)) ∧ z_n (fE j) ≤ 69) ∧
  (∀ j, j < n → 1 ≤ z_n (fT j)) ∧
  (∀ c, fB c = nI (z_n (fB c)) ∧ z_n (fB c) + 120 * n ≤ 120 * k) ∧
  (∀ c, fN c = nI (z_n (fN c)) ∧ z_n (fN c) + 8280 * n ≤ 8280 * k) ∧
  z_OB fB fY ∧ (∀ c, ¬ fU c < 0) ∧ (∃ v, v ≤ 200 ∧ ca = nI v) ∧ ¬ ra < 0
section ZK
variable {k : Nat} {ra ca : Int32} {fW : Nat → Int32} {n : Nat} {fP fA fT fO fE fB fN fY fU : Nat → Int32}
theorem z_Kmono (h : z_K k ra ca fW n fP fA fT fO fE fB fN fY fU) : z_K (k + 1) ra ca fW n fP fA fT fO fE fB fN fY fU := by
  obtain ⟨h1, h2, h3, h4, h5, h6, h7⟩ := h
  exact ⟨h1, h2, h3, h4, fun c => ⟨(h5 c).1, by have := (h5 c).2; omega⟩, fun c => ⟨(h6 c).1, by have := (h6 c).2; omega⟩, h7⟩
theorem z_Kall (h : z_K k ra ca fW n fP fA fT fO fE fB fN fY fU) :
    fW 0 = 0 ∧ n ≤ 12 ∧ (∀ k, k < n → fO k = nI (z_n (fO k)) ∧ z_n (fO k) < 12) ∧ z_Or fE n (fun k => z_n (fO k)) ∧
    (∀ k, k < n → fP (z_n (fO k)) = nI (z_n (fP (z_n (fO k)))) ∧ z_n (fP (z_n (fO k))) < 5 ∧ fT (z_n (fO k)) = nI (z_n (fT (z_n (fO k)))) ∧ z_n (fT (z_n (fO k))) ≤ 4) ∧
    (∀ j, fA j = nI (z_n (fA j)) ∧ z_n (fA j) ≤ 120) ∧ (∀ j, fE j = nI (z_n (fE j)) ∧ z_n (fE j) ≤ 69) ∧ (∀ (fI : Nat → Int32) (i : Nat), i < n → ¬ z_kl fI fE n i = -1) ∧
    (∀ c, fB c = nI (z_n (fB c)) ∧ z_n (fB c) ≤ 120 * k) := by
  obtain ⟨h1, ⟨b1, b2⟩, h3, h4, h5, h6, h7, h8, h9, h10⟩ := h
  have hor : z_Or fE n (fun k => z_n (fO k)) := fun k hk => ⟨(b2 k hk).2.1, (b2 k hk).2.2⟩
  refine ⟨h1, b1, fun k hk => ⟨(b2 k hk).1, by have := (b2 k hk).2.1; omega⟩, hor, fun k hk => ?_, fun j => (h3 j).2.2.1, fun j => (h3 j).2.2.2, fun fI i hi => z_klne hor b1 i hi, fun c => ⟨(h5 c).1, by have := (h5 c).2; omega⟩⟩
  obtain ⟨⟨c1, c2⟩, ⟨c3, c4⟩, -⟩ := h3 (z_n (fO k))
  exact ⟨c1, c2, c3, c4⟩
theorem z_Kdem (h : z_K k ra ca fW n fP fA fT fO fE fB fN fY fU) (l2 u2 t2 : Int32) : z_K (k + 1) ra ca (z_wa l2 u2 t2 fW 1001) n fP fA fT fO fE fB fN fY fU := by
  obtain ⟨h1, h2⟩ := z_Kmono h
  exact ⟨by unfold z_wa; rw [if_pos (Or.inl rfl)]; exact h1, h2⟩
theorem z_Kpen2 (h : z_K k ra ca fW n fP fA fT fO fE fB fN fY fU) {r v : Nat} (hr : r ≤ 1000) (hv : v ≤ 200) : z_K (k + 1) (nI r) (nI v) fW n fP fA fT fO fE fB fN fY fU := by
  obtain ⟨h1, h2, h3, h4, h5, h6, h7, h8, h9, h10⟩ := z_Kmono h
  exact ⟨h1, h2, h3, h4, h5, h6, h7, h8, ⟨v, hv, rfl⟩, z_nlt.mpr (nI_le (a := 0) (Nat.zero_le _) (by omega))⟩
theorem z_Ktell (h : z_K k ra ca fW n fP fA fT fO fE fB fN fY fU) (c : Nat) {v : Nat} (hv : v ≤ 5000) : z_K (k + 1) ra ca fW n fP fA fT fO fE fB fN fY (upd fU c (nI v)) := by
  obtain ⟨h1, h2, h3, h4, h5, h6, h7, h8, h9⟩ := z_Kmono h
  refine ⟨h1, h2, h3, h4, h5, h6, h7, fun x => ?_, h9⟩
  unfold upd
  by_cases q : x = c
  · rw [if_pos q]; exact z_nlt.mpr (nI_le (a := 0) (Nat.zero_le _) (by omega))
  · rw [if_neg q]; exact h8 x
theorem z_Kpr (h : z_K k ra ca fW n fP fA fT fO fE fB fN fY fU) (t : Nat) : ∃ x, x ≤ 69 ∧ z_po fE (fun k => z_n (fO k)) t = nI x := by
  obtain ⟨-, -, h3, -⟩ := h
  cases t with
  | zero => exact ⟨0, by omega, rfl⟩
  | succ t => exact ⟨_, (h3 (z_n (fO t))).2.2.2.2, (h3 (z_n (fO t))).2.2.2.1⟩
theorem z_Krun (h : z_K k ra ca fW n fP fA fT fO fE fB fN fY fU) (hk : k ≤ 50) (y t : Nat) (ht : t ≤ n) {pr : Int32} (hpr : ∃ x, x ≤ 69 ∧ pr = nI x) :
    z_K (k + 1) ra ca fW 0 fP fA fT fO fE (z_rB fB fA fT (fun k => z_n (fO k)) y t) (z_rN fN fA fP fT (fun k => z_n (fO k)) y pr t) (z_rY fY fA fP fT (fun k => z_n (fO k)) y t) fU := by
  obtain ⟨h1, h2, h3, h4, h5, h6, h7, h8, h9⟩ := h
  obtain ⟨x, hx, he⟩ := hpr
  obtain ⟨r1, r2, r3⟩ := z_run0 (A := fA) (T := fT) (P := fP) (o := fun k => z_n (fO k)) (y := y) (n := n) (M := 120 * k) (K := 8280 * k) (b := x) (pr := pr) (fun j => (h3 j).2.2.1) (fun j => (h3 j).1.2) hx he (by omega) (by omega) h5 h6 h7 t ht
  refine ⟨h1, ⟨by omega, fun j hj => absurd hj (Nat.not_lt_zero j)⟩, h3, fun j hj => absurd hj (Nat.not_lt_zero j), fun c => ⟨(r1 c).1, by have := (r1 c).2; omega⟩, fun c => ⟨(r2 c).1, by have := (r2 c).2; omega⟩, r3, h8, h9⟩
theorem z_Koff (h : z_K k ra ca fW n fP fA fT fO fE fB fN fY fU) (hn : n < 12) {p0 : Int32} {a e t : Nat} (hp : z_in p0 0 4 = true) (ha : a ≤ 120) (he : e ≤ 69) (ht : 1 ≤ t) (ht4 : t ≤ 4) :
    z_K (k + 1) ra ca fW (n + 1) (upd fP n p0) (upd fA n (nI a)) (upd fT n (nI t)) (z_ord fO n (z_pl fE (nI e) (fun k => z_n (fO k)) n)) (upd fE n (nI e)) fB fN fY fU := by
  obtain ⟨-, -, -, hor, -⟩ := z_Kall h
  obtain ⟨h1, ⟨b1, b2⟩, h3, h4, h5, h6, h7, h8⟩ := h
  refine ⟨h1, ⟨by omega, z_ins hor hn (fun k hk => (b2 k hk).1)⟩, fun j => ?_, fun j hj => ?_, fun c => ⟨(h5 c).1, by have := (h5 c).2; omega⟩, fun c => ⟨(h6 c).1, by have := (h6 c).2; omega⟩, h7, h8⟩
  · by_cases q : j = n
    · subst q
      rw [pk_us, pk_us, pk_us, pk_us, z_nI (show t < 2 ^ 31 by omega), z_nI (show a < 2 ^ 31 by omega), z_nI (show e < 2 ^ 31 by omega)]
      exact ⟨z_P hp, ⟨rfl, ht4⟩, ⟨rfl, ha⟩, rfl, he⟩
    · rw [pk_un q, pk_un q, pk_un q, pk_un q]; exact h3 j
  · by_cases q : j = n
    · subst q
      rw [pk_us, z_nI (by omega)]; exact ht
    · rw [pk_un q]; exact h4 j (by omega)
end ZK
