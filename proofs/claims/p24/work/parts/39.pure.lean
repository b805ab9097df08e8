theorem z_lsn {f : Nat → Int32} {p k : Nat} {x : Int32} (h : ¬ f (p + k) < z_ls f p (k - 1)) (e : x = z_ls f p (k - 1)) : x = z_ls f p ((k + 1) - 1) := by
  cases k with
  | zero => exact e
  | succ k =>
    rw [e]
    show z_ls f p k = z_ls f p (k + 1)
    rw [z_ls, if_neg (show ¬ f (p + (k + 1)) < z_ls f p k from h)]
theorem z_lsy {f : Nat → Int32} {p k : Nat} (h : f (p + k) < z_ls f p (k - 1)) : f (p + k) = z_ls f p ((k + 1) - 1) := by
  cases k with
  | zero =>
    have h2 : f p < f p := h
    rw [z_lt] at h2
    exact absurd h2 (by omega)
  | succ k =>
    show f (p + (k + 1)) = z_ls f p (k + 1)
    rw [z_ls, if_pos (show f (p + (k + 1)) < z_ls f p k from h)]
theorem z_mele (E T : Nat → Int32) (n t y k : Nat) (hy : y ≤ 8) : y ≤ z_me E T n t y k ∧ z_me E T n t y k ≤ 8 := by
  unfold z_me z_e
  split <;> omega
theorem z_meT {E T : Nat → Int32} {n t y k a : Nat} (h : y + z_n (T k) ≤ a) (h2 : a ≤ z_me E T n t y k) : a = z_me E T n t y k := by
  unfold z_me z_e at *
  split at h2 <;> rename_i q
  · rw [if_pos q]; omega
  · rw [if_neg q]; omega
theorem z_meR {E T : Nat → Int32} {n t y k a : Nat} (h : ¬ z_rk E k n < t) (h1 : y ≤ a) (h2 : a ≤ z_me E T n t y k) : a = z_me E T n t y k := by
  unfold z_me at *
  rw [if_neg h] at *
  omega
theorem z_meL {E T : Nat → Int32} {n t y k a : Nat} (h : z_rk E k n < t) (h1 : a < 8) (h2 : a < y + z_n (T k)) : a < z_me E T n t y k := by
  unfold z_me z_e
  rw [if_pos h]; omega
