/-! numbers -/
theorem n_z {k : Nat} (h : k < 2147483648) : (nI k = 0) = (k = 0) := by
  apply propext
  rw [← nI_0]
  exact nI_eq (by omega) (by omega)
theorem n_ltz {k : Nat} (h : k < 2147483648) : (nI k < 0) = False := eq_false (nI_pos (by omega))
theorem n_zlt {k : Nat} (h : k < 2147483648) : (0 < nI k) = (0 < k) := by
  apply propext
  rw [← nI_0]
  exact nI_ltI (by omega) (by omega)
theorem n_lt {a b : Nat} (ha : a < 2147483648) (hb : b < 2147483648) : (nI a < nI b) = (a < b) := propext (nI_ltI (by omega) (by omega))
theorem n_eq {a b : Nat} (ha : a < 2147483648) (hb : b < 2147483648) : (nI a = nI b) = (a = b) := propext (nI_eq (by omega) (by omega))
theorem n_cl {n : Nat} (h : n < 2147483648) : (nI n).toNatClampNeg = n := nI_clamp (by omega)
theorem n_in {i n : Nat} (h : i < 2147483648) : a_in (nI i) n = decide (i < n) := by
  unfold a_in
  rw [n_cl h, decide_eq_false (nI_pos (by omega))]
  rfl
theorem n_sub {a b : Nat} (h : b ≤ a) : nI a - nI b = nI (a - b) := pk_sub h
theorem n_div {a d : Nat} (ha : a < 2147483648) (h0 : 0 < d) (hd : d < 2147483648) : nI a / nI d = nI (a / d) := pk_div (by omega) h0 (by omega)
theorem n_rem {a d : Nat} (ha : a < 2147483648) (h0 : 0 < d) (hd : d < 2147483648) : nI a - nI a / nI d * nI d = nI (a % d) := pk_rem (by omega) h0 (by omega)
theorem n_m1 : (-1 : Int32) < 0 := by decide
theorem n_nm1 {k : Nat} (h : k < 2147483648) : (nI k = -1) = False := by
  apply eq_false
  intro e
  have := nI_pos (n := k) (by omega)
  rw [e] at this
  exact this (by decide)
theorem n_m1n {k : Nat} (h : k < 2147483648) : (-1 = nI k) = False := by
  apply eq_false
  intro e
  have := n_nm1 h
  rw [← e] at this
  simp at this
theorem n_1 {k : Nat} (h : k < 2147483648) : (nI k = 1) = (k = 1) := by
  rw [show (1 : Int32) = nI 1 by decide]
  exact n_eq h (by omega)
theorem nm_mod (a d : Nat) : a - a / d * d = a % d := by
  rw [Nat.mul_comm]
  exact (Nat.mod_eq_sub_mul_div).symm
theorem n_bsub {a d : Nat} : a / d * d ≤ a := Nat.div_mul_le_self a d
