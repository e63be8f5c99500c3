/-! odds: fractions -/
theorem l_z {y : Nat} (h : y < 2 ^ 63) : (lN y = 0) = (y = 0) := by
  have : (0 : Int64) = lN 0 := by decide
  rw [this]
  exact propext (pk_lEQ h (by decide))
theorem l_z0 {y : Nat} (h : y < 2 ^ 63) : (lN y = lN 0) = (y = 0) := propext (pk_lEQ h (by decide))
theorem l_p0 {y : Nat} (h : y < 2 ^ 63) : (lN 0 < lN y) = (0 < y) := propext (pk_lLT (by decide) h)
theorem half {x y : Nat} (hy : 0 < y) (hr : 0 < x % y) {f : Nat} (h : y < 2 ^ (f + 1)) : y % (x % y) < 2 ^ f := by
  have h1 : x % y < y := Nat.mod_lt _ hy
  have h2 : y % (x % y) < x % y := Nat.mod_lt _ hr
  have h3 := Nat.div_add_mod y (x % y)
  have h4 : 1 ≤ y / (x % y) := Nat.div_pos (by omega) hr
  have h5 : x % y ≤ x % y * (y / (x % y)) := Nat.le_mul_of_pos_right _ h4
  have h6 : 2 ^ (f + 1) = 2 * 2 ^ f := by rw [Nat.pow_succ]; omega
  omega
theorem gcd_s (x y : Nat) : Nat.gcd x y = Nat.gcd y (x % y) := by
  rw [Nat.gcd_comm x y, Nat.gcd_rec y x, Nat.gcd_comm]
theorem c_cdF (a b : Int64) (σ : a_HP) (Q : Option Value → a_HP → Prop) : ∀ (f x y i : Nat) (x9 x10 : Option Value), x < 2 ^ 63 → y < 2 ^ f → y < 2 ^ 63 → i + 2 * f < 100 → Rn 1 9 [some (.long a), none, some (.long b), none, some (.long (lN x)), none, some (.long (lN y)), none, some (.int (nI i)), x9, x10] [] σ Q = Q (some (.long (lN (Nat.gcd x y)))) σ
  | 0, x, y, i, x9, x10, hx, hy, hy2, hi => by
    have : y = 0 := by simpa using hy
    subst this
    rw [r_1_9]
    have i1 : ¬ 100 ≤ i := by omega
    have i2 : i < 100 := by omega
    simp (disch := first | assumption | omega) only [r_1_0, r_1_1, r_1_3, r_1_4, r_1_6, r_1_7, r_1_11, r_1_13, r_1_16, r_1_18, r_1_19, r_1_20, r_1_23, r_1_25, r_1_27, r_1_28, r_1_30, r_1_32, r_1_34, r_1_36, r_1_38, r_1_41, r_1_44, r_1_46, g_rem, o_bm, o_cge, o_eq, o_go, o_inc, o_lcmp, o_ldl, o_pi, o_pl, o_rl, o_sti, o_stl, o_ldi, acR_nx, acR_re, acR_ca, acR_no, acR_if, Kc_i, Kc_n, a_lg, a_ls, a_kl, a_pk, a_sw, cw_n, cw_i, cw_l, cw_r, List.length_cons, List.length_nil, List.getElem?_cons_succ, List.getElem?_cons_zero, ↓reduceIte, decide_true, decide_false, Bool.false_eq_true, or_true, true_or, or_false, false_or, or_self, and_true, true_and, not_true_eq_false, not_false_eq_true, Nat.reduceEqDiff, Nat.reduceLT, Nat.reduceLeDiff, Nat.reduceAdd, Nat.reduceSub, Nat.reduceMul, Nat.reduceDiv, Nat.reduceMod, Nat.zero_add, Nat.add_zero, n_z, n_1, n_ltz, n_zlt, n_lt, n_eq, n_cl, n_in, nI_add, pk_mul, n_div, n_sub, nm_mod, i1, i2, lc_eq, l_z0, Nat.gcd_zero_right]
  | f + 1, x, y, i, x9, x10, hx, hy, hy2, hi => by
    rw [r_1_9]
    have i2 : i < 100 := by omega
    by_cases y0 : y = 0
    · subst y0
      simp (disch := first | assumption | omega) only [r_1_0, r_1_1, r_1_3, r_1_4, r_1_6, r_1_7, r_1_11, r_1_13, r_1_16, r_1_18, r_1_19, r_1_20, r_1_23, r_1_25, r_1_27, r_1_28, r_1_30, r_1_32, r_1_34, r_1_36, r_1_38, r_1_41, r_1_44, r_1_46, g_rem, o_bm, o_cge, o_eq, o_go, o_inc, o_lcmp, o_ldl, o_pi, o_pl, o_rl, o_sti, o_stl, o_ldi, acR_nx, acR_re, acR_ca, acR_no, acR_if, Kc_i, Kc_n, a_lg, a_ls, a_kl, a_pk, a_sw, cw_n, cw_i, cw_l, cw_r, List.length_cons, List.length_nil, List.getElem?_cons_succ, List.getElem?_cons_zero, ↓reduceIte, decide_true, decide_false, Bool.false_eq_true, or_true, true_or, or_false, false_or, or_self, and_true, true_and, not_true_eq_false, not_false_eq_true, Nat.reduceEqDiff, Nat.reduceLT, Nat.reduceLeDiff, Nat.reduceAdd, Nat.reduceSub, Nat.reduceMul, Nat.reduceDiv, Nat.reduceMod, Nat.zero_add, Nat.add_zero, n_z, n_1, n_ltz, n_zlt, n_lt, n_eq, n_cl, n_in, nI_add, pk_mul, n_div, n_sub, nm_mod, i2, lc_eq, l_z0, Nat.gcd_zero_right]
    · have yp : 0 < y := by omega
      have r1 : x % y < y := Nat.mod_lt _ yp
      have r2 : x % y < 2 ^ 63 := by omega
      simp (disch := first | assumption | omega) only [r_1_0, r_1_1, r_1_3, r_1_4, r_1_6, r_1_7, r_1_11, r_1_13, r_1_16, r_1_18, r_1_19, r_1_20, r_1_23, r_1_25, r_1_27, r_1_28, r_1_30, r_1_32, r_1_34, r_1_36, r_1_38, r_1_41, r_1_44, r_1_46, g_rem, o_bm, o_cge, o_eq, o_go, o_inc, o_lcmp, o_ldl, o_pi, o_pl, o_rl, o_sti, o_stl, o_ldi, acR_nx, acR_re, acR_ca, acR_no, acR_if, Kc_i, Kc_n, a_lg, a_ls, a_kl, a_pk, a_sw, cw_n, cw_i, cw_l, cw_r, List.length_cons, List.length_nil, List.getElem?_cons_succ, List.getElem?_cons_zero, ↓reduceIte, decide_true, decide_false, Bool.false_eq_true, or_true, true_or, or_false, false_or, or_self, and_true, true_and, not_true_eq_false, not_false_eq_true, Nat.reduceEqDiff, Nat.reduceLT, Nat.reduceLeDiff, Nat.reduceAdd, Nat.reduceSub, Nat.reduceMul, Nat.reduceDiv, Nat.reduceMod, Nat.zero_add, Nat.add_zero, n_z, n_1, n_ltz, n_zlt, n_lt, n_eq, n_cl, n_in, nI_add, pk_mul, n_div, n_sub, nm_mod, i2, lc_eq, l_z0, l_z, y0, pk_lRem hx yp hy2]
      rw [gcd_s x y]
      rw [r_1_9]
      have i3 : i + 1 < 100 := by omega
      by_cases r0 : x % y = 0
      · rw [r0]
        simp (disch := first | assumption | omega) only [r_1_0, r_1_1, r_1_3, r_1_4, r_1_6, r_1_7, r_1_11, r_1_13, r_1_16, r_1_18, r_1_19, r_1_20, r_1_23, r_1_25, r_1_27, r_1_28, r_1_30, r_1_32, r_1_34, r_1_36, r_1_38, r_1_41, r_1_44, r_1_46, g_rem, o_bm, o_cge, o_eq, o_go, o_inc, o_lcmp, o_ldl, o_pi, o_pl, o_rl, o_sti, o_stl, o_ldi, acR_nx, acR_re, acR_ca, acR_no, acR_if, Kc_i, Kc_n, a_lg, a_ls, a_kl, a_pk, a_sw, cw_n, cw_i, cw_l, cw_r, List.length_cons, List.length_nil, List.getElem?_cons_succ, List.getElem?_cons_zero, ↓reduceIte, decide_true, decide_false, Bool.false_eq_true, or_true, true_or, or_false, false_or, or_self, and_true, true_and, not_true_eq_false, not_false_eq_true, Nat.reduceEqDiff, Nat.reduceLT, Nat.reduceLeDiff, Nat.reduceAdd, Nat.reduceSub, Nat.reduceMul, Nat.reduceDiv, Nat.reduceMod, Nat.zero_add, Nat.add_zero, n_z, n_1, n_ltz, n_zlt, n_lt, n_eq, n_cl, n_in, nI_add, pk_mul, n_div, n_sub, nm_mod, i3, lc_eq, l_z0, Nat.gcd_zero_right]
      · have rp : 0 < x % y := by omega
        have s1 : y % (x % y) < x % y := Nat.mod_lt _ rp
        simp (disch := first | assumption | omega) only [r_1_0, r_1_1, r_1_3, r_1_4, r_1_6, r_1_7, r_1_11, r_1_13, r_1_16, r_1_18, r_1_19, r_1_20, r_1_23, r_1_25, r_1_27, r_1_28, r_1_30, r_1_32, r_1_34, r_1_36, r_1_38, r_1_41, r_1_44, r_1_46, g_rem, o_bm, o_cge, o_eq, o_go, o_inc, o_lcmp, o_ldl, o_pi, o_pl, o_rl, o_sti, o_stl, o_ldi, acR_nx, acR_re, acR_ca, acR_no, acR_if, Kc_i, Kc_n, a_lg, a_ls, a_kl, a_pk, a_sw, cw_n, cw_i, cw_l, cw_r, List.length_cons, List.length_nil, List.getElem?_cons_succ, List.getElem?_cons_zero, ↓reduceIte, decide_true, decide_false, Bool.false_eq_true, or_true, true_or, or_false, false_or, or_self, and_true, true_and, not_true_eq_false, not_false_eq_true, Nat.reduceEqDiff, Nat.reduceLT, Nat.reduceLeDiff, Nat.reduceAdd, Nat.reduceSub, Nat.reduceMul, Nat.reduceDiv, Nat.reduceMod, Nat.zero_add, Nat.add_zero, n_z, n_1, n_ltz, n_zlt, n_lt, n_eq, n_cl, n_in, nI_add, pk_mul, n_div, n_sub, nm_mod, i3, lc_eq, l_z0, l_z, r0, pk_lRem hy2 rp r2]
        rw [c_cdF a b σ Q f (x % y) (y % (x % y)) (i + 1 + 1) _ _ r2 (half yp rp hy) (by omega) (by omega), ← gcd_s]
theorem c_become {x y : Nat} (hx : x < 2 ^ 63) (hy : y < 2 ^ 40) (hy0 : 0 < y) (σ : a_HP) (Q : Option Value → a_HP → Prop) : Cl 0 [.ref 16, .long (lN x), .long (lN y)] σ Q = Q none (a_wl (a_wl σ 16 0 (lN (x / Nat.gcd x y))) 16 1 (lN (y / Nat.gcd x y))) := by
  have y63 : y < 2 ^ 63 := by omega
  have g0 : 0 < Nat.gcd x y := Nat.gcd_pos_of_pos_right _ hy0
  have g1 : Nat.gcd x y ≤ y := Nat.gcd_le_right _ hy0
  have g2 : Nat.gcd x y < 2 ^ 63 := by omega
  have g3 : ¬ Nat.gcd x y = 0 := by omega
  have cd : ∀ (σ : a_HP) Q, Cl 1 [.long (lN x), .long (lN y)] σ Q = Q (some (.long (lN (Nat.gcd x y)))) σ := by
    intro σ Q
    simp (disch := first | assumption | omega) only [cl_1, r_1_0, r_1_1, r_1_3, r_1_4, r_1_6, r_1_7, r_1_11, r_1_13, r_1_16, r_1_18, r_1_19, r_1_20, r_1_23, r_1_25, r_1_27, r_1_28, r_1_30, r_1_32, r_1_34, r_1_36, r_1_38, r_1_41, r_1_44, r_1_46, g_rem, o_bm, o_cge, o_eq, o_go, o_inc, o_lcmp, o_ldl, o_pi, o_pl, o_rl, o_sti, o_stl, acR_nx, acR_re, acR_ca, acR_no, acR_if, Kc_i, Kc_n, a_lg, a_ls, a_kl, a_pk, a_sw, cw_n, cw_i, cw_l, cw_r, List.length_cons, List.length_nil, List.getElem?_cons_succ, List.getElem?_cons_zero, ↓reduceIte, decide_true, decide_false, Bool.false_eq_true, or_true, true_or, or_false, false_or, or_self, and_true, true_and, not_true_eq_false, not_false_eq_true, Nat.reduceEqDiff, Nat.reduceLT, Nat.reduceLeDiff, Nat.reduceAdd, Nat.reduceSub, Nat.reduceMul, Nat.reduceDiv, Nat.reduceMod, Nat.zero_add, Nat.add_zero, n_z, n_1, n_ltz, n_zlt, n_lt, n_eq, n_cl, n_in, nI_add, pk_mul, n_div, n_sub, nm_mod]
    exact c_cdF _ _ σ Q 40 x y 0 _ _ hx hy y63 (by omega)
  simp (disch := first | assumption | omega) only [cl_0, r_0_0, r_0_1, r_0_2, r_0_5, r_0_7, r_0_9, r_0_10, r_0_11, r_0_14, r_0_15, r_0_16, r_0_18, r_0_19, r_0_22, r_0_23, r_0_24, r_0_26, r_0_27, r_0_30, g_div, o_bm, o_ivs, o_lcmp, o_lda, o_ldl, o_le, o_pl, o_putl, o_rv, o_stl, acR_nx, acR_re, acR_ca, acR_no, acR_if, Kc_i, Kc_n, a_lg, a_ls, a_kl, a_pk, a_sw, cw_n, cw_i, cw_l, cw_r, List.length_cons, List.length_nil, List.getElem?_cons_succ, List.getElem?_cons_zero, ↓reduceIte, decide_true, decide_false, Bool.false_eq_true, or_true, true_or, or_false, false_or, or_self, and_true, true_and, not_true_eq_false, not_false_eq_true, Nat.reduceEqDiff, Nat.reduceLT, Nat.reduceLeDiff, Nat.reduceAdd, Nat.reduceSub, Nat.reduceMul, Nat.reduceDiv, Nat.reduceMod, Nat.zero_add, Nat.add_zero, n_z, n_1, n_ltz, n_zlt, n_lt, n_eq, n_cl, n_in, nI_add, pk_mul, n_div, n_sub, nm_mod, ly_16, cd, lc_gt, l_p0, l_z, g0, g3, pk_lDiv hx g0 g2, pk_lDiv y63 g0 g2]
theorem m_frF (a b : Int64) (σ : a_HP) (Q : Option Value → a_HP → Prop) {G : Nat} : ∀ (f x y : Nat) (x9 x10 : Option Value), x < 2 ^ 63 → y < 2 ^ f → y < 2 ^ 63 → Nat.gcd x y = G → (∀ x9 x10 x11 x12, Rn 196 31 [some (.ref 61), some (.long a), none, some (.long b), none, some (.long (lN G)), none, x11, x12, x9, x10] [] σ Q) → Rn 196 6 [some (.ref 61), some (.long a), none, some (.long b), none, some (.long (lN x)), none, some (.long (lN y)), none, x9, x10] [] σ Q
  | 0, x, y, x9, x10, hx, hy, hy2, hg, hQ => by
    have : y = 0 := by simpa using hy
    subst this
    rw [Nat.gcd_zero_right] at hg
    subst hg
    rw [r_196_6]
    simp (disch := first | assumption | omega) only [r_196_0, r_196_1, r_196_3, r_196_4, r_196_8, r_196_9, r_196_10, r_196_13, r_196_15, r_196_17, r_196_18, r_196_20, r_196_22, r_196_24, r_196_26, r_196_28, r_196_32, r_196_33, r_196_35, r_196_36, r_196_39, r_196_40, r_196_41, r_196_43, r_196_44, r_196_47, g_div, g_rem, o_bm, o_eq, o_go, o_lcmp, o_lda, o_ldl, o_pl, o_putl, o_rv, o_stl, acR_nx, acR_re, acR_ca, acR_no, acR_if, Kc_i, Kc_n, a_lg, a_ls, a_kl, a_pk, a_sw, cw_n, cw_i, cw_l, cw_r, List.length_cons, List.length_nil, List.getElem?_cons_succ, List.getElem?_cons_zero, ↓reduceIte, decide_true, decide_false, Bool.false_eq_true, or_true, true_or, or_false, false_or, or_self, and_true, true_and, not_true_eq_false, not_false_eq_true, Nat.reduceEqDiff, Nat.reduceLT, Nat.reduceLeDiff, Nat.reduceAdd, Nat.reduceSub, Nat.reduceMul, Nat.reduceDiv, Nat.reduceMod, Nat.zero_add, Nat.add_zero, n_z, n_1, n_ltz, n_zlt, n_lt, n_eq, n_cl, n_in, nI_add, pk_mul, n_div, n_sub, nm_mod, lc_eq, l_z0]
    exact hQ _ _ _ _
  | f + 1, x, y, x9, x10, hx, hy, hy2, hg, hQ => by
    rw [r_196_6]
    by_cases y0 : y = 0
    · subst y0
      rw [Nat.gcd_zero_right] at hg
      subst hg
      simp (disch := first | assumption | omega) only [r_196_0, r_196_1, r_196_3, r_196_4, r_196_8, r_196_9, r_196_10, r_196_13, r_196_15, r_196_17, r_196_18, r_196_20, r_196_22, r_196_24, r_196_26, r_196_28, r_196_32, r_196_33, r_196_35, r_196_36, r_196_39, r_196_40, r_196_41, r_196_43, r_196_44, r_196_47, g_div, g_rem, o_bm, o_eq, o_go, o_lcmp, o_lda, o_ldl, o_pl, o_putl, o_rv, o_stl, acR_nx, acR_re, acR_ca, acR_no, acR_if, Kc_i, Kc_n, a_lg, a_ls, a_kl, a_pk, a_sw, cw_n, cw_i, cw_l, cw_r, List.length_cons, List.length_nil, List.getElem?_cons_succ, List.getElem?_cons_zero, ↓reduceIte, decide_true, decide_false, Bool.false_eq_true, or_true, true_or, or_false, false_or, or_self, and_true, true_and, not_true_eq_false, not_false_eq_true, Nat.reduceEqDiff, Nat.reduceLT, Nat.reduceLeDiff, Nat.reduceAdd, Nat.reduceSub, Nat.reduceMul, Nat.reduceDiv, Nat.reduceMod, Nat.zero_add, Nat.add_zero, n_z, n_1, n_ltz, n_zlt, n_lt, n_eq, n_cl, n_in, nI_add, pk_mul, n_div, n_sub, nm_mod, lc_eq, l_z0]
      exact hQ _ _ _ _
    · have yp : 0 < y := by omega
      have r1 : x % y < y := Nat.mod_lt _ yp
      have r2 : x % y < 2 ^ 63 := by omega
      simp (disch := first | assumption | omega) only [r_196_0, r_196_1, r_196_3, r_196_4, r_196_8, r_196_9, r_196_10, r_196_13, r_196_15, r_196_17, r_196_18, r_196_20, r_196_22, r_196_24, r_196_26, r_196_28, r_196_31, r_196_32, r_196_33, r_196_35, r_196_36, r_196_39, r_196_40, r_196_41, r_196_43, r_196_44, r_196_47, g_div, g_rem, o_bm, o_eq, o_go, o_lcmp, o_lda, o_ldl, o_pl, o_putl, o_rv, o_stl, acR_nx, acR_re, acR_ca, acR_no, acR_if, Kc_i, Kc_n, a_lg, a_ls, a_kl, a_pk, a_sw, cw_n, cw_i, cw_l, cw_r, List.length_cons, List.length_nil, List.getElem?_cons_succ, List.getElem?_cons_zero, ↓reduceIte, decide_true, decide_false, Bool.false_eq_true, or_true, true_or, or_false, false_or, or_self, and_true, true_and, not_true_eq_false, not_false_eq_true, Nat.reduceEqDiff, Nat.reduceLT, Nat.reduceLeDiff, Nat.reduceAdd, Nat.reduceSub, Nat.reduceMul, Nat.reduceDiv, Nat.reduceMod, Nat.zero_add, Nat.add_zero, n_z, n_1, n_ltz, n_zlt, n_lt, n_eq, n_cl, n_in, nI_add, pk_mul, n_div, n_sub, nm_mod, lc_eq, l_z0, l_z, y0, pk_lRem hx yp hy2]
      rw [gcd_s x y] at hg
      rw [r_196_6]
      by_cases r0 : x % y = 0
      · rw [r0] at hg ⊢
        rw [Nat.gcd_zero_right] at hg
        subst hg
        simp (disch := first | assumption | omega) only [r_196_0, r_196_1, r_196_3, r_196_4, r_196_8, r_196_9, r_196_10, r_196_13, r_196_15, r_196_17, r_196_18, r_196_20, r_196_22, r_196_24, r_196_26, r_196_28, r_196_32, r_196_33, r_196_35, r_196_36, r_196_39, r_196_40, r_196_41, r_196_43, r_196_44, r_196_47, g_div, g_rem, o_bm, o_eq, o_go, o_lcmp, o_lda, o_ldl, o_pl, o_putl, o_rv, o_stl, acR_nx, acR_re, acR_ca, acR_no, acR_if, Kc_i, Kc_n, a_lg, a_ls, a_kl, a_pk, a_sw, cw_n, cw_i, cw_l, cw_r, List.length_cons, List.length_nil, List.getElem?_cons_succ, List.getElem?_cons_zero, ↓reduceIte, decide_true, decide_false, Bool.false_eq_true, or_true, true_or, or_false, false_or, or_self, and_true, true_and, not_true_eq_false, not_false_eq_true, Nat.reduceEqDiff, Nat.reduceLT, Nat.reduceLeDiff, Nat.reduceAdd, Nat.reduceSub, Nat.reduceMul, Nat.reduceDiv, Nat.reduceMod, Nat.zero_add, Nat.add_zero, n_z, n_1, n_ltz, n_zlt, n_lt, n_eq, n_cl, n_in, nI_add, pk_mul, n_div, n_sub, nm_mod, lc_eq, l_z0]
        exact hQ _ _ _ _
      · have rp : 0 < x % y := by omega
        have s1 : y % (x % y) < x % y := Nat.mod_lt _ rp
        simp (disch := first | assumption | omega) only [r_196_0, r_196_1, r_196_3, r_196_4, r_196_8, r_196_9, r_196_10, r_196_13, r_196_15, r_196_17, r_196_18, r_196_20, r_196_22, r_196_24, r_196_26, r_196_28, r_196_31, r_196_32, r_196_33, r_196_35, r_196_36, r_196_39, r_196_40, r_196_41, r_196_43, r_196_44, r_196_47, g_div, g_rem, o_bm, o_eq, o_go, o_lcmp, o_lda, o_ldl, o_pl, o_putl, o_rv, o_stl, acR_nx, acR_re, acR_ca, acR_no, acR_if, Kc_i, Kc_n, a_lg, a_ls, a_kl, a_pk, a_sw, cw_n, cw_i, cw_l, cw_r, List.length_cons, List.length_nil, List.getElem?_cons_succ, List.getElem?_cons_zero, ↓reduceIte, decide_true, decide_false, Bool.false_eq_true, or_true, true_or, or_false, false_or, or_self, and_true, true_and, not_true_eq_false, not_false_eq_true, Nat.reduceEqDiff, Nat.reduceLT, Nat.reduceLeDiff, Nat.reduceAdd, Nat.reduceSub, Nat.reduceMul, Nat.reduceDiv, Nat.reduceMod, Nat.zero_add, Nat.add_zero, n_z, n_1, n_ltz, n_zlt, n_lt, n_eq, n_cl, n_in, nI_add, pk_mul, n_div, n_sub, nm_mod, lc_eq, l_z0, l_z, r0, pk_lRem hy2 rp r2]
        exact m_frF a b σ Q f (x % y) (y % (x % y)) _ _ r2 (half yp rp hy) (by omega) (by rw [← gcd_s]; exact hg) hQ
theorem m_fraction {x y : Nat} (hx : x < 2 ^ 63) (hy : y < 2 ^ 63) (hy0 : 0 < y) (σ : a_HP) (Q : Option Value → a_HP → Prop) (hQ : Q none (a_wl (a_wl σ 61 7 (lN (x / Nat.gcd x y))) 61 8 (lN (y / Nat.gcd x y)))) : Cl 196 [.ref 61, .long (lN x), .long (lN y)] σ Q := by
  have g0 : 0 < Nat.gcd x y := Nat.gcd_pos_of_pos_right _ hy0
  have g1 : Nat.gcd x y ≤ y := Nat.gcd_le_right _ hy0
  have g2 : Nat.gcd x y < 2 ^ 63 := by omega
  have g3 : ¬ Nat.gcd x y = 0 := by omega
  simp (disch := first | assumption | omega) only [cl_196, r_196_0, r_196_1, r_196_3, r_196_4, r_196_8, r_196_9, r_196_10, r_196_13, r_196_15, r_196_17, r_196_18, r_196_20, r_196_22, r_196_24, r_196_26, r_196_28, r_196_31, r_196_32, r_196_33, r_196_35, r_196_36, r_196_39, r_196_40, r_196_41, r_196_43, r_196_44, r_196_47, g_div, g_rem, o_bm, o_eq, o_go, o_lcmp, o_lda, o_ldl, o_pl, o_putl, o_rv, o_stl, acR_nx, acR_re, acR_ca, acR_no, acR_if, Kc_i, Kc_n, a_lg, a_ls, a_kl, a_pk, a_sw, cw_n, cw_i, cw_l, cw_r, List.length_cons, List.length_nil, List.getElem?_cons_succ, List.getElem?_cons_zero, ↓reduceIte, decide_true, decide_false, Bool.false_eq_true, or_true, true_or, or_false, false_or, or_self, and_true, true_and, not_true_eq_false, not_false_eq_true, Nat.reduceEqDiff, Nat.reduceLT, Nat.reduceLeDiff, Nat.reduceAdd, Nat.reduceSub, Nat.reduceMul, Nat.reduceDiv, Nat.reduceMod, Nat.zero_add, Nat.add_zero, n_z, n_1, n_ltz, n_zlt, n_lt, n_eq, n_cl, n_in, nI_add, pk_mul, n_div, n_sub, nm_mod]
  refine m_frF _ _ σ Q 63 x y _ _ hx hy hy rfl (fun x9 x10 x11 x12 => ?_)
  simp (disch := first | assumption | omega) only [r_196_0, r_196_1, r_196_3, r_196_4, r_196_8, r_196_9, r_196_10, r_196_13, r_196_15, r_196_17, r_196_18, r_196_20, r_196_22, r_196_24, r_196_26, r_196_28, r_196_31, r_196_32, r_196_33, r_196_35, r_196_36, r_196_39, r_196_40, r_196_41, r_196_43, r_196_44, r_196_47, g_div, g_rem, o_bm, o_eq, o_go, o_lcmp, o_lda, o_ldl, o_pl, o_putl, o_rv, o_stl, acR_nx, acR_re, acR_ca, acR_no, acR_if, Kc_i, Kc_n, a_lg, a_ls, a_kl, a_pk, a_sw, cw_n, cw_i, cw_l, cw_r, List.length_cons, List.length_nil, List.getElem?_cons_succ, List.getElem?_cons_zero, ↓reduceIte, decide_true, decide_false, Bool.false_eq_true, or_true, true_or, or_false, false_or, or_self, and_true, true_and, not_true_eq_false, not_false_eq_true, Nat.reduceEqDiff, Nat.reduceLT, Nat.reduceLeDiff, Nat.reduceAdd, Nat.reduceSub, Nat.reduceMul, Nat.reduceDiv, Nat.reduceMod, Nat.zero_add, Nat.add_zero, n_z, n_1, n_ltz, n_zlt, n_lt, n_eq, n_cl, n_in, nI_add, pk_mul, n_div, n_sub, nm_mod, ly_61, l_z, g3, pk_lDiv hx g0 g2, pk_lDiv hy g0 g2]
  exact hQ
/-! odds: the knots that slip -/
def lpK (c k : Nat) : Bool := hK c k || (decide (0 < k % 4) && hK c (k - 1))
def lpN (c : Nat) : Nat := if c % 3 = 2 then 4 else 6
def lpO (c i : Nat) : Nat := 4 * (c / 3 + i / (lpN c / 2)) + c % 3 + i % (lpN c / 2)
def lpC (c : Nat) : Nat → Nat
  | 0 => 0
  | k + 1 => if lpK c k = true then lpC c k + 1 else lpC c k
theorem lp_ok : ∀ c : Fin 9, lpC c.val 16 = lpN c.val ∧ ∀ k : Fin 16, lpC c.val k.val ≤ 6 ∧ (lpK c.val k.val = true → lpO c.val (lpC c.val k.val) = k.val ∧ lpC c.val k.val < 6) := by decide +kernel
theorem lp_o16 : ∀ c : Fin 9, ∀ i : Fin 6, i.val < lpN c.val → lpO c.val i.val < 16 := by decide +kernel
def sB (c s : Nat) : Nat → Nat → Bool
  | 0, _ => false
  | i + 1, k => sB c s i k || (s.testBit i && decide (lpO c i = k))
def lbI (c s : Nat) : Nat → Int32
  | 0 => nI 0
  | i + 1 => if s.testBit i = true then lbI c s i ||| nI 1 <<< (nI (lpO c i) &&& 31) else lbI c s i
theorem mb_bit6 : ∀ m : Fin 64, ∀ i : Fin 6, decide (nI m.val >>> (nI i.val &&& 31) &&& nI 1 = 0) = !m.val.testBit i.val := by decide +kernel
set_option maxRecDepth 100000 in
theorem lb_bit : ∀ c : Fin 9, ∀ s : Fin 64, ∀ k : Fin 16, decide (lbI c.val s.val (lpN c.val) >>> (nI k.val &&& 31) &&& nI 1 = 0) = !sB c.val s.val (lpN c.val) k.val := by decide +kernel
theorem m_bit6 {m i : Nat} (hm : m < 64) (hi : i < 6) : (nI m >>> (nI i &&& 31) &&& nI 1 = 0) = (m.testBit i = false) := by
  have := mb_bit6 ⟨m, hm⟩ ⟨i, hi⟩
  apply propext
  constructor
  · intro q
    rw [decide_eq_true q] at this
    simpa using this.symm
  · intro q
    dsimp only at this
    rw [q] at this
    simpa using this
theorem lpN_le (c : Nat) : lpN c ≤ 6 := by unfold lpN; split <;> omega
theorem c_listLoose {c : Nat} (hc : c < 9) (σ : a_HP) (Q : Option Value → a_HP → Prop) (hQ : ∀ G, (∀ j, j < lpN c → G j = nI (lpO c j)) → Q (some (.int (nI (lpN c)))) (a_sc σ 33 G)) : Cl 117 [.ref 0, .int (nI c)] σ Q := by
  have key := lp_dn (C := fun k => ∀ (G : Nat → Int32) x4, (∀ j, j < lpC c k → G j = nI (lpO c j)) → Rn 117 4 [some (.ref 0), some (.int (nI c)), some (.int (nI (lpC c k))), some (.int (nI k)), x4] [] (a_sc σ 33 G) Q) 16 (fun G x4 hG => by
    rw [r_117_4]
    simp (disch := first | assumption | omega) only [r_117_0, r_117_1, r_117_2, r_117_3, r_117_5, r_117_7, r_117_10, r_117_11, r_117_12, r_117_13, r_117_16, r_117_17, r_117_18, r_117_19, r_117_20, r_117_23, r_117_26, r_117_27, r_117_30, r_117_31, r_117_33, r_117_34, r_117_35, r_117_38, r_117_41, r_117_43, r_117_46, r_117_47, r_117_50, r_117_51, r_117_52, r_117_53, r_117_56, r_117_59, r_117_62, r_117_63, f_rem, f_sub, o_bd, o_bi, o_cge, o_eq, o_get, o_go, o_ias, o_inc, o_ivs, o_lda, o_ldi, o_le, o_ne, o_pi, o_ri, o_sti, acR_nx, acR_re, acR_ca, acR_no, acR_if, Kc_i, Kc_n, a_lg, a_ls, a_kl, a_pk, a_sw, cw_n, cw_i, cw_l, cw_r, List.length_cons, List.length_nil, List.getElem?_cons_succ, List.getElem?_cons_zero, ↓reduceIte, decide_true, decide_false, Bool.false_eq_true, or_true, true_or, or_false, false_or, or_self, and_true, true_and, not_true_eq_false, not_false_eq_true, Nat.reduceEqDiff, Nat.reduceLT, Nat.reduceLeDiff, Nat.reduceAdd, Nat.reduceSub, Nat.reduceMul, Nat.reduceDiv, Nat.reduceMod, Nat.zero_add, Nat.add_zero, n_z, n_1, n_ltz, n_zlt, n_lt, n_eq, n_cl, n_in, nI_add, pk_mul, n_div, n_sub, nm_mod]
    rw [(lp_ok ⟨c, hc⟩).1] at hG ⊢
    exact hQ G hG) (fun k hk ih G x4 hG => by
    rw [r_117_4]
    obtain ⟨l1, l2⟩ := (lp_ok ⟨c, hc⟩).2 ⟨k, hk⟩
    dsimp only at l1 l2
    simp only [lpC] at ih
    have yes : lpK c k = true → ∀ x4, Rn 117 46 [some (.ref 0), some (.int (nI c)), some (.int (nI (lpC c k))), some (.int (nI k)), x4] [] (a_sc σ 33 G) Q := by
      intro q x4
      obtain ⟨l2, l3⟩ := l2 q
      have l4 : lpC c k < 16 := by omega
      simp (disch := first | assumption | omega) only [r_117_0, r_117_1, r_117_2, r_117_3, r_117_5, r_117_7, r_117_10, r_117_11, r_117_12, r_117_13, r_117_16, r_117_17, r_117_18, r_117_19, r_117_20, r_117_23, r_117_26, r_117_27, r_117_30, r_117_31, r_117_33, r_117_34, r_117_35, r_117_38, r_117_41, r_117_43, r_117_46, r_117_47, r_117_50, r_117_51, r_117_52, r_117_53, r_117_56, r_117_59, r_117_62, r_117_63, f_rem, f_sub, o_bd, o_bi, o_cge, o_eq, o_get, o_go, o_ias, o_inc, o_ivs, o_lda, o_ldi, o_le, o_ne, o_pi, o_ri, o_sti, acR_nx, acR_re, acR_ca, acR_no, acR_if, Kc_i, Kc_n, a_lg, a_ls, a_kl, a_pk, a_sw, cw_n, cw_i, cw_l, cw_r, List.length_cons, List.length_nil, List.getElem?_cons_succ, List.getElem?_cons_zero, ↓reduceIte, decide_true, decide_false, Bool.false_eq_true, or_true, true_or, or_false, false_or, or_self, and_true, true_and, not_true_eq_false, not_false_eq_true, Nat.reduceEqDiff, Nat.reduceLT, Nat.reduceLeDiff, Nat.reduceAdd, Nat.reduceSub, Nat.reduceMul, Nat.reduceDiv, Nat.reduceMod, Nat.zero_add, Nat.add_zero, n_z, n_1, n_ltz, n_zlt, n_lt, n_eq, n_cl, n_in, nI_add, pk_mul, n_div, n_sub, nm_mod, ly_0, ly_33, l4, wi_sc, sc_1, sc_sc]
      rw [if_pos q] at ih
      refine ih _ _ (fun j hj => ?_)
      rw [ud_1]
      by_cases z : j = lpC c k
      · rw [if_pos z, z, l2]
      · rw [if_neg z]; exact hG j (by omega)
    have no : ¬ lpK c k = true → ∀ x4, Rn 117 56 [some (.ref 0), some (.int (nI c)), some (.int (nI (lpC c k))), some (.int (nI k)), x4] [] (a_sc σ 33 G) Q := by
      intro q x4
      simp (disch := first | assumption | omega) only [r_117_0, r_117_1, r_117_2, r_117_3, r_117_5, r_117_7, r_117_10, r_117_11, r_117_12, r_117_13, r_117_16, r_117_17, r_117_18, r_117_19, r_117_20, r_117_23, r_117_26, r_117_27, r_117_30, r_117_31, r_117_33, r_117_34, r_117_35, r_117_38, r_117_41, r_117_43, r_117_46, r_117_47, r_117_50, r_117_51, r_117_52, r_117_53, r_117_56, r_117_59, r_117_62, r_117_63, f_rem, f_sub, o_bd, o_bi, o_cge, o_eq, o_get, o_go, o_ias, o_inc, o_ivs, o_lda, o_ldi, o_le, o_ne, o_pi, o_ri, o_sti, acR_nx, acR_re, acR_ca, acR_no, acR_if, Kc_i, Kc_n, a_lg, a_ls, a_kl, a_pk, a_sw, cw_n, cw_i, cw_l, cw_r, List.length_cons, List.length_nil, List.getElem?_cons_succ, List.getElem?_cons_zero, ↓reduceIte, decide_true, decide_false, Bool.false_eq_true, or_true, true_or, or_false, false_or, or_self, and_true, true_and, not_true_eq_false, not_false_eq_true, Nat.reduceEqDiff, Nat.reduceLT, Nat.reduceLeDiff, Nat.reduceAdd, Nat.reduceSub, Nat.reduceMul, Nat.reduceDiv, Nat.reduceMod, Nat.zero_add, Nat.add_zero, n_z, n_1, n_ltz, n_zlt, n_lt, n_eq, n_cl, n_in, nI_add, pk_mul, n_div, n_sub, nm_mod]
      rw [if_neg q] at ih
      exact ih _ _ hG
    by_cases q : hK c k = true
    · have yes := yes (by unfold lpK; rw [q]; rfl)
      by_cases q0 : 0 < k % 4
      · have k1 : k - 1 < 16 := by omega
        by_cases q1 : hK c (k - 1) = true
        · simp (disch := first | assumption | omega) only [r_117_0, r_117_1, r_117_2, r_117_3, r_117_5, r_117_7, r_117_10, r_117_11, r_117_12, r_117_13, r_117_16, r_117_17, r_117_18, r_117_19, r_117_20, r_117_23, r_117_26, r_117_27, r_117_30, r_117_31, r_117_33, r_117_34, r_117_35, r_117_38, r_117_41, r_117_43, r_117_47, r_117_50, r_117_51, r_117_52, r_117_53, r_117_59, r_117_62, r_117_63, f_rem, f_sub, o_bd, o_bi, o_cge, o_eq, o_get, o_go, o_ias, o_inc, o_ivs, o_ldi, o_le, o_ne, o_pi, o_ri, o_sti, acR_nx, acR_re, acR_ca, acR_no, acR_if, Kc_i, Kc_n, a_lg, a_ls, a_kl, a_pk, a_sw, cw_n, cw_i, cw_l, cw_r, List.length_cons, List.length_nil, List.getElem?_cons_succ, List.getElem?_cons_zero, ↓reduceIte, decide_true, decide_false, Bool.false_eq_true, or_true, true_or, or_false, false_or, or_self, and_true, true_and, not_true_eq_false, not_false_eq_true, Nat.reduceEqDiff, Nat.reduceLT, Nat.reduceLeDiff, Nat.reduceAdd, Nat.reduceSub, Nat.reduceMul, Nat.reduceDiv, Nat.reduceMod, Nat.zero_add, Nat.add_zero, n_z, n_1, n_ltz, n_zlt, n_lt, n_eq, n_cl, n_in, nI_add, pk_mul, n_div, n_sub, nm_mod, hk, q0, q1, q, c_hasKnot hc k1, c_hasKnot hc hk]
          exact yes _
        · simp (disch := first | assumption | omega) only [r_117_0, r_117_1, r_117_2, r_117_3, r_117_5, r_117_7, r_117_10, r_117_11, r_117_12, r_117_13, r_117_16, r_117_17, r_117_18, r_117_19, r_117_20, r_117_23, r_117_26, r_117_27, r_117_30, r_117_31, r_117_33, r_117_34, r_117_35, r_117_38, r_117_41, r_117_43, r_117_47, r_117_50, r_117_51, r_117_52, r_117_53, r_117_59, r_117_62, r_117_63, f_rem, f_sub, o_bd, o_bi, o_cge, o_eq, o_get, o_go, o_ias, o_inc, o_ivs, o_ldi, o_le, o_ne, o_pi, o_ri, o_sti, acR_nx, acR_re, acR_ca, acR_no, acR_if, Kc_i, Kc_n, a_lg, a_ls, a_kl, a_pk, a_sw, cw_n, cw_i, cw_l, cw_r, List.length_cons, List.length_nil, List.getElem?_cons_succ, List.getElem?_cons_zero, ↓reduceIte, decide_true, decide_false, Bool.false_eq_true, or_true, true_or, or_false, false_or, or_self, and_true, true_and, not_true_eq_false, not_false_eq_true, Nat.reduceEqDiff, Nat.reduceLT, Nat.reduceLeDiff, Nat.reduceAdd, Nat.reduceSub, Nat.reduceMul, Nat.reduceDiv, Nat.reduceMod, Nat.zero_add, Nat.add_zero, n_z, n_1, n_ltz, n_zlt, n_lt, n_eq, n_cl, n_in, nI_add, pk_mul, n_div, n_sub, nm_mod, hk, q0, q1, q, c_hasKnot hc k1, c_hasKnot hc hk]
          exact yes _
      · simp (disch := first | assumption | omega) only [r_117_0, r_117_1, r_117_2, r_117_3, r_117_5, r_117_7, r_117_10, r_117_11, r_117_12, r_117_13, r_117_16, r_117_17, r_117_18, r_117_19, r_117_20, r_117_23, r_117_26, r_117_27, r_117_30, r_117_31, r_117_33, r_117_34, r_117_35, r_117_38, r_117_41, r_117_43, r_117_47, r_117_50, r_117_51, r_117_52, r_117_53, r_117_59, r_117_62, r_117_63, f_rem, f_sub, o_bd, o_bi, o_cge, o_eq, o_get, o_go, o_ias, o_inc, o_ivs, o_ldi, o_le, o_ne, o_pi, o_ri, o_sti, acR_nx, acR_re, acR_ca, acR_no, acR_if, Kc_i, Kc_n, a_lg, a_ls, a_kl, a_pk, a_sw, cw_n, cw_i, cw_l, cw_r, List.length_cons, List.length_nil, List.getElem?_cons_succ, List.getElem?_cons_zero, ↓reduceIte, decide_true, decide_false, Bool.false_eq_true, or_true, true_or, or_false, false_or, or_self, and_true, true_and, not_true_eq_false, not_false_eq_true, Nat.reduceEqDiff, Nat.reduceLT, Nat.reduceLeDiff, Nat.reduceAdd, Nat.reduceSub, Nat.reduceMul, Nat.reduceDiv, Nat.reduceMod, Nat.zero_add, Nat.add_zero, n_z, n_1, n_ltz, n_zlt, n_lt, n_eq, n_cl, n_in, nI_add, pk_mul, n_div, n_sub, nm_mod, hk, q0, q, c_hasKnot hc hk]
        exact yes _
    · by_cases q0 : 0 < k % 4
      · have k1 : k - 1 < 16 := by omega
        by_cases q1 : hK c (k - 1) = true
        · simp (disch := first | assumption | omega) only [r_117_0, r_117_1, r_117_2, r_117_3, r_117_5, r_117_7, r_117_10, r_117_11, r_117_12, r_117_13, r_117_16, r_117_17, r_117_18, r_117_19, r_117_20, r_117_23, r_117_26, r_117_27, r_117_30, r_117_31, r_117_33, r_117_34, r_117_35, r_117_38, r_117_41, r_117_43, r_117_47, r_117_50, r_117_51, r_117_52, r_117_53, r_117_59, r_117_62, r_117_63, f_rem, f_sub, o_bd, o_bi, o_cge, o_eq, o_get, o_go, o_ias, o_inc, o_ivs, o_ldi, o_le, o_ne, o_pi, o_ri, o_sti, acR_nx, acR_re, acR_ca, acR_no, acR_if, Kc_i, Kc_n, a_lg, a_ls, a_kl, a_pk, a_sw, cw_n, cw_i, cw_l, cw_r, List.length_cons, List.length_nil, List.getElem?_cons_succ, List.getElem?_cons_zero, ↓reduceIte, decide_true, decide_false, Bool.false_eq_true, or_true, true_or, or_false, false_or, or_self, and_true, true_and, not_true_eq_false, not_false_eq_true, Nat.reduceEqDiff, Nat.reduceLT, Nat.reduceLeDiff, Nat.reduceAdd, Nat.reduceSub, Nat.reduceMul, Nat.reduceDiv, Nat.reduceMod, Nat.zero_add, Nat.add_zero, n_z, n_1, n_ltz, n_zlt, n_lt, n_eq, n_cl, n_in, nI_add, pk_mul, n_div, n_sub, nm_mod, hk, q0, q1, q, c_hasKnot hc k1, c_hasKnot hc hk]
          exact yes (by unfold lpK; rw [q1, decide_eq_true q0]; simp) _
        · simp (disch := first | assumption | omega) only [r_117_0, r_117_1, r_117_2, r_117_3, r_117_5, r_117_7, r_117_10, r_117_11, r_117_12, r_117_13, r_117_16, r_117_17, r_117_18, r_117_19, r_117_20, r_117_23, r_117_26, r_117_27, r_117_30, r_117_31, r_117_33, r_117_34, r_117_35, r_117_38, r_117_41, r_117_43, r_117_47, r_117_50, r_117_51, r_117_52, r_117_53, r_117_59, r_117_62, r_117_63, f_rem, f_sub, o_bd, o_bi, o_cge, o_eq, o_get, o_go, o_ias, o_inc, o_ivs, o_ldi, o_le, o_ne, o_pi, o_ri, o_sti, acR_nx, acR_re, acR_ca, acR_no, acR_if, Kc_i, Kc_n, a_lg, a_ls, a_kl, a_pk, a_sw, cw_n, cw_i, cw_l, cw_r, List.length_cons, List.length_nil, List.getElem?_cons_succ, List.getElem?_cons_zero, ↓reduceIte, decide_true, decide_false, Bool.false_eq_true, or_true, true_or, or_false, false_or, or_self, and_true, true_and, not_true_eq_false, not_false_eq_true, Nat.reduceEqDiff, Nat.reduceLT, Nat.reduceLeDiff, Nat.reduceAdd, Nat.reduceSub, Nat.reduceMul, Nat.reduceDiv, Nat.reduceMod, Nat.zero_add, Nat.add_zero, n_z, n_1, n_ltz, n_zlt, n_lt, n_eq, n_cl, n_in, nI_add, pk_mul, n_div, n_sub, nm_mod, hk, q0, q1, q, c_hasKnot hc k1, c_hasKnot hc hk]
          exact no (by unfold lpK; simp [q, q1]) _
      · simp (disch := first | assumption | omega) only [r_117_0, r_117_1, r_117_2, r_117_3, r_117_5, r_117_7, r_117_10, r_117_11, r_117_12, r_117_13, r_117_16, r_117_17, r_117_18, r_117_19, r_117_20, r_117_23, r_117_26, r_117_27, r_117_30, r_117_31, r_117_33, r_117_34, r_117_35, r_117_38, r_117_41, r_117_43, r_117_47, r_117_50, r_117_51, r_117_52, r_117_53, r_117_59, r_117_62, r_117_63, f_rem, f_sub, o_bd, o_bi, o_cge, o_eq, o_get, o_go, o_ias, o_inc, o_ivs, o_ldi, o_le, o_ne, o_pi, o_ri, o_sti, acR_nx, acR_re, acR_ca, acR_no, acR_if, Kc_i, Kc_n, a_lg, a_ls, a_kl, a_pk, a_sw, cw_n, cw_i, cw_l, cw_r, List.length_cons, List.length_nil, List.getElem?_cons_succ, List.getElem?_cons_zero, ↓reduceIte, decide_true, decide_false, Bool.false_eq_true, or_true, true_or, or_false, false_or, or_self, and_true, true_and, not_true_eq_false, not_false_eq_true, Nat.reduceEqDiff, Nat.reduceLT, Nat.reduceLeDiff, Nat.reduceAdd, Nat.reduceSub, Nat.reduceMul, Nat.reduceDiv, Nat.reduceMod, Nat.zero_add, Nat.add_zero, n_z, n_1, n_ltz, n_zlt, n_lt, n_eq, n_cl, n_in, nI_add, pk_mul, n_div, n_sub, nm_mod, hk, q0, q, c_hasKnot hc hk]
        exact no (by unfold lpK; simp [q, q0]) _)
  have k0 := key (σ.1 33) none (fun j hj => by simp only [lpC] at hj; omega)
  rw [sc_id] at k0
  simp (disch := first | assumption | omega) only [cl_117, r_117_0, r_117_1, r_117_2, r_117_3, r_117_5, r_117_7, r_117_10, r_117_11, r_117_12, r_117_13, r_117_16, r_117_17, r_117_18, r_117_19, r_117_20, r_117_23, r_117_26, r_117_27, r_117_30, r_117_31, r_117_33, r_117_34, r_117_35, r_117_38, r_117_41, r_117_43, r_117_46, r_117_47, r_117_50, r_117_51, r_117_52, r_117_53, r_117_56, r_117_59, r_117_62, r_117_63, f_rem, f_sub, o_bd, o_bi, o_cge, o_eq, o_get, o_go, o_ias, o_inc, o_ivs, o_lda, o_ldi, o_le, o_ne, o_pi, o_ri, o_sti, acR_nx, acR_re, acR_ca, acR_no, acR_if, Kc_i, Kc_n, a_lg, a_ls, a_kl, a_pk, a_sw, cw_n, cw_i, cw_l, cw_r, List.length_cons, List.length_nil, List.getElem?_cons_succ, List.getElem?_cons_zero, ↓reduceIte, decide_true, decide_false, Bool.false_eq_true, or_true, true_or, or_false, false_or, or_self, and_true, true_and, not_true_eq_false, not_false_eq_true, Nat.reduceEqDiff, Nat.reduceLT, Nat.reduceLeDiff, Nat.reduceAdd, Nat.reduceSub, Nat.reduceMul, Nat.reduceDiv, Nat.reduceMod, Nat.zero_add, Nat.add_zero, n_z, n_1, n_ltz, n_zlt, n_lt, n_eq, n_cl, n_in, nI_add, pk_mul, n_div, n_sub, nm_mod]
  exact k0
theorem c_looseBits {c s : Nat} (hc : c < 9) (hs : s < 64) (σ : a_HP) (hG : ∀ j, j < lpN c → σ.1 33 j = nI (lpO c j)) (Q : Option Value → a_HP → Prop) : Cl 118 [.ref 0, .int (nI s), .int (nI (lpN c))] σ Q = Q (some (.int (lbI c s (lpN c)))) σ := by
  have l6 := lpN_le c
  have key := lp_up (P := fun i => Rn 118 5 [some (.ref 0), some (.int (nI s)), some (.int (nI (lpN c))), some (.int (lbI c s i)), some (.int (nI i))] [] σ Q) (lpN c) (fun i hi => by
    rw [r_118_5]
    have i6 : i < 6 := by omega
    have i16 : i < 16 := by omega
    have g := hG i hi
    by_cases q : s.testBit i = true
    · have q' : ¬ s.testBit i = false := by rw [q]; decide
      simp (disch := first | assumption | omega) only [r_118_0, r_118_1, r_118_2, r_118_3, r_118_7, r_118_8, r_118_11, r_118_12, r_118_14, r_118_15, r_118_16, r_118_17, r_118_20, r_118_21, r_118_22, r_118_23, r_118_26, r_118_28, r_118_29, r_118_30, r_118_31, r_118_32, r_118_35, r_118_38, r_118_39, f_and, f_or, f_shl, f_shr, o_bi, o_cge, o_eq, o_get, o_go, o_ial, o_inc, o_lda, o_ldi, o_pi, o_ri, o_sti, acR_nx, acR_re, acR_ca, acR_no, acR_if, Kc_i, Kc_n, a_lg, a_ls, a_kl, a_pk, a_sw, cw_n, cw_i, cw_l, cw_r, List.length_cons, List.length_nil, List.getElem?_cons_succ, List.getElem?_cons_zero, ↓reduceIte, decide_true, decide_false, Bool.false_eq_true, or_true, true_or, or_false, false_or, or_self, and_true, true_and, not_true_eq_false, not_false_eq_true, Nat.reduceEqDiff, Nat.reduceLT, Nat.reduceLeDiff, Nat.reduceAdd, Nat.reduceSub, Nat.reduceMul, Nat.reduceDiv, Nat.reduceMod, Nat.zero_add, Nat.add_zero, n_z, n_1, n_ltz, n_zlt, n_lt, n_eq, n_cl, n_in, nI_add, pk_mul, n_div, n_sub, nm_mod, ly_0, ly_33, hi, i16, m_bit6 hs i6, q', Bool.true_eq_false, g, lbI, q]
    · have q' : s.testBit i = false := by simpa using q
      simp (disch := first | assumption | omega) only [r_118_0, r_118_1, r_118_2, r_118_3, r_118_7, r_118_8, r_118_11, r_118_12, r_118_14, r_118_15, r_118_16, r_118_17, r_118_20, r_118_21, r_118_22, r_118_23, r_118_26, r_118_28, r_118_29, r_118_30, r_118_31, r_118_32, r_118_35, r_118_38, r_118_39, f_and, f_or, f_shl, f_shr, o_bi, o_cge, o_eq, o_get, o_go, o_ial, o_inc, o_lda, o_ldi, o_pi, o_ri, o_sti, acR_nx, acR_re, acR_ca, acR_no, acR_if, Kc_i, Kc_n, a_lg, a_ls, a_kl, a_pk, a_sw, cw_n, cw_i, cw_l, cw_r, List.length_cons, List.length_nil, List.getElem?_cons_succ, List.getElem?_cons_zero, ↓reduceIte, decide_true, decide_false, Bool.false_eq_true, or_true, true_or, or_false, false_or, or_self, and_true, true_and, not_true_eq_false, not_false_eq_true, Nat.reduceEqDiff, Nat.reduceLT, Nat.reduceLeDiff, Nat.reduceAdd, Nat.reduceSub, Nat.reduceMul, Nat.reduceDiv, Nat.reduceMod, Nat.zero_add, Nat.add_zero, n_z, n_1, n_ltz, n_zlt, n_lt, n_eq, n_cl, n_in, nI_add, pk_mul, n_div, n_sub, nm_mod, hi, m_bit6 hs i6, q', lbI, Bool.false_eq_true])
  simp (disch := first | assumption | omega) only [cl_118, r_118_0, r_118_1, r_118_2, r_118_3, r_118_7, r_118_8, r_118_11, r_118_12, r_118_14, r_118_15, r_118_16, r_118_17, r_118_20, r_118_21, r_118_22, r_118_23, r_118_26, r_118_28, r_118_29, r_118_30, r_118_31, r_118_32, r_118_35, r_118_38, r_118_39, f_and, f_or, f_shl, f_shr, o_bi, o_cge, o_eq, o_get, o_go, o_ial, o_inc, o_lda, o_ldi, o_pi, o_ri, o_sti, acR_nx, acR_re, acR_ca, acR_no, acR_if, Kc_i, Kc_n, a_lg, a_ls, a_kl, a_pk, a_sw, cw_n, cw_i, cw_l, cw_r, List.length_cons, List.length_nil, List.getElem?_cons_succ, List.getElem?_cons_zero, ↓reduceIte, decide_true, decide_false, Bool.false_eq_true, or_true, true_or, or_false, false_or, or_self, and_true, true_and, not_true_eq_false, not_false_eq_true, Nat.reduceEqDiff, Nat.reduceLT, Nat.reduceLeDiff, Nat.reduceAdd, Nat.reduceSub, Nat.reduceMul, Nat.reduceDiv, Nat.reduceMod, Nat.zero_add, Nat.add_zero, n_z, n_1, n_ltz, n_zlt, n_lt, n_eq, n_cl, n_in, nI_add, pk_mul, n_div, n_sub, nm_mod]
  refine Eq.trans key ?_
  rw [r_118_5]
  simp (disch := first | assumption | omega) only [r_118_0, r_118_1, r_118_2, r_118_3, r_118_7, r_118_8, r_118_11, r_118_12, r_118_14, r_118_15, r_118_16, r_118_17, r_118_20, r_118_21, r_118_22, r_118_23, r_118_26, r_118_28, r_118_29, r_118_30, r_118_31, r_118_32, r_118_35, r_118_38, r_118_39, f_and, f_or, f_shl, f_shr, o_bi, o_cge, o_eq, o_get, o_go, o_ial, o_inc, o_lda, o_ldi, o_pi, o_ri, o_sti, acR_nx, acR_re, acR_ca, acR_no, acR_if, Kc_i, Kc_n, a_lg, a_ls, a_kl, a_pk, a_sw, cw_n, cw_i, cw_l, cw_r, List.length_cons, List.length_nil, List.getElem?_cons_succ, List.getElem?_cons_zero, ↓reduceIte, decide_true, decide_false, Bool.false_eq_true, or_true, true_or, or_false, false_or, or_self, and_true, true_and, not_true_eq_false, not_false_eq_true, Nat.reduceEqDiff, Nat.reduceLT, Nat.reduceLeDiff, Nat.reduceAdd, Nat.reduceSub, Nat.reduceMul, Nat.reduceDiv, Nat.reduceMod, Nat.zero_add, Nat.add_zero, n_z, n_1, n_ltz, n_zlt, n_lt, n_eq, n_cl, n_in, nI_add, pk_mul, n_div, n_sub, nm_mod, Nat.lt_irrefl]
def wN (x s : Nat) : Nat → Nat
  | 0 => 1
  | i + 1 => wN x s i * (if s.testBit i = true then x else 10 - x)
theorem wN_le {x : Nat} (hx : x ≤ 10) (s : Nat) : ∀ i, wN x s i ≤ 10 ^ i
  | 0 => Nat.le_refl _
  | i + 1 => by
    simp only [wN]
    rw [Nat.pow_succ]
    refine Nat.mul_le_mul (wN_le hx s i) ?_
    split <;> omega
theorem wN_lt {x : Nat} (hx : x ≤ 10) (s : Nat) {i : Nat} (hi : i ≤ 6) : wN x s i ≤ 1000000 := Nat.le_trans (wN_le hx s i) (Nat.le_trans (Nat.pow_le_pow_right (by omega) hi) (by decide))
theorem c_slipWeight {x s n : Nat} (hx : x ≤ 10) (hs : s < 64) (hn : n ≤ 6) (σ : a_HP) (Q : Option Value → a_HP → Prop) : Cl 119 [.int (nI s), .int (nI n), .int (nI x)] σ Q = Q (some (.long (lN (wN x s n)))) σ := by
  have key := lp_up (P := fun i => Rn 119 5 [some (.int (nI s)), some (.int (nI n)), some (.int (nI x)), some (.long (lN (wN x s i))), none, some (.int (nI i))] [] σ Q) n (fun i hi => by
    rw [r_119_5]
    have i6 : i < 6 := by omega
    have e1 : (nI x).toInt64 = lN x := nI_l (by omega)
    have e2 : (nI (10 - x)).toInt64 = lN (10 - x) := nI_l (by omega)
    by_cases q : s.testBit i = true
    · have q' : ¬ s.testBit i = false := by rw [q]; decide
      simp (disch := first | assumption | omega) only [r_119_0, r_119_1, r_119_2, r_119_3, r_119_7, r_119_8, r_119_11, r_119_12, r_119_13, r_119_15, r_119_16, r_119_17, r_119_18, r_119_21, r_119_22, r_119_23, r_119_26, r_119_28, r_119_29, r_119_30, r_119_31, r_119_32, r_119_33, r_119_36, r_119_39, r_119_40, f_and, f_shr, f_sub, g_mul, o_bi, o_bl, o_cge, o_eq, o_go, o_i2l, o_inc, o_ldi, o_ldl, o_pi, o_pl, o_rl, o_sti, o_stl, acR_nx, acR_re, acR_ca, acR_no, acR_if, Kc_i, Kc_n, a_lg, a_ls, a_kl, a_pk, a_sw, cw_n, cw_i, cw_l, cw_r, List.length_cons, List.length_nil, List.getElem?_cons_succ, List.getElem?_cons_zero, ↓reduceIte, decide_true, decide_false, Bool.false_eq_true, or_true, true_or, or_false, false_or, or_self, and_true, true_and, not_true_eq_false, not_false_eq_true, Nat.reduceEqDiff, Nat.reduceLT, Nat.reduceLeDiff, Nat.reduceAdd, Nat.reduceSub, Nat.reduceMul, Nat.reduceDiv, Nat.reduceMod, Nat.zero_add, Nat.add_zero, n_z, n_1, n_ltz, n_zlt, n_lt, n_eq, n_cl, n_in, nI_add, pk_mul, n_div, n_sub, nm_mod, hi, m_bit6 hs i6, q', Bool.true_eq_false, wN, q, e1, lN_mul]
    · have q' : s.testBit i = false := by simpa using q
      simp (disch := first | assumption | omega) only [r_119_0, r_119_1, r_119_2, r_119_3, r_119_7, r_119_8, r_119_11, r_119_12, r_119_13, r_119_15, r_119_16, r_119_17, r_119_18, r_119_21, r_119_22, r_119_23, r_119_26, r_119_28, r_119_29, r_119_30, r_119_31, r_119_32, r_119_33, r_119_36, r_119_39, r_119_40, f_and, f_shr, f_sub, g_mul, o_bi, o_bl, o_cge, o_eq, o_go, o_i2l, o_inc, o_ldi, o_ldl, o_pi, o_pl, o_rl, o_sti, o_stl, acR_nx, acR_re, acR_ca, acR_no, acR_if, Kc_i, Kc_n, a_lg, a_ls, a_kl, a_pk, a_sw, cw_n, cw_i, cw_l, cw_r, List.length_cons, List.length_nil, List.getElem?_cons_succ, List.getElem?_cons_zero, ↓reduceIte, decide_true, decide_false, Bool.false_eq_true, or_true, true_or, or_false, false_or, or_self, and_true, true_and, not_true_eq_false, not_false_eq_true, Nat.reduceEqDiff, Nat.reduceLT, Nat.reduceLeDiff, Nat.reduceAdd, Nat.reduceSub, Nat.reduceMul, Nat.reduceDiv, Nat.reduceMod, Nat.zero_add, Nat.add_zero, n_z, n_1, n_ltz, n_zlt, n_lt, n_eq, n_cl, n_in, nI_add, pk_mul, n_div, n_sub, nm_mod, hi, m_bit6 hs i6, q', wN, Bool.false_eq_true, e2, lN_mul])
  simp (disch := first | assumption | omega) only [cl_119, r_119_0, r_119_1, r_119_2, r_119_3, r_119_7, r_119_8, r_119_11, r_119_12, r_119_13, r_119_15, r_119_16, r_119_17, r_119_18, r_119_21, r_119_22, r_119_23, r_119_26, r_119_28, r_119_29, r_119_30, r_119_31, r_119_32, r_119_33, r_119_36, r_119_39, r_119_40, f_and, f_shr, f_sub, g_mul, o_bi, o_bl, o_cge, o_eq, o_go, o_i2l, o_inc, o_ldi, o_ldl, o_pi, o_pl, o_rl, o_sti, o_stl, acR_nx, acR_re, acR_ca, acR_no, acR_if, Kc_i, Kc_n, a_lg, a_ls, a_kl, a_pk, a_sw, cw_n, cw_i, cw_l, cw_r, List.length_cons, List.length_nil, List.getElem?_cons_succ, List.getElem?_cons_zero, ↓reduceIte, decide_true, decide_false, Bool.false_eq_true, or_true, true_or, or_false, false_or, or_self, and_true, true_and, not_true_eq_false, not_false_eq_true, Nat.reduceEqDiff, Nat.reduceLT, Nat.reduceLeDiff, Nat.reduceAdd, Nat.reduceSub, Nat.reduceMul, Nat.reduceDiv, Nat.reduceMod, Nat.zero_add, Nat.add_zero, n_z, n_1, n_ltz, n_zlt, n_lt, n_eq, n_cl, n_in, nI_add, pk_mul, n_div, n_sub, nm_mod]
  refine Eq.trans key ?_
  rw [r_119_5]
  simp (disch := first | assumption | omega) only [r_119_0, r_119_1, r_119_2, r_119_3, r_119_7, r_119_8, r_119_11, r_119_12, r_119_13, r_119_15, r_119_16, r_119_17, r_119_18, r_119_21, r_119_22, r_119_23, r_119_26, r_119_28, r_119_29, r_119_30, r_119_31, r_119_32, r_119_33, r_119_36, r_119_39, r_119_40, f_and, f_shr, f_sub, g_mul, o_bi, o_bl, o_cge, o_eq, o_go, o_i2l, o_inc, o_ldi, o_ldl, o_pi, o_pl, o_rl, o_sti, o_stl, acR_nx, acR_re, acR_ca, acR_no, acR_if, Kc_i, Kc_n, a_lg, a_ls, a_kl, a_pk, a_sw, cw_n, cw_i, cw_l, cw_r, List.length_cons, List.length_nil, List.getElem?_cons_succ, List.getElem?_cons_zero, ↓reduceIte, decide_true, decide_false, Bool.false_eq_true, or_true, true_or, or_false, false_or, or_self, and_true, true_and, not_true_eq_false, not_false_eq_true, Nat.reduceEqDiff, Nat.reduceLT, Nat.reduceLeDiff, Nat.reduceAdd, Nat.reduceSub, Nat.reduceMul, Nat.reduceDiv, Nat.reduceMod, Nat.zero_add, Nat.add_zero, n_z, n_1, n_ltz, n_zlt, n_lt, n_eq, n_cl, n_in, nI_add, pk_mul, n_div, n_sub, nm_mod, Nat.lt_irrefl]
