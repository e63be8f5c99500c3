/-! least: the class's costs of a side -/
def stC (f : Nat → Int32) (k tw l : Nat) : Nat := l - gaN f k tw
def okC (l : Nat) : Bool := decide (l = 0)
theorem cl_sub : ∀ l : Fin 31, ∀ g : Fin 22, (nI l.val - nI g.val).toNatClampNeg = l.val - g.val := by decide +kernel
theorem c_clearCosts {s i : Nat} (hs : s ≤ 1) (hi : i ≤ 4) (σ : a_HP) (T : Nat → Int32) (Q : Option Value → a_HP → Prop) (hQ : ∀ T' : Nat → Int32, (∀ l, l < 31 → T' ((s * 5 + i) * 31 + l) = nI 1000) → (∀ j, j < (s * 5 + i) * 31 ∨ (s * 5 + i) * 31 + 31 ≤ j → T' j = T j) → Q none (a_sc σ 32 T')) : Cl 8 [.ref 23, .int (nI s), .int (nI i)] (a_sc σ 32 T) Q := by
  have key := lp_dn (C := fun l => ∀ T' : Nat → Int32, (∀ l', l' < l → T' ((s * 5 + i) * 31 + l') = nI 1000) → (∀ j, j < (s * 5 + i) * 31 ∨ (s * 5 + i) * 31 + 31 ≤ j → T' j = T j) → Rn 8 12 [some (.ref 23), some (.int (nI s)), some (.int (nI i)), some (.int (nI ((s * 5 + i) * 31))), some (.int (nI l))] [] (a_sc σ 32 T') Q) 31 (fun T' h1 h2 => by
    rw [r_8_12]
    simp (disch := first | assumption | omega) only [r_8_0, r_8_1, r_8_2, r_8_3, r_8_4, r_8_5, r_8_7, r_8_8, r_8_9, r_8_10, r_8_14, r_8_16, r_8_19, r_8_20, r_8_23, r_8_24, r_8_26, r_8_27, r_8_30, r_8_31, r_8_34, r_8_37, f_add, f_mul, o_bi, o_cge, o_get, o_go, o_ias, o_inc, o_lda, o_ldi, o_pi, o_rv, o_sti, acR_nx, acR_re, acR_ca, acR_no, acR_if, Kc_i, Kc_n, a_lg, a_ls, a_kl, a_pk, a_sw, cw_n, cw_i, cw_l, cw_r, List.length_cons, List.length_nil, List.getElem?_cons_succ, List.getElem?_cons_zero, ↓reduceIte, decide_true, decide_false, Bool.false_eq_true, or_true, true_or, or_false, false_or, or_self, and_true, true_and, not_true_eq_false, not_false_eq_true, Nat.reduceEqDiff, Nat.reduceLT, Nat.reduceLeDiff, Nat.reduceAdd, Nat.reduceSub, Nat.reduceMul, Nat.reduceDiv, Nat.reduceMod, Nat.zero_add, Nat.add_zero, n_z, n_1, n_ltz, n_zlt, n_lt, n_eq, n_cl, n_in, nI_add, pk_mul, n_div, n_sub, nm_mod]
    exact hQ T' h1 h2) (fun l hl ih T' h1 h2 => by
    rw [r_8_12]
    have ib : (s * 5 + i) * 31 + l < 310 := by omega
    simp (disch := first | assumption | omega) only [r_8_0, r_8_1, r_8_2, r_8_3, r_8_4, r_8_5, r_8_7, r_8_8, r_8_9, r_8_10, r_8_14, r_8_16, r_8_19, r_8_20, r_8_23, r_8_24, r_8_26, r_8_27, r_8_30, r_8_31, r_8_34, r_8_37, f_add, f_mul, o_bi, o_cge, o_get, o_go, o_ias, o_inc, o_lda, o_ldi, o_pi, o_rv, o_sti, acR_nx, acR_re, acR_ca, acR_no, acR_if, Kc_i, Kc_n, a_lg, a_ls, a_kl, a_pk, a_sw, cw_n, cw_i, cw_l, cw_r, List.length_cons, List.length_nil, List.getElem?_cons_succ, List.getElem?_cons_zero, ↓reduceIte, decide_true, decide_false, Bool.false_eq_true, or_true, true_or, or_false, false_or, or_self, and_true, true_and, not_true_eq_false, not_false_eq_true, Nat.reduceEqDiff, Nat.reduceLT, Nat.reduceLeDiff, Nat.reduceAdd, Nat.reduceSub, Nat.reduceMul, Nat.reduceDiv, Nat.reduceMod, Nat.zero_add, Nat.add_zero, n_z, n_1, n_ltz, n_zlt, n_lt, n_eq, n_cl, n_in, nI_add, pk_mul, n_div, n_sub, nm_mod, ly_23, ly_32, hl, ib, wi_sc, sc_1, sc_sc]
    refine ih _ (fun l' hl' => ?_) (fun j hj => ?_)
    · rw [ud_1]
      by_cases e : l' = l
      · rw [if_pos (by omega)]
      · rw [if_neg (by omega)]; exact h1 l' (by omega)
    · rw [ud_1, if_neg (by omega)]; exact h2 j hj)
  simp (disch := first | assumption | omega) only [cl_8, r_8_0, r_8_1, r_8_2, r_8_3, r_8_4, r_8_5, r_8_7, r_8_8, r_8_9, r_8_10, r_8_14, r_8_16, r_8_19, r_8_20, r_8_23, r_8_24, r_8_26, r_8_27, r_8_30, r_8_31, r_8_34, r_8_37, f_add, f_mul, o_bi, o_cge, o_get, o_go, o_ias, o_inc, o_lda, o_ldi, o_pi, o_rv, o_sti, acR_nx, acR_re, acR_ca, acR_no, acR_if, Kc_i, Kc_n, a_lg, a_ls, a_kl, a_pk, a_sw, cw_n, cw_i, cw_l, cw_r, List.length_cons, List.length_nil, List.getElem?_cons_succ, List.getElem?_cons_zero, ↓reduceIte, decide_true, decide_false, Bool.false_eq_true, or_true, true_or, or_false, false_or, or_self, and_true, true_and, not_true_eq_false, not_false_eq_true, Nat.reduceEqDiff, Nat.reduceLT, Nat.reduceLeDiff, Nat.reduceAdd, Nat.reduceSub, Nat.reduceMul, Nat.reduceDiv, Nat.reduceMod, Nat.zero_add, Nat.add_zero, n_z, n_1, n_ltz, n_zlt, n_lt, n_eq, n_cl, n_in, nI_add, pk_mul, n_div, n_sub, nm_mod]
  exact key T (fun l h => by omega) (fun _ _ => rfl)
theorem c_lowerCosts {s i tw g : Nat} (hs : s ≤ 1) (hi : i ≤ 3) (ht : tw ≤ 9) (hg : g ≤ 21) (σ : a_HP) {T : Nat → Int32} {c c' : Nat → Nat} (hc' : ∀ l, l < 31 → T ((s * 5 + (i + 1)) * 31 + l) = nI (c' l) ∧ c' l ≤ 1000) (hc : ∀ l, l < 31 → T ((s * 5 + i) * 31 + l) = nI (c l) ∧ c l ≤ 1000) (Q : Option Value → a_HP → Prop) (hQ : ∀ T' : Nat → Int32, (∀ l, l < 31 → T' ((s * 5 + i) * 31 + l) = nI (if tw + c' (l - g) < c l then tw + c' (l - g) else c l)) → (∀ j, j < (s * 5 + i) * 31 ∨ (s * 5 + i) * 31 + 31 ≤ j → T' j = T j) → Q none (a_sc σ 32 T')) : Cl 9 [.ref 23, .int (nI s), .int (nI i), .int (nI tw), .int (nI g)] (a_sc σ 32 T) Q := by
  have key := lp_dn (C := fun l => ∀ (T' : Nat → Int32) x7, (∀ l', l' < l → T' ((s * 5 + i) * 31 + l') = nI (if tw + c' (l' - g) < c l' then tw + c' (l' - g) else c l')) → (∀ l', l ≤ l' → l' < 31 → T' ((s * 5 + i) * 31 + l') = nI (c l')) → (∀ j, j < (s * 5 + i) * 31 ∨ (s * 5 + i) * 31 + 31 ≤ j → T' j = T j) → Rn 9 13 [some (.ref 23), some (.int (nI s)), some (.int (nI i)), some (.int (nI tw)), some (.int (nI g)), some (.int (nI ((s * 5 + i) * 31))), some (.int (nI l)), x7] [] (a_sc σ 32 T') Q) 31 (fun T' x7 h1 h2 h3 => by
    rw [r_9_13]
    simp (disch := first | assumption | omega) only [r_9_0, r_9_1, r_9_2, r_9_3, r_9_4, r_9_5, r_9_7, r_9_8, r_9_10, r_9_11, r_9_15, r_9_17, r_9_20, r_9_21, r_9_22, r_9_23, r_9_24, r_9_25, r_9_26, r_9_28, r_9_30, r_9_31, r_9_34, r_9_35, r_9_37, r_9_38, r_9_41, r_9_43, r_9_45, r_9_46, r_9_47, r_9_50, r_9_52, r_9_54, r_9_55, r_9_56, r_9_58, r_9_61, r_9_62, r_9_65, r_9_68, f_add, f_mul, f_sub, o_bi, o_cge, o_get, o_go, o_ial, o_ias, o_inc, o_ivs, o_ivv, o_lda, o_ldi, o_pi, o_rv, o_sti, acR_nx, acR_re, acR_ca, acR_no, acR_if, Kc_i, Kc_n, a_lg, a_ls, a_kl, a_pk, a_sw, cw_n, cw_i, cw_l, cw_r, List.length_cons, List.length_nil, List.getElem?_cons_succ, List.getElem?_cons_zero, ↓reduceIte, decide_true, decide_false, Bool.false_eq_true, or_true, true_or, or_false, false_or, or_self, and_true, true_and, not_true_eq_false, not_false_eq_true, Nat.reduceEqDiff, Nat.reduceLT, Nat.reduceLeDiff, Nat.reduceAdd, Nat.reduceSub, Nat.reduceMul, Nat.reduceDiv, Nat.reduceMod, Nat.zero_add, Nat.add_zero, n_z, n_1, n_ltz, n_zlt, n_lt, n_eq, n_cl, n_in, nI_add, pk_mul, n_div, n_sub, nm_mod]
    exact hQ T' h1 h3) (fun l hl ih T' x7 h1 h2 h3 => by
    rw [r_9_13]
    have ib : (s * 5 + i) * 31 + l < 310 := by omega
    have cs := cl_sub ⟨l, hl⟩ ⟨g, by omega⟩
    dsimp only at cs
    have cb : (nI l - nI g).toNatClampNeg < 31 := by rw [cs]; omega
    have i4 : i + 1 ≤ 4 := by omega
    obtain ⟨t1, t2⟩ := hc' (l - g) (by omega)
    have t1' : T' ((s * 5 + (i + 1)) * 31 + (l - g)) = nI (c' (l - g)) := by rw [h3 _ (by omega)]; exact t1
    have t0 := h2 l (Nat.le_refl l) hl
    have u2 := (hc l hl).2
    have co := c_costOf (s := s) (i := i + 1) hs i4 cb (a_sc σ 32 T')
    rw [cs] at co
    have s32 : (a_sc σ 32 T').1 32 = T' := rfl
    rw [s32, t1'] at co
    have mm : (if nI (tw + c' (l - g)) < nI (c l) then nI (tw + c' (l - g)) else nI (c l)) = nI (if tw + c' (l - g) < c l then tw + c' (l - g) else c l) := by
      by_cases q : tw + c' (l - g) < c l
      · rw [if_pos q, if_pos (by rw [n_lt (by omega) (by omega)]; exact q)]
      · rw [if_neg q, if_neg (by rw [n_lt (by omega) (by omega)]; exact q)]
    simp (disch := first | assumption | omega) only [r_9_0, r_9_1, r_9_2, r_9_3, r_9_4, r_9_5, r_9_7, r_9_8, r_9_10, r_9_11, r_9_15, r_9_17, r_9_20, r_9_21, r_9_22, r_9_23, r_9_24, r_9_25, r_9_26, r_9_28, r_9_30, r_9_31, r_9_34, r_9_35, r_9_37, r_9_38, r_9_41, r_9_43, r_9_45, r_9_46, r_9_47, r_9_50, r_9_52, r_9_54, r_9_55, r_9_56, r_9_58, r_9_61, r_9_62, r_9_65, r_9_68, f_add, f_mul, f_sub, o_bi, o_cge, o_get, o_go, o_ial, o_ias, o_inc, o_ivs, o_ivv, o_lda, o_ldi, o_pi, o_rv, o_sti, acR_nx, acR_re, acR_ca, acR_no, acR_if, Kc_i, Kc_n, a_lg, a_ls, a_kl, a_pk, a_sw, cw_n, cw_i, cw_l, cw_r, List.length_cons, List.length_nil, List.getElem?_cons_succ, List.getElem?_cons_zero, ↓reduceIte, decide_true, decide_false, Bool.false_eq_true, or_true, true_or, or_false, false_or, or_self, and_true, true_and, not_true_eq_false, not_false_eq_true, Nat.reduceEqDiff, Nat.reduceLT, Nat.reduceLeDiff, Nat.reduceAdd, Nat.reduceSub, Nat.reduceMul, Nat.reduceDiv, Nat.reduceMod, Nat.zero_add, Nat.add_zero, n_z, n_1, n_lt, n_in, n_cl, pk_mul, nI_add, ly_23, ly_32, hl, co, c_min, ib, wi_sc, sc_1, sc_sc, t0]
    refine ih _ _ (fun l' hl' => ?_) (fun l' a b => ?_) (fun j hj => ?_)
    · rw [ud_1]
      by_cases e : l' = l
      · rw [if_pos (by omega), e]
        first | exact mm | (rw [← mm]; simp (disch := omega) only [n_lt]) 
      · rw [if_neg (by omega)]; exact h1 l' (by omega)
    · rw [ud_1, if_neg (by omega)]; exact h2 l' (by omega) b
    · rw [ud_1, if_neg (by omega)]; exact h3 j hj)
  simp (disch := first | assumption | omega) only [cl_9, r_9_0, r_9_1, r_9_2, r_9_3, r_9_4, r_9_5, r_9_7, r_9_8, r_9_10, r_9_11, r_9_15, r_9_17, r_9_20, r_9_21, r_9_22, r_9_23, r_9_24, r_9_25, r_9_26, r_9_28, r_9_30, r_9_31, r_9_34, r_9_35, r_9_37, r_9_38, r_9_41, r_9_43, r_9_45, r_9_46, r_9_47, r_9_50, r_9_52, r_9_54, r_9_55, r_9_56, r_9_58, r_9_61, r_9_62, r_9_65, r_9_68, f_add, f_mul, f_sub, o_bi, o_cge, o_get, o_go, o_ial, o_ias, o_inc, o_ivs, o_ivv, o_lda, o_ldi, o_pi, o_rv, o_sti, acR_nx, acR_re, acR_ca, acR_no, acR_if, Kc_i, Kc_n, a_lg, a_ls, a_kl, a_pk, a_sw, cw_n, cw_i, cw_l, cw_r, List.length_cons, List.length_nil, List.getElem?_cons_succ, List.getElem?_cons_zero, ↓reduceIte, decide_true, decide_false, Bool.false_eq_true, or_true, true_or, or_false, false_or, or_self, and_true, true_and, not_true_eq_false, not_false_eq_true, Nat.reduceEqDiff, Nat.reduceLT, Nat.reduceLeDiff, Nat.reduceAdd, Nat.reduceSub, Nat.reduceMul, Nat.reduceDiv, Nat.reduceMod, Nat.zero_add, Nat.add_zero, n_z, n_1, n_ltz, n_zlt, n_lt, n_eq, n_cl, n_in, nI_add, pk_mul, n_div, n_sub, nm_mod]
  exact key T _ (fun l h => by omega) (fun l _ h => (hc l h).1) (fun _ _ => rfl)
