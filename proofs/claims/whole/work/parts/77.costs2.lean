/-! least: all costs of a side -/
def dL (f : Nat → Int32) (L : List Nat) (i l : Nat) : Nat := dC (moN f) (stC f) okC 1000 (L.drop i) l
theorem dL_le (f : Nat → Int32) (L : List Nat) (i l : Nat) : dL f L i l ≤ 1000 := dC_le _ _ _ _ _ _
theorem dL_s (f : Nat → Int32) {L : List Nat} {i : Nat} (hi : i < L.length) (l : Nat) : dL f L i l = mb 1000 (fun tw => tw + dL f L (i + 1) (l - gaN f (L.getD i 0) tw)) (moN f (L.getD i 0) + 1) := by
  unfold dL
  have e : L.drop i = L.getD i 0 :: L.drop (i + 1) := by
    rw [List.getD_eq_getElem?_getD, List.getElem?_eq_getElem hi]
    exact List.drop_eq_getElem_cons hi
  rw [e]
  simp only [dC]
  rw [mb_mnT]
  rfl
theorem dL_n (f : Nat → Int32) (L : List Nat) (l : Nat) : dL f L L.length l = if l = 0 then 0 else 1000 := by
  unfold dL
  rw [List.drop_length]
  simp only [dC, okC, decide_eq_true_eq]
theorem c_fillCosts {f : Nat → Int32} {s : Nat} (hs : s ≤ 1) {L : List Nat} (hn : L.length ≤ 4) {σ : a_HP} (hk : ∀ i, i < L.length → L.getD i 0 < 16) (h28 : σ.1 28 s = nI L.length) (h27 : ∀ i, i < L.length → σ.1 27 (s * 4 + i) = nI (L.getD i 0)) (h30 : ∀ i, i < L.length → σ.1 30 (L.getD i 0) = nI (moN f (L.getD i 0)) ∧ moN f (L.getD i 0) ≤ 9) (h31 : ∀ i, i < L.length → ∀ tw, tw ≤ moN f (L.getD i 0) → σ.1 31 (L.getD i 0 * 10 + tw) = nI (gaN f (L.getD i 0) tw) ∧ gaN f (L.getD i 0) tw ≤ 21) (T : Nat → Int32) (Q : Option Value → a_HP → Prop) (hQ : ∀ T' : Nat → Int32, (∀ i l, i ≤ L.length → l < 31 → T' ((s * 5 + i) * 31 + l) = nI (dL f L i l)) → (∀ j, j < s * 155 ∨ s * 155 + 155 ≤ j → T' j = T j) → Q none (a_sc σ 32 T')) : Cl 7 [.ref 23, .int (nI s)] (a_sc σ 32 T) Q := by
  generalize hnn : L.length = n at *
  have s2 : s < 2 := by omega
  have ib0 : (s * 5 + n) * 31 < 310 := by omega
  have key := lp_dn (C := fun u => ∀ (T' : Nat → Int32) x3 x4, (∀ i l, n - u ≤ i → i ≤ n → l < 31 → T' ((s * 5 + i) * 31 + l) = nI (dL f L i l)) → (∀ j, j < s * 155 ∨ s * 155 + 155 ≤ j → T' j = T j) → Rn 7 39 [some (.ref 23), some (.int (nI s)), some (.int (if u < n then nI (n - 1 - u) else -1)), x3, x4] [] (a_sc σ 32 T') Q) n (fun T' x3 x4 h1 h2 => by
    rw [r_7_39, if_neg (by omega)]
    have m0 : (-1 : Int32) < 0 := by decide
    simp (disch := first | assumption | omega) only [r_7_0, r_7_1, r_7_2, r_7_3, r_7_6, r_7_7, r_7_8, r_7_11, r_7_12, r_7_15, r_7_16, r_7_17, r_7_18, r_7_19, r_7_22, r_7_23, r_7_24, r_7_25, r_7_27, r_7_28, r_7_29, r_7_30, r_7_31, r_7_34, r_7_35, r_7_36, r_7_37, r_7_38, r_7_40, r_7_43, r_7_44, r_7_47, r_7_48, r_7_49, r_7_50, r_7_51, r_7_52, r_7_53, r_7_54, r_7_55, r_7_56, r_7_57, r_7_60, r_7_61, r_7_65, r_7_66, r_7_69, r_7_70, r_7_71, r_7_74, r_7_75, r_7_76, r_7_77, r_7_79, r_7_80, r_7_81, r_7_83, r_7_86, r_7_89, r_7_92, r_7_95, r_7_98, r_7_101, f_add, f_mul, f_sub, o_bi, o_cgt, o_get, o_go, o_ial, o_ias, o_inc, o_ivv, o_lda, o_ldi, o_lt, o_pi, o_rv, o_sti, o_ldi, acR_nx, acR_re, acR_ca, acR_no, acR_if, Kc_i, Kc_n, a_lg, a_ls, a_kl, a_pk, a_sw, cw_n, cw_i, cw_l, cw_r, List.length_cons, List.length_nil, List.getElem?_cons_succ, List.getElem?_cons_zero, ↓reduceIte, decide_true, decide_false, Bool.false_eq_true, or_true, true_or, or_false, false_or, or_self, and_true, true_and, not_true_eq_false, not_false_eq_true, Nat.reduceEqDiff, Nat.reduceLT, Nat.reduceLeDiff, Nat.reduceAdd, Nat.reduceSub, Nat.reduceMul, Nat.reduceDiv, Nat.reduceMod, Nat.zero_add, Nat.add_zero, m0]
    exact hQ T' (fun i l a b => h1 i l (by omega) a b) h2) (fun u hu ih T' x3 x4 h1 h2 => by
    rw [if_pos hu]
    obtain ⟨i, hi⟩ : ∃ i, i = n - 1 - u := ⟨_, rfl⟩
    rw [← hi]
    have hin : i < n := by omega
    have nxt : nI i + (-1) = (if u + 1 < n then nI (n - 1 - (u + 1)) else -1) := by
      by_cases q : u + 1 < n
      · rw [if_pos q, show i = (n - 1 - (u + 1)) + 1 by omega, ← nI_add]
        rw [Int32.add_assoc, show nI 1 + (-1 : Int32) = 0 by decide, Int32.add_zero]
      · rw [if_neg q, show i = 0 by omega]
        decide
    have kk := hk i hin
    have a27 := h27 i hin
    obtain ⟨a30, mo9⟩ := h30 i hin
    have a31 := h31 i hin
    have ds := fun l => dL_s f (L := L) (i := i) (by omega) l
    generalize L.getD i 0 = k at *
    have i8 : s * 4 + i < 8 := by omega
    have i4 : i ≤ 4 := by omega
    have i3 : i ≤ 3 := by omega
    rw [r_7_39]
    simp (disch := first | assumption | omega) only [r_7_0, r_7_1, r_7_2, r_7_3, r_7_6, r_7_7, r_7_8, r_7_11, r_7_12, r_7_15, r_7_16, r_7_17, r_7_18, r_7_19, r_7_22, r_7_23, r_7_24, r_7_25, r_7_27, r_7_28, r_7_29, r_7_30, r_7_31, r_7_34, r_7_35, r_7_36, r_7_37, r_7_38, r_7_40, r_7_43, r_7_44, r_7_47, r_7_48, r_7_49, r_7_50, r_7_51, r_7_52, r_7_53, r_7_54, r_7_55, r_7_56, r_7_57, r_7_60, r_7_61, r_7_65, r_7_66, r_7_69, r_7_70, r_7_71, r_7_74, r_7_75, r_7_76, r_7_77, r_7_79, r_7_80, r_7_81, r_7_83, r_7_86, r_7_89, r_7_92, r_7_95, r_7_98, r_7_101, f_add, f_mul, f_sub, o_bi, o_cgt, o_get, o_go, o_ial, o_ias, o_inc, o_ivv, o_lda, o_ldi, o_lt, o_pi, o_rv, o_sti, o_ldi, acR_nx, acR_re, acR_ca, acR_no, acR_if, Kc_i, Kc_n, a_lg, a_ls, a_kl, a_pk, a_sw, cw_n, cw_i, cw_l, cw_r, List.length_cons, List.length_nil, List.getElem?_cons_succ, List.getElem?_cons_zero, ↓reduceIte, decide_true, decide_false, Bool.false_eq_true, or_true, true_or, or_false, false_or, or_self, and_true, true_and, not_true_eq_false, not_false_eq_true, Nat.reduceEqDiff, Nat.reduceLT, Nat.reduceLeDiff, Nat.reduceAdd, Nat.reduceSub, Nat.reduceMul, Nat.reduceDiv, Nat.reduceMod, Nat.zero_add, Nat.add_zero, n_z, n_1, n_ltz, n_zlt, n_lt, n_eq, n_cl, n_in, nI_add, pk_mul, n_div, n_sub, nm_mod, ly_23, ly_27, sc_1, i8, a27]
    refine c_clearCosts hs i4 σ T' _ (fun T2 b1 b2 => ?_)
    have inner := lp_dn (C := fun tw => ∀ T3 : Nat → Int32, (∀ l, l < 31 → T3 ((s * 5 + i) * 31 + l) = nI (mb 1000 (fun tw => tw + dL f L (i + 1) (l - gaN f k tw)) tw)) → (∀ j, j < (s * 5 + i) * 31 ∨ (s * 5 + i) * 31 + 31 ≤ j → T3 j = T' j) → Rn 7 63 [some (.ref 23), some (.int (nI s)), some (.int (nI i)), some (.int (nI k)), some (.int (nI tw))] [] (a_sc σ 32 T3) Q) (moN f k + 1) (fun T3 c1 c2 => by
      rw [r_7_63]
      have m1 : moN f k < moN f k + 1 := by omega
      simp (disch := first | assumption | omega) only [r_7_0, r_7_1, r_7_2, r_7_3, r_7_6, r_7_7, r_7_8, r_7_11, r_7_12, r_7_15, r_7_16, r_7_17, r_7_18, r_7_19, r_7_22, r_7_23, r_7_24, r_7_25, r_7_27, r_7_28, r_7_29, r_7_30, r_7_31, r_7_34, r_7_35, r_7_36, r_7_37, r_7_38, r_7_40, r_7_43, r_7_44, r_7_47, r_7_48, r_7_49, r_7_50, r_7_51, r_7_52, r_7_53, r_7_54, r_7_55, r_7_56, r_7_57, r_7_60, r_7_61, r_7_65, r_7_66, r_7_69, r_7_70, r_7_71, r_7_74, r_7_75, r_7_76, r_7_77, r_7_79, r_7_80, r_7_81, r_7_83, r_7_86, r_7_89, r_7_92, r_7_95, r_7_98, r_7_101, f_add, f_mul, f_sub, o_bi, o_cgt, o_get, o_go, o_ial, o_ias, o_inc, o_ivv, o_lda, o_ldi, o_lt, o_pi, o_rv, o_sti, o_ldi, acR_nx, acR_re, acR_ca, acR_no, acR_if, Kc_i, Kc_n, a_lg, a_ls, a_kl, a_pk, a_sw, cw_n, cw_i, cw_l, cw_r, List.length_cons, List.length_nil, List.getElem?_cons_succ, List.getElem?_cons_zero, ↓reduceIte, decide_true, decide_false, Bool.false_eq_true, or_true, true_or, or_false, false_or, or_self, and_true, true_and, not_true_eq_false, not_false_eq_true, Nat.reduceEqDiff, Nat.reduceLT, Nat.reduceLeDiff, Nat.reduceAdd, Nat.reduceSub, Nat.reduceMul, Nat.reduceDiv, Nat.reduceMod, Nat.zero_add, Nat.add_zero, n_z, n_1, n_ltz, n_zlt, n_lt, n_eq, n_cl, n_in, nI_add, pk_mul, n_div, n_sub, nm_mod, ly_23, ly_30, sc_1, kk, a30, m1, nxt]
      refine ih T3 _ _ (fun i' l d1 d2 d3 => ?_) (fun j hj => ?_)
      · by_cases e : i' = i
        · rw [e, c1 l d3, ds l]
        · rw [c2 _ (by omega)]; exact h1 i' l (by omega) d2 d3
      · rw [c2 j (by omega)]; exact h2 j hj) (fun tw htw it T3 c1 c2 => by
      rw [r_7_63]
      have m1 : ¬ moN f k < tw := by omega
      have t10 : tw < 10 := by omega
      obtain ⟨g1, g2⟩ := a31 tw (by omega)
      have cg := c_gained kk t10 (a_sc σ 32 T3)
      have s31 : (a_sc σ 32 T3).1 31 = σ.1 31 := rfl
      rw [s31, g1] at cg
      simp (disch := first | assumption | omega) only [r_7_0, r_7_1, r_7_2, r_7_3, r_7_6, r_7_7, r_7_8, r_7_11, r_7_12, r_7_15, r_7_16, r_7_17, r_7_18, r_7_19, r_7_22, r_7_23, r_7_24, r_7_25, r_7_27, r_7_28, r_7_29, r_7_30, r_7_31, r_7_34, r_7_35, r_7_36, r_7_37, r_7_38, r_7_40, r_7_43, r_7_44, r_7_47, r_7_48, r_7_49, r_7_50, r_7_51, r_7_52, r_7_53, r_7_54, r_7_55, r_7_56, r_7_57, r_7_60, r_7_61, r_7_65, r_7_66, r_7_69, r_7_70, r_7_71, r_7_74, r_7_75, r_7_76, r_7_77, r_7_79, r_7_80, r_7_81, r_7_83, r_7_86, r_7_89, r_7_92, r_7_95, r_7_98, r_7_101, f_add, f_mul, f_sub, o_bi, o_cgt, o_get, o_go, o_ial, o_ias, o_inc, o_ivv, o_lda, o_ldi, o_lt, o_pi, o_rv, o_sti, o_ldi, acR_nx, acR_re, acR_ca, acR_no, acR_if, Kc_i, Kc_n, a_lg, a_ls, a_kl, a_pk, a_sw, cw_n, cw_i, cw_l, cw_r, List.length_cons, List.length_nil, List.getElem?_cons_succ, List.getElem?_cons_zero, ↓reduceIte, decide_true, decide_false, Bool.false_eq_true, or_true, true_or, or_false, false_or, or_self, and_true, true_and, not_true_eq_false, not_false_eq_true, Nat.reduceEqDiff, Nat.reduceLT, Nat.reduceLeDiff, Nat.reduceAdd, Nat.reduceSub, Nat.reduceMul, Nat.reduceDiv, Nat.reduceMod, Nat.zero_add, Nat.add_zero, n_z, n_1, n_ltz, n_zlt, n_lt, n_eq, n_cl, n_in, nI_add, pk_mul, n_div, n_sub, nm_mod, ly_23, ly_30, sc_1, kk, a30, m1, cg]
      refine c_lowerCosts hs i3 (by omega) g2 σ (c := fun l => mb 1000 (fun tw => tw + dL f L (i + 1) (l - gaN f k tw)) tw) (c' := fun l => dL f L (i + 1) l) (fun l hl => ⟨?_, dL_le _ _ _ _⟩) (fun l hl => ⟨c1 l hl, mb_le _ _ _⟩) _ (fun T4 e1 e2 => ?_)
      · rw [c2 _ (by omega)]; exact h1 (i + 1) l (by omega) (by omega) hl
      · simp (disch := first | assumption | omega) only [r_7_0, r_7_1, r_7_2, r_7_3, r_7_6, r_7_7, r_7_8, r_7_11, r_7_12, r_7_15, r_7_16, r_7_17, r_7_18, r_7_19, r_7_22, r_7_23, r_7_24, r_7_25, r_7_27, r_7_28, r_7_29, r_7_30, r_7_31, r_7_34, r_7_35, r_7_36, r_7_37, r_7_38, r_7_40, r_7_43, r_7_44, r_7_47, r_7_48, r_7_49, r_7_50, r_7_51, r_7_52, r_7_53, r_7_54, r_7_55, r_7_56, r_7_57, r_7_60, r_7_61, r_7_65, r_7_66, r_7_69, r_7_70, r_7_71, r_7_74, r_7_75, r_7_76, r_7_77, r_7_79, r_7_80, r_7_81, r_7_83, r_7_86, r_7_89, r_7_92, r_7_95, r_7_98, r_7_101, f_add, f_mul, f_sub, o_bi, o_cgt, o_get, o_go, o_ial, o_ias, o_inc, o_ivv, o_lda, o_ldi, o_lt, o_pi, o_rv, o_sti, o_ldi, acR_nx, acR_re, acR_ca, acR_no, acR_if, Kc_i, Kc_n, a_lg, a_ls, a_kl, a_pk, a_sw, cw_n, cw_i, cw_l, cw_r, List.length_cons, List.length_nil, List.getElem?_cons_succ, List.getElem?_cons_zero, ↓reduceIte, decide_true, decide_false, Bool.false_eq_true, or_true, true_or, or_false, false_or, or_self, and_true, true_and, not_true_eq_false, not_false_eq_true, Nat.reduceEqDiff, Nat.reduceLT, Nat.reduceLeDiff, Nat.reduceAdd, Nat.reduceSub, Nat.reduceMul, Nat.reduceDiv, Nat.reduceMod, Nat.zero_add, Nat.add_zero, n_z, n_1, n_ltz, n_zlt, n_lt, n_eq, n_cl, n_in, nI_add, pk_mul, n_div, n_sub, nm_mod]
        refine it T4 (fun l hl => e1 l hl) (fun j hj => ?_)
        rw [e2 j hj]; exact c2 j hj)
    simp (disch := first | assumption | omega) only [r_7_0, r_7_1, r_7_2, r_7_3, r_7_6, r_7_7, r_7_8, r_7_11, r_7_12, r_7_15, r_7_16, r_7_17, r_7_18, r_7_19, r_7_22, r_7_23, r_7_24, r_7_25, r_7_27, r_7_28, r_7_29, r_7_30, r_7_31, r_7_34, r_7_35, r_7_36, r_7_37, r_7_38, r_7_40, r_7_43, r_7_44, r_7_47, r_7_48, r_7_49, r_7_50, r_7_51, r_7_52, r_7_53, r_7_54, r_7_55, r_7_56, r_7_57, r_7_60, r_7_61, r_7_65, r_7_66, r_7_69, r_7_70, r_7_71, r_7_74, r_7_75, r_7_76, r_7_77, r_7_79, r_7_80, r_7_81, r_7_83, r_7_86, r_7_89, r_7_92, r_7_95, r_7_98, r_7_101, f_add, f_mul, f_sub, o_bi, o_cgt, o_get, o_go, o_ial, o_ias, o_inc, o_ivv, o_lda, o_ldi, o_lt, o_pi, o_rv, o_sti, o_ldi, acR_nx, acR_re, acR_ca, acR_no, acR_if, Kc_i, Kc_n, a_lg, a_ls, a_kl, a_pk, a_sw, cw_n, cw_i, cw_l, cw_r, List.length_cons, List.length_nil, List.getElem?_cons_succ, List.getElem?_cons_zero, ↓reduceIte, decide_true, decide_false, Bool.false_eq_true, or_true, true_or, or_false, false_or, or_self, and_true, true_and, not_true_eq_false, not_false_eq_true, Nat.reduceEqDiff, Nat.reduceLT, Nat.reduceLeDiff, Nat.reduceAdd, Nat.reduceSub, Nat.reduceMul, Nat.reduceDiv, Nat.reduceMod, Nat.zero_add, Nat.add_zero, n_z, n_1, n_ltz, n_zlt, n_lt, n_eq, n_cl, n_in, nI_add, pk_mul, n_div, n_sub, nm_mod]
    exact inner T2 b1 b2)
  have st : nI n - nI 1 = (if 0 < n then nI (n - 1 - 0) else -1) := by
    by_cases q : 0 < n
    · rw [if_pos q, n_sub (by omega)]
      rfl
    · rw [if_neg q, show n = 0 by omega]
      decide
  simp (disch := first | assumption | omega) only [cl_7, r_7_0, r_7_1, r_7_2, r_7_3, r_7_6, r_7_7, r_7_8, r_7_11, r_7_12, r_7_15, r_7_16, r_7_17, r_7_18, r_7_19, r_7_22, r_7_23, r_7_24, r_7_25, r_7_27, r_7_28, r_7_29, r_7_30, r_7_31, r_7_34, r_7_35, r_7_36, r_7_37, r_7_38, r_7_40, r_7_43, r_7_44, r_7_47, r_7_48, r_7_49, r_7_50, r_7_51, r_7_52, r_7_53, r_7_54, r_7_55, r_7_56, r_7_57, r_7_60, r_7_61, r_7_65, r_7_66, r_7_69, r_7_70, r_7_71, r_7_74, r_7_75, r_7_76, r_7_77, r_7_79, r_7_80, r_7_81, r_7_83, r_7_86, r_7_89, r_7_92, r_7_95, r_7_98, r_7_101, f_add, f_mul, f_sub, o_bi, o_cgt, o_get, o_go, o_ial, o_ias, o_inc, o_ivv, o_lda, o_ldi, o_lt, o_pi, o_rv, o_sti, acR_nx, acR_re, acR_ca, acR_no, acR_if, Kc_i, Kc_n, a_lg, a_ls, a_kl, a_pk, a_sw, cw_n, cw_i, cw_l, cw_r, List.length_cons, List.length_nil, List.getElem?_cons_succ, List.getElem?_cons_zero, ↓reduceIte, decide_true, decide_false, Bool.false_eq_true, or_true, true_or, or_false, false_or, or_self, and_true, true_and, not_true_eq_false, not_false_eq_true, Nat.reduceEqDiff, Nat.reduceLT, Nat.reduceLeDiff, Nat.reduceAdd, Nat.reduceSub, Nat.reduceMul, Nat.reduceDiv, Nat.reduceMod, Nat.zero_add, Nat.add_zero, n_z, n_1, n_lt, n_in, n_cl, ly_23, ly_28, sc_1, s2, h28]
  refine c_clearCosts hs hn σ T _ (fun T2 b1 b2 => ?_)
  simp (disch := first | assumption | omega) only [r_7_0, r_7_1, r_7_2, r_7_3, r_7_6, r_7_7, r_7_8, r_7_11, r_7_12, r_7_15, r_7_16, r_7_17, r_7_18, r_7_19, r_7_22, r_7_23, r_7_24, r_7_25, r_7_27, r_7_28, r_7_29, r_7_30, r_7_31, r_7_34, r_7_35, r_7_36, r_7_37, r_7_38, r_7_40, r_7_43, r_7_44, r_7_47, r_7_48, r_7_49, r_7_50, r_7_51, r_7_52, r_7_53, r_7_54, r_7_55, r_7_56, r_7_57, r_7_60, r_7_61, r_7_65, r_7_66, r_7_69, r_7_70, r_7_71, r_7_74, r_7_75, r_7_76, r_7_77, r_7_79, r_7_80, r_7_81, r_7_83, r_7_86, r_7_89, r_7_92, r_7_95, r_7_98, r_7_101, f_add, f_mul, f_sub, o_bi, o_cgt, o_get, o_go, o_ial, o_ias, o_inc, o_ivv, o_lda, o_ldi, o_lt, o_pi, o_rv, o_sti, acR_nx, acR_re, acR_ca, acR_no, acR_if, Kc_i, Kc_n, a_lg, a_ls, a_kl, a_pk, a_sw, cw_n, cw_i, cw_l, cw_r, List.length_cons, List.length_nil, List.getElem?_cons_succ, List.getElem?_cons_zero, ↓reduceIte, decide_true, decide_false, Bool.false_eq_true, or_true, true_or, or_false, false_or, or_self, and_true, true_and, not_true_eq_false, not_false_eq_true, Nat.reduceEqDiff, Nat.reduceLT, Nat.reduceLeDiff, Nat.reduceAdd, Nat.reduceSub, Nat.reduceMul, Nat.reduceDiv, Nat.reduceMod, Nat.zero_add, Nat.add_zero, n_z, n_1, n_lt, n_in, n_cl, pk_mul, nI_add, ly_23, ly_28, ly_32, sc_1, s2, h28, ib0, wi_sc, sc_sc, st]
  refine key _ _ _ (fun i l a b c => ?_) (fun j hj => ?_)
  · have ie : i = n := by omega
    have dn := dL_n f L l
    rw [hnn] at dn
    rw [ie, ud_1, dn]
    by_cases q : l = 0
    · rw [if_pos (by omega), if_pos q]
    · rw [if_neg (by omega), if_neg q]; exact b1 l c
  · rw [ud_1, if_neg (by omega)]; exact b2 j (by omega)
