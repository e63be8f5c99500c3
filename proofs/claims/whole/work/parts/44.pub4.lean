/-! mend, night, undo -/
theorem c_mend_bad {k n : Int32} (h : (k < nI 0 ∨ nI 15 < k) ∨ (n < nI 1 ∨ nI 9 < n)) (σ : a_HP) (Q : Option Value → a_HP → Prop) : Cl 57 [.ref 0, .int k, .int n] σ Q = Q (some (.int (-2))) (a_wi σ 17 0 (σ.1 17 0 + nI 1)) := by
  simp (disch := first | assumption | omega) only [cl_57, r_57_0, r_57_1, r_57_4, r_57_7, r_57_8, r_57_9, r_57_11, r_57_14, r_57_17, r_57_18, r_57_21, r_57_22, r_57_23, r_57_26, r_57_27, r_57_30, r_57_33, r_57_34, r_57_37, r_57_40, r_57_41, r_57_42, r_57_43, r_57_44, r_57_46, r_57_49, r_57_50, r_57_51, r_57_54, r_57_57, r_57_60, r_57_61, r_57_64, r_57_65, r_57_66, r_57_69, r_57_70, r_57_73, r_57_76, r_57_77, r_57_80, r_57_83, r_57_84, r_57_85, r_57_86, r_57_87, r_57_88, r_57_89, r_57_90, r_57_93, r_57_94, r_57_97, r_57_98, r_57_99, r_57_102, r_57_103, r_57_106, r_57_109, r_57_110, r_57_111, f_add, f_sub, o_bi, o_cgt, o_cle, o_dup, o_dup2, o_eq, o_get, o_ial, o_ias, o_ivs, o_ivv, o_lda, o_ldi, o_ne, o_pi, o_put, o_ri, acR_nx, acR_re, acR_ca, acR_no, acR_if, Kc_i, Kc_n, a_lg, a_ls, a_kl, a_pk, a_sw, cw_n, cw_i, cw_l, cw_r, List.length_cons, List.length_nil, List.getElem?_cons_succ, List.getElem?_cons_zero, ↓reduceIte, decide_true, decide_false, Bool.false_eq_true, or_true, true_or, or_false, false_or, or_self, and_true, true_and, not_true_eq_false, not_false_eq_true, Nat.reduceEqDiff, Nat.reduceLT, Nat.reduceLeDiff, Nat.reduceAdd, Nat.reduceSub, Nat.reduceMul, Nat.reduceDiv, Nat.reduceMod, Nat.zero_add, Nat.add_zero, n_z, n_1, n_ltz, n_zlt, n_lt, n_eq, n_cl, n_in, nI_add, pk_mul, n_div, n_sub, nm_mod, ly_0, ly_1, c_isKnot, c_within, c_bad]
  by_cases h1 : k < nI 0 ∨ nI 15 < k
  · rw [if_pos h1]
  · rw [if_neg h1, if_pos (h.resolve_left h1)]
theorem m_mend_bad {k n : Int32} (h : (k < nI 0 ∨ nI 15 < k) ∨ (n < nI 1 ∨ nI 9 < n)) (σ : a_HP) (Q : Option Value → a_HP → Prop) : Cl 154 [.ref 61, .int k, .int n] σ Q = Q (some (.int (-2))) (a_wi σ 68 0 (σ.1 68 0 + nI 1)) := by
  simp (disch := first | assumption | omega) only [cl_154, r_154_0, r_154_1, r_154_4, r_154_7, r_154_8, r_154_9, r_154_10, r_154_13, r_154_16, r_154_19, r_154_20, r_154_23, r_154_24, r_154_25, r_154_28, r_154_30, r_154_31, r_154_32, r_154_33, r_154_34, r_154_35, r_154_38, r_154_39, r_154_40, r_154_41, r_154_43, r_154_46, r_154_47, r_154_50, r_154_51, r_154_52, r_154_53, r_154_56, r_154_57, r_154_59, r_154_62, r_154_63, r_154_64, r_154_67, r_154_68, r_154_71, r_154_73, r_154_74, r_154_75, r_154_76, r_154_77, r_154_78, r_154_79, r_154_80, r_154_81, r_154_84, r_154_85, r_154_86, r_154_87, r_154_88, r_154_89, r_154_90, r_154_91, r_154_92, r_154_93, f_add, f_sub, o_bi, o_cge, o_cgt, o_dup2, o_eq, o_get, o_i2l, o_ial, o_ias, o_ivs, o_ivv, o_lda, o_ldi, o_ne, o_pi, o_pl, o_ri, o_sti, acR_nx, acR_re, acR_ca, acR_no, acR_if, Kc_i, Kc_n, a_lg, a_ls, a_kl, a_pk, a_sw, cw_n, cw_i, cw_l, cw_r, List.length_cons, List.length_nil, List.getElem?_cons_succ, List.getElem?_cons_zero, ↓reduceIte, decide_true, decide_false, Bool.false_eq_true, or_true, true_or, or_false, false_or, or_self, and_true, true_and, not_true_eq_false, not_false_eq_true, Nat.reduceEqDiff, Nat.reduceLT, Nat.reduceLeDiff, Nat.reduceAdd, Nat.reduceSub, Nat.reduceMul, Nat.reduceDiv, Nat.reduceMod, Nat.zero_add, Nat.add_zero, n_z, n_1, n_ltz, n_zlt, n_lt, n_eq, n_cl, n_in, nI_add, pk_mul, n_div, n_sub, nm_mod, ly_61, m_isKnot, m_in, l_lt, l_gt, m_bad]
  by_cases h1 : k < nI 0 ∨ nI 15 < k
  · rw [if_pos h1]
  · rw [if_neg h1, if_pos (h.resolve_left h1)]
theorem me_ok {n : Nat} (h1 : 1 ≤ n) (h2 : n ≤ 9) : ¬ (nI n < nI 1 ∨ nI 9 < nI n) := by rw [n_lt (by omega) (by omega), n_lt (by omega) (by omega)]; omega
theorem c_mend_no {k n : Nat} (hk : k < 16) (n1 : 1 ≤ n) (n2 : n ≤ 9) (σ : a_HP) (h : σ.1 3 k = 0 ∨ nI 9 < σ.1 3 k + nI n ∨ σ.1 1 1 < nI n) (Q : Option Value → a_HP → Prop) : Cl 57 [.ref 0, .int (nI k), .int (nI n)] σ Q = Q (some (.int (-3))) (a_wi σ 17 1 (σ.1 17 1 + nI 1)) := by
  have h1 := kn_ok hk
  have h2 := me_ok n1 n2
  simp (disch := first | assumption | omega) only [cl_57, r_57_0, r_57_1, r_57_4, r_57_7, r_57_8, r_57_9, r_57_11, r_57_14, r_57_17, r_57_18, r_57_21, r_57_22, r_57_23, r_57_26, r_57_27, r_57_30, r_57_33, r_57_34, r_57_37, r_57_40, r_57_41, r_57_42, r_57_43, r_57_44, r_57_46, r_57_49, r_57_50, r_57_51, r_57_54, r_57_57, r_57_60, r_57_61, r_57_64, r_57_65, r_57_66, r_57_69, r_57_70, r_57_73, r_57_76, r_57_77, r_57_80, r_57_83, r_57_84, r_57_85, r_57_86, r_57_87, r_57_88, r_57_89, r_57_90, r_57_93, r_57_94, r_57_97, r_57_98, r_57_99, r_57_102, r_57_103, r_57_106, r_57_109, r_57_110, r_57_111, f_add, f_sub, o_bi, o_cgt, o_cle, o_dup, o_dup2, o_eq, o_get, o_ial, o_ias, o_ivs, o_ivv, o_lda, o_ldi, o_ne, o_pi, o_put, o_ri, acR_nx, acR_re, acR_ca, acR_no, acR_if, Kc_i, Kc_n, a_lg, a_ls, a_kl, a_pk, a_sw, cw_n, cw_i, cw_l, cw_r, List.length_cons, List.length_nil, List.getElem?_cons_succ, List.getElem?_cons_zero, ↓reduceIte, decide_true, decide_false, Bool.false_eq_true, or_true, true_or, or_false, false_or, or_self, and_true, true_and, not_true_eq_false, not_false_eq_true, Nat.reduceEqDiff, Nat.reduceLT, Nat.reduceLeDiff, Nat.reduceAdd, Nat.reduceSub, Nat.reduceMul, Nat.reduceDiv, Nat.reduceMod, Nat.zero_add, Nat.add_zero, n_z, n_1, n_cl, n_in, ly_0, ly_1, ly_3, ly_6, c_isKnot, c_within, h1, h2, hk, c_isHole aN_1, c_no]
  by_cases q1 : σ.1 3 k = 0
  · rw [if_pos q1]
  · rw [if_neg q1]
    by_cases q2 : nI 9 < σ.1 3 k + nI n
    · rw [if_pos q2]
    · rw [if_neg q2, if_pos ((h.resolve_left q1).resolve_left q2)]
theorem m_mend_no {k n : Nat} (hk : k < 16) (n1 : 1 ≤ n) (n2 : n ≤ 9) (σ : a_HP) (h : σ.1 62 (20 + k) = 0 ∨ nI 9 < σ.1 62 (20 + k) + nI n ∨ σ.1 62 1 < nI n) (Q : Option Value → a_HP → Prop) : Cl 154 [.ref 61, .int (nI k), .int (nI n)] σ Q = Q (some (.int (-3))) (a_wi σ 68 1 (σ.1 68 1 + nI 1)) := by
  have h1 := kn_ok hk
  have h2 := me_ok n1 n2
  have e : 20 + k < 481 := by omega
  simp (disch := first | assumption | omega) only [cl_154, r_154_0, r_154_1, r_154_4, r_154_7, r_154_8, r_154_9, r_154_10, r_154_13, r_154_16, r_154_19, r_154_20, r_154_23, r_154_24, r_154_25, r_154_28, r_154_30, r_154_31, r_154_32, r_154_33, r_154_34, r_154_35, r_154_38, r_154_39, r_154_40, r_154_41, r_154_43, r_154_46, r_154_47, r_154_50, r_154_51, r_154_52, r_154_53, r_154_56, r_154_57, r_154_59, r_154_62, r_154_63, r_154_64, r_154_67, r_154_68, r_154_71, r_154_73, r_154_74, r_154_75, r_154_76, r_154_77, r_154_78, r_154_79, r_154_80, r_154_81, r_154_84, r_154_85, r_154_86, r_154_87, r_154_88, r_154_89, r_154_90, r_154_91, r_154_92, r_154_93, f_add, f_sub, o_bi, o_cge, o_cgt, o_dup2, o_eq, o_get, o_i2l, o_ial, o_ias, o_ivs, o_ivv, o_lda, o_ldi, o_ne, o_pi, o_pl, o_ri, o_sti, acR_nx, acR_re, acR_ca, acR_no, acR_if, Kc_i, Kc_n, a_lg, a_ls, a_kl, a_pk, a_sw, cw_n, cw_i, cw_l, cw_r, List.length_cons, List.length_nil, List.getElem?_cons_succ, List.getElem?_cons_zero, ↓reduceIte, decide_true, decide_false, Bool.false_eq_true, or_true, true_or, or_false, false_or, or_self, and_true, true_and, not_true_eq_false, not_false_eq_true, Nat.reduceEqDiff, Nat.reduceLT, Nat.reduceLeDiff, Nat.reduceAdd, Nat.reduceSub, Nat.reduceMul, Nat.reduceDiv, Nat.reduceMod, Nat.zero_add, Nat.add_zero, n_z, n_1, n_cl, n_in, nI_add, ly_61, ly_62, m_isKnot, m_in, l_lt, l_gt, h1, h2, e, m_noAs]
  by_cases q1 : σ.1 62 (20 + k) = 0
  · rw [if_pos q1]
  · rw [if_neg q1]
    by_cases q2 : nI 9 < σ.1 62 (20 + k) + nI n
    · rw [if_pos q2]
    · rw [if_neg q2, if_pos ((h.resolve_left q1).resolve_left q2)]
theorem c_mend {k n : Nat} (hk : k < 16) (n1 : 1 ≤ n) (n2 : n ≤ 9) (σ : a_HP) (g1 : ¬ σ.1 3 k = 0) (g2 : ¬ nI 9 < σ.1 3 k + nI n) (g3 : ¬ σ.1 1 1 < nI n) {pr' : Nat → Int32} {m : Nat} (hkp : ∀ Q, Cl 29 [.ref 6, .ref 1] σ Q = Q none (a_wi (a_sc σ 7 pr') 6 0 (nI m))) (Q : Option Value → a_HP → Prop) : Cl 57 [.ref 0, .int (nI k), .int (nI n)] σ Q = Q (some (.int (σ.1 3 k + nI n))) (a_sc (a_sc (a_wi (a_sc σ 7 pr') 6 0 (nI m)) 3 (upd (σ.1 3) k (σ.1 3 k + nI n))) 1 (upd (σ.1 1) 1 (σ.1 1 1 - nI n))) := by
  have h1 := kn_ok hk
  have h2 := me_ok n1 n2
  have u : upd (σ.1 3) k (σ.1 3 k + nI n) k = σ.1 3 k + nI n := by rw [ud_1, if_pos rfl]
  simp (disch := first | assumption | omega) only [cl_57, r_57_0, r_57_1, r_57_4, r_57_7, r_57_8, r_57_9, r_57_11, r_57_14, r_57_17, r_57_18, r_57_21, r_57_22, r_57_23, r_57_26, r_57_27, r_57_30, r_57_33, r_57_34, r_57_37, r_57_40, r_57_41, r_57_42, r_57_43, r_57_44, r_57_46, r_57_49, r_57_50, r_57_51, r_57_54, r_57_57, r_57_60, r_57_61, r_57_64, r_57_65, r_57_66, r_57_69, r_57_70, r_57_73, r_57_76, r_57_77, r_57_80, r_57_83, r_57_84, r_57_85, r_57_86, r_57_87, r_57_88, r_57_89, r_57_90, r_57_93, r_57_94, r_57_97, r_57_98, r_57_99, r_57_102, r_57_103, r_57_106, r_57_109, r_57_110, r_57_111, f_add, f_sub, o_bi, o_cgt, o_cle, o_dup, o_dup2, o_eq, o_get, o_ial, o_ias, o_ivs, o_ivv, o_lda, o_ldi, o_ne, o_pi, o_put, o_ri, acR_nx, acR_re, acR_ca, acR_no, acR_if, Kc_i, Kc_n, a_lg, a_ls, a_kl, a_pk, a_sw, cw_n, cw_i, cw_l, cw_r, List.length_cons, List.length_nil, List.getElem?_cons_succ, List.getElem?_cons_zero, ↓reduceIte, decide_true, decide_false, Bool.false_eq_true, or_true, true_or, or_false, false_or, or_self, and_true, true_and, not_true_eq_false, not_false_eq_true, Nat.reduceEqDiff, Nat.reduceLT, Nat.reduceLeDiff, Nat.reduceAdd, Nat.reduceSub, Nat.reduceMul, Nat.reduceDiv, Nat.reduceMod, Nat.zero_add, Nat.add_zero, n_z, n_1, n_cl, n_in, ly_0, ly_1, ly_3, ly_6, c_isKnot, c_within, h1, h2, hk, c_isHole aN_1, g1, g2, g3, hkp, sc_1, wi_sc, u]
theorem m_mend {k n : Nat} (hk : k < 16) (n1 : 1 ≤ n) (n2 : n ≤ 9) (σ : a_HP) (g1 : ¬ σ.1 62 (20 + k) = 0) (g2 : ¬ nI 9 < σ.1 62 (20 + k) + nI n) (g3 : ¬ σ.1 62 1 < nI n) {f' : Nat → Int32} (hkp : ∀ Q, Cl 150 [.ref 61] σ Q = Q none (a_sc σ 62 f')) (Q : Option Value → a_HP → Prop) : Cl 154 [.ref 61, .int (nI k), .int (nI n)] σ Q = Q (some (.int (σ.1 62 (20 + k) + nI n))) (a_sc σ 62 (upd (upd f' (20 + k) (f' (20 + k) + nI n)) 1 (f' 1 - nI n))) := by
  have h1 := kn_ok hk
  have h2 := me_ok n1 n2
  have e : 20 + k < 481 := by omega
  have u : upd f' (20 + k) (f' (20 + k) + nI n) 1 = f' 1 := by rw [ud_1, if_neg (by omega)]
  simp (disch := first | assumption | omega) only [cl_154, r_154_0, r_154_1, r_154_4, r_154_7, r_154_8, r_154_9, r_154_10, r_154_13, r_154_16, r_154_19, r_154_20, r_154_23, r_154_24, r_154_25, r_154_28, r_154_30, r_154_31, r_154_32, r_154_33, r_154_34, r_154_35, r_154_38, r_154_39, r_154_40, r_154_41, r_154_43, r_154_46, r_154_47, r_154_50, r_154_51, r_154_52, r_154_53, r_154_56, r_154_57, r_154_59, r_154_62, r_154_63, r_154_64, r_154_67, r_154_68, r_154_71, r_154_73, r_154_74, r_154_75, r_154_76, r_154_77, r_154_78, r_154_79, r_154_80, r_154_81, r_154_84, r_154_85, r_154_86, r_154_87, r_154_88, r_154_89, r_154_90, r_154_91, r_154_92, r_154_93, f_add, f_sub, o_bi, o_cge, o_cgt, o_dup2, o_eq, o_get, o_i2l, o_ial, o_ias, o_ivs, o_ivv, o_lda, o_ldi, o_ne, o_pi, o_pl, o_ri, o_sti, acR_nx, acR_re, acR_ca, acR_no, acR_if, Kc_i, Kc_n, a_lg, a_ls, a_kl, a_pk, a_sw, cw_n, cw_i, cw_l, cw_r, List.length_cons, List.length_nil, List.getElem?_cons_succ, List.getElem?_cons_zero, ↓reduceIte, decide_true, decide_false, Bool.false_eq_true, or_true, true_or, or_false, false_or, or_self, and_true, true_and, not_true_eq_false, not_false_eq_true, Nat.reduceEqDiff, Nat.reduceLT, Nat.reduceLeDiff, Nat.reduceAdd, Nat.reduceSub, Nat.reduceMul, Nat.reduceDiv, Nat.reduceMod, Nat.zero_add, Nat.add_zero, n_z, n_1, n_cl, n_in, nI_add, ly_61, ly_62, m_isKnot, m_in, l_lt, l_gt, h1, h2, e, g1, g2, g3, hkp, sc_1, sc_sc, wi_sc, u]
theorem pr_mend {N : Nat} {σ : a_HP} (h : Inv N σ) (k n : Int32) : Pair N 57 154 [.int k, .int n] σ := by
  unfold Pair
  by_cases hc : (k < nI 0 ∨ nI 15 < k) ∨ (n < nI 1 ∨ nI 9 < n)
  · rw [c_mend_bad hc, m_mend_bad hc]
    exact ⟨⟨_, rfl, rfl⟩, Inv_ref h (by omega)⟩
  · obtain ⟨k, -, k2, rfl⟩ := rng (by omega) (by omega) (fun q => hc (Or.inl q))
    obtain ⟨n, n1, n2, rfl⟩ := rng (by omega) (by omega) (fun q => hc (Or.inr q))
    obtain ⟨pr', f', m, h1, h2, h3, h4⟩ := keep_ex (Inv_N (Nat.le_succ N) h)
    obtain ⟨⟨e, w, hp, hr⟩, a2, a3, a4, a5, a6⟩ := Inv_N (Nat.le_succ N) h
    have hk : k < 16 := by omega
    have es : σ.1 3 k = σ.1 62 (20 + k) := (e.2.1 k hk).2.1
    have et : σ.1 1 1 = σ.1 62 1 := e.1 1 (by omega)
    by_cases hn : σ.1 62 (20 + k) = 0 ∨ nI 9 < σ.1 62 (20 + k) + nI n ∨ σ.1 62 1 < nI n
    · rw [c_mend_no hk n1 n2 σ (by rw [es, et]; exact hn), m_mend_no hk n1 n2 (a_wi σ 17 1 (σ.1 17 1 + nI 1)) hn]
      exact ⟨⟨_, rfl, rfl⟩, Inv_ref h (by omega)⟩
    · have g1 : ¬ σ.1 62 (20 + k) = 0 := fun q => hn (Or.inl q)
      have g2 : ¬ nI 9 < σ.1 62 (20 + k) + nI n := fun q => hn (Or.inr (Or.inl q))
      have g3 : ¬ σ.1 62 1 < nI n := fun q => hn (Or.inr (Or.inr q))
      rw [c_mend hk n1 n2 σ (by rw [es]; exact g1) (by rw [es]; exact g2) (by rw [et]; exact g3) h1, m_mend hk n1 n2 (a_sc (a_sc (a_wi (a_sc σ 7 pr') 6 0 (nI m)) 3 (upd (σ.1 3) k (σ.1 3 k + nI n))) 1 (upd (σ.1 1) 1 (σ.1 1 1 - nI n))) g1 g2 g3 (h2 _ rfl)]
      have e' := eN_f e (fun j hj => h3 j (by omega))
      have w' := vN_f w (fun j hj => h3 j (by omega))
      obtain ⟨sd, sd2, sde⟩ := (w.2.2.2.2.1 k hk).2.1
      obtain ⟨td, td2, tde⟩ := w.2.1
      have f20 : f' (20 + k) = σ.1 62 (20 + k) := h3 _ (by omega)
      have f1 : f' 1 = σ.1 62 1 := h3 _ (by omega)
      rw [sde, nI_add, n_lt (by omega) (by omega)] at g2
      rw [tde, n_lt (by omega) (by omega)] at g3
      have E := eN_t (eN_s e' hk (σ.1 3 k + nI n)) (σ.1 1 1 - nI n)
      have V := vN_t (vN_s w' hk (s := σ.1 3 k + nI n) ⟨sd + n, by omega, by rw [es, sde, nI_add]⟩) (t := σ.1 1 1 - nI n) ⟨td - n, by omega, by rw [et, tde, n_sub (by omega)]⟩
      have ff : upd (upd f' (20 + k) (f' (20 + k) + nI n)) 1 (f' 1 - nI n) = upd (upd f' (20 + k) (σ.1 3 k + nI n)) 1 (σ.1 1 1 - nI n) := by rw [f20, f1, es, et]
      refine ⟨⟨_, rfl, ?_⟩, ?_, a2, a3, a4, a5, a6⟩
      · exact congrArg (fun z => some (Value.int (z + nI n))) es.symm
      · rw [ff]
        refine ⟨E, V, pP_f h4 (fun j hj => ?_), pR_f hr (fun j hj hj2 => ?_)⟩
        · show upd (upd f' (20 + k) (σ.1 3 k + nI n)) 1 (σ.1 1 1 - nI n) j = f' j
          simp only [ud_1]; rw [if_neg (by omega), if_neg (by omega)]
        · show upd (upd f' (20 + k) (σ.1 3 k + nI n)) 1 (σ.1 1 1 - nI n) j = σ.1 62 j
          simp only [ud_1]; rw [if_neg (by omega), if_neg (by omega)]; exact h3 j (by omega)
/-! night -/
theorem pN_ok {h n : Int32} {kd st : Nat → Int32} {k : Nat} (hs : ∃ d : Nat, d ≤ 9 ∧ st k = nI d) : ∃ d : Nat, d ≤ 9 ∧ pN h n kd st k = nI d := by
  obtain ⟨r, hr, er⟩ := kR_ok (kd k) n
  have hlt := rot_lt hs (kR_ok (kd k) n)
  obtain ⟨d, hd, e⟩ := hs
  unfold pN
  by_cases c1 : h >>> (nI k &&& 31) &&& nI 1 = 0
  · rw [if_pos c1]; exact ⟨d, hd, e⟩
  · rw [if_neg c1]
    by_cases c2 : st k = 0
    · rw [if_pos c2]; exact ⟨d, hd, e⟩
    · rw [if_neg c2]
      by_cases c3 : nI 0 < st k - kR (kd k) n
      · rw [if_pos c3]
        rw [hlt, e, er, n_lt (by omega) (by omega)] at c3
        exact ⟨d - r, by omega, by rw [e, er, n_sub (by omega)]⟩
      · rw [if_neg c3]; exact ⟨0, by omega, rfl⟩
theorem c_night (σ : a_HP) {pr' : Nat → Int32} {m : Nat} (hkp : ∀ Q, Cl 29 [.ref 6, .ref 1] σ Q = Q none (a_wi (a_sc σ 7 pr') 6 0 (nI m))) (Q : Option Value → a_HP → Prop) : Cl 59 [.ref 0] σ Q = Q (some (.int (pNh (σ.1 1 2) (σ.1 1 3) (σ.1 2) (σ.1 3) 16))) (a_sc (a_sc (a_wi (a_sc σ 7 pr') 6 0 (nI m)) 3 (fun k => if k < 16 then pN (σ.1 1 2) (σ.1 1 3) (σ.1 2) (σ.1 3) k else σ.1 3 k)) 1 (upd (σ.1 1) 3 (σ.1 1 3 + nI 1))) := by
  simp (disch := first | assumption | omega) only [cl_59, r_59_0, r_59_1, r_59_4, r_59_5, r_59_8, r_59_11, r_59_12, r_59_15, r_59_18, o_get, o_ivv, o_lda, o_ri, acR_nx, acR_re, acR_ca, acR_no, acR_if, Kc_i, Kc_n, a_lg, a_ls, a_kl, a_pk, a_sw, cw_n, cw_i, cw_l, cw_r, List.length_cons, List.length_nil, List.getElem?_cons_succ, List.getElem?_cons_zero, ↓reduceIte, decide_true, decide_false, Bool.false_eq_true, or_true, true_or, or_false, false_or, or_self, and_true, true_and, not_true_eq_false, not_false_eq_true, Nat.reduceEqDiff, Nat.reduceLT, Nat.reduceLeDiff, Nat.reduceAdd, Nat.reduceSub, Nat.reduceMul, Nat.reduceDiv, Nat.reduceMod, Nat.zero_add, Nat.add_zero, n_z, n_1, n_cl, n_in, ly_0, ly_1, ly_6, hkp, c_passNight aN_1, sc_1, wi_sc]
theorem m_night {N : Nat} (hN : N < 2147483648) (σ : a_HP) {f' : Nat → Int32} (hv : vN N f') (hkp : ∀ Q, Cl 150 [.ref 61] σ Q = Q none (a_sc σ 62 f')) (Q : Option Value → a_HP → Prop) : Cl 157 [.ref 61] σ Q = Q (some (.int (pNh (f' 2) (f' 3) (fun j => f' (4 + j)) (fun j => f' (20 + j)) 16))) (a_sc σ 62 (upd (fun j => if 20 ≤ j ∧ j < 36 then pN (f' 2) (f' 3) (fun j => f' (4 + j)) (fun j => f' (20 + j)) (j - 20) else f' j) 3 (f' 3 + nI 1))) := by
  obtain ⟨n, hn, en⟩ := hv.2.2.2.1
  have g := m_nightGoes aT_62 (a_sc σ 62 f') (vKn_of hv) (n := n) (by omega) en
  simp (disch := first | assumption | omega) only [cl_157, r_157_0, r_157_1, r_157_4, r_157_5, r_157_8, r_157_11, o_get, o_ivs, o_ivv, o_lda, o_ri, acR_nx, acR_re, acR_ca, acR_no, acR_if, Kc_i, Kc_n, a_lg, a_ls, a_kl, a_pk, a_sw, cw_n, cw_i, cw_l, cw_r, List.length_cons, List.length_nil, List.getElem?_cons_succ, List.getElem?_cons_zero, ↓reduceIte, decide_true, decide_false, Bool.false_eq_true, or_true, true_or, or_false, false_or, or_self, and_true, true_and, not_true_eq_false, not_false_eq_true, Nat.reduceEqDiff, Nat.reduceLT, Nat.reduceLeDiff, Nat.reduceAdd, Nat.reduceSub, Nat.reduceMul, Nat.reduceDiv, Nat.reduceMod, Nat.zero_add, Nat.add_zero, n_z, n_1, n_cl, n_in, ly_61, ly_62, hkp, g, sc_1, sc_sc]
theorem pr_night {N : Nat} (hN : N < 1000000) {σ : a_HP} (h : Inv N σ) : Pair N 59 157 [] σ := by
  unfold Pair
  obtain ⟨pr', f', m, h1, h2, h3, h4⟩ := keep_ex h
  obtain ⟨-, a2, a3, a4, a5, a6⟩ := Inv_N (Nat.le_succ N) h
  obtain ⟨⟨e, w, hp, hr⟩, -⟩ := h
  have e' := eN_f e (fun j hj => h3 j (by omega))
  have w' := vN_f w (fun j hj => h3 j (by omega))
  rw [c_night σ h1, m_night (N := N) (by omega) (a_sc (a_sc (a_wi (a_sc σ 7 pr') 6 0 (nI m)) 3 (fun k => if k < 16 then pN (σ.1 1 2) (σ.1 1 3) (σ.1 2) (σ.1 3) k else σ.1 3 k)) 1 (upd (σ.1 1) 3 (σ.1 1 3 + nI 1))) w' (h2 _ rfl)]
  have q1 : ∀ k, k < 16 → σ.1 2 k = f' (4 + k) := fun k hk => (e'.2.1 k hk).1
  have q2 : ∀ k, k < 16 → σ.1 3 k = f' (20 + k) := fun k hk => (e'.2.1 k hk).2.1
  refine ⟨⟨_, rfl, ?_⟩, ⟨⟨fun j hj => ?_, fun k hk => ?_, fun c hc => ?_⟩, ?_, pP_f (pP_N (Nat.le_succ N) h4) (fun j hj => ?_), pR_f hr (fun j hj hj2 => ?_)⟩, a2, a3, a4, a5, a6⟩
  · exact congrArg (fun z => some (Value.int z)) (pNh_c (e'.1 2 (by omega)).symm (e'.1 3 (by omega)).symm (fun k hk => (q1 k hk).symm) (fun k hk => (q2 k hk).symm) 16 (by omega))
  · show upd (σ.1 1) 3 (σ.1 1 3 + nI 1) j = upd (fun j => if 20 ≤ j ∧ j < 36 then pN (f' 2) (f' 3) (fun j => f' (4 + j)) (fun j => f' (20 + j)) (j - 20) else f' j) 3 (f' 3 + nI 1) j
    simp only [ud_1]
    by_cases q : j = 3
    · rw [if_pos q, if_pos q, e'.1 3 (by omega)]
    · rw [if_neg q, if_neg q, if_neg (by omega)]; exact e'.1 j hj
  · show σ.1 2 k = upd (fun j => if 20 ≤ j ∧ j < 36 then pN (f' 2) (f' 3) (fun j => f' (4 + j)) (fun j => f' (20 + j)) (j - 20) else f' j) 3 (f' 3 + nI 1) (4 + k) ∧ (if k < 16 then pN (σ.1 1 2) (σ.1 1 3) (σ.1 2) (σ.1 3) k else σ.1 3 k) = upd (fun j => if 20 ≤ j ∧ j < 36 then pN (f' 2) (f' 3) (fun j => f' (4 + j)) (fun j => f' (20 + j)) (j - 20) else f' j) 3 (f' 3 + nI 1) (20 + k) ∧ σ.1 4 k = upd (fun j => if 20 ≤ j ∧ j < 36 then pN (f' 2) (f' 3) (fun j => f' (4 + j)) (fun j => f' (20 + j)) (j - 20) else f' j) 3 (f' 3 + nI 1) (36 + k)
    simp only [ud_1]
    refine ⟨?_, ?_, ?_⟩
    · rw [if_neg (by omega), if_neg (by omega)]; exact q1 k hk
    · rw [if_pos hk, if_neg (by omega), if_pos (by omega), show 20 + k - 20 = k by omega]
      exact pN_c (e'.1 2 (by omega)) (e'.1 3 (by omega)) q1 q2 hk
    · rw [if_neg (by omega), if_neg (by omega)]; exact (e'.2.1 k hk).2.2
  · show σ.1 5 c = upd (fun j => if 20 ≤ j ∧ j < 36 then pN (f' 2) (f' 3) (fun j => f' (4 + j)) (fun j => f' (20 + j)) (j - 20) else f' j) 3 (f' 3 + nI 1) (52 + c)
    simp only [ud_1]
    rw [if_neg (by omega), if_neg (by omega)]; exact e'.2.2 c hc
  · show vN (N + 1) (upd (fun j => if 20 ≤ j ∧ j < 36 then pN (f' 2) (f' 3) (fun j => f' (4 + j)) (fun j => f' (20 + j)) (j - 20) else f' j) 3 (f' 3 + nI 1))
    obtain ⟨g0, g1, g2, ⟨n, hn, en⟩, g4, g5⟩ := w'
    refine ⟨?_, ?_, ?_, ⟨n + 1, by omega, ?_⟩, fun k hk => ?_, fun c hc => ?_⟩
    · simp only [ud_1]; rw [if_neg (by omega), if_neg (by omega)]; exact g0
    · simp only [ud_1]; rw [if_neg (by omega), if_neg (by omega)]; exact g1
    · simp only [ud_1]; rw [if_neg (by omega), if_neg (by omega)]; exact g2
    · rw [ud_1, if_pos rfl, en, nI_add]
    · simp only [ud_1]
      rw [if_neg (show ¬ 4 + k = 3 by omega), if_neg (show ¬ (20 ≤ 4 + k ∧ 4 + k < 36) by omega), if_neg (show ¬ 20 + k = 3 by omega), if_pos (show 20 ≤ 20 + k ∧ 20 + k < 36 by omega), if_neg (show ¬ 36 + k = 3 by omega), if_neg (show ¬ (20 ≤ 36 + k ∧ 36 + k < 36) by omega)]
      refine ⟨(g4 k hk).1, ?_, (g4 k hk).2.2⟩
      rw [show 20 + k - 20 = k by omega]
      exact pN_ok (g4 k hk).2.1
    · simp only [ud_1]; rw [if_neg (by omega), if_neg (by omega)]; exact g5 c hc
  · show upd (fun j => if 20 ≤ j ∧ j < 36 then pN (f' 2) (f' 3) (fun j => f' (4 + j)) (fun j => f' (20 + j)) (j - 20) else f' j) 3 (f' 3 + nI 1) j = f' j
    simp only [ud_1]; rw [if_neg (by omega), if_neg (by omega)]
  · show upd (fun j => if 20 ≤ j ∧ j < 36 then pN (f' 2) (f' 3) (fun j => f' (4 + j)) (fun j => f' (20 + j)) (j - 20) else f' j) 3 (f' 3 + nI 1) j = σ.1 62 j
    simp only [ud_1]; rw [if_neg (by omega), if_neg (by omega)]; exact h3 j (by omega)
