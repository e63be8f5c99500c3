/-! forget, reading, part, of, clause, laws, count, digest -/
theorem c_forget (σ : a_HP) (Q : Option Value → a_HP → Prop) : Cl 73 [.ref 0] σ Q = Q (some (.int (σ.1 8 0))) (a_wi σ 8 0 (nI 0)) := by
  simp (disch := first | assumption | omega) only [cl_73, r_73_0, r_73_1, r_73_4, r_73_7, r_73_8, r_73_9, r_73_12, r_73_13, r_73_16, r_73_17, o_get, o_lda, o_ldi, o_pi, o_put, o_ri, o_sti, acR_nx, acR_re, acR_ca, acR_no, acR_if, Kc_i, Kc_n, a_lg, a_ls, a_kl, a_pk, a_sw, cw_n, cw_i, cw_l, cw_r, List.length_cons, List.length_nil, List.getElem?_cons_succ, List.getElem?_cons_zero, ↓reduceIte, decide_true, decide_false, Bool.false_eq_true, or_true, true_or, or_false, false_or, or_self, and_true, true_and, not_true_eq_false, not_false_eq_true, Nat.reduceEqDiff, Nat.reduceLT, Nat.reduceLeDiff, Nat.reduceAdd, Nat.reduceSub, Nat.reduceMul, Nat.reduceDiv, Nat.reduceMod, Nat.zero_add, Nat.add_zero, n_z, n_1, n_ltz, n_zlt, n_lt, n_eq, n_cl, n_in, nI_add, pk_mul, n_div, n_sub, nm_mod, ly_0, ly_8]
theorem m_forget (σ : a_HP) (Q : Option Value → a_HP → Prop) : Cl 185 [.ref 61] σ Q = Q (some (.int (σ.1 62 61))) (a_wi σ 62 61 (nI 0)) := by
  simp (disch := first | assumption | omega) only [cl_185, r_185_0, r_185_1, r_185_3, r_185_4, r_185_7, o_ivv, o_lda, o_pi, o_ri, acR_nx, acR_re, acR_ca, acR_no, acR_if, Kc_i, Kc_n, a_lg, a_ls, a_kl, a_pk, a_sw, cw_n, cw_i, cw_l, cw_r, List.length_cons, List.length_nil, List.getElem?_cons_succ, List.getElem?_cons_zero, ↓reduceIte, decide_true, decide_false, Bool.false_eq_true, or_true, true_or, or_false, false_or, or_self, and_true, true_and, not_true_eq_false, not_false_eq_true, Nat.reduceEqDiff, Nat.reduceLT, Nat.reduceLeDiff, Nat.reduceAdd, Nat.reduceSub, Nat.reduceMul, Nat.reduceDiv, Nat.reduceMod, Nat.zero_add, Nat.add_zero, n_z, n_1, n_ltz, n_zlt, n_lt, n_eq, n_cl, n_in, nI_add, pk_mul, n_div, n_sub, nm_mod, ly_61, m_becomes]
theorem pr_forget {N : Nat} {σ : a_HP} (h : Inv N σ) : Pair N 73 185 [] σ := by
  unfold Pair
  obtain ⟨⟨e, w, hp, ⟨n, hn, hf, ho, hr⟩⟩, a2, a3, a4, a5, a6⟩ := Inv_N (Nat.le_succ N) h
  rw [c_forget, m_forget]
  refine ⟨⟨_, rfl, congrArg (fun z => some (Value.int z)) (hf.trans ho.symm)⟩, ⟨eN_f e (fun j hj => ?_), vN_f w (fun j hj => ?_), pP_f hp (fun j hj => ?_), ⟨0, by omega, rfl, rfl, fun i hi => by omega⟩⟩, a2, a3, a4, a5, a6⟩
  · show upd (σ.1 62) 61 (nI 0) j = σ.1 62 j
    rw [ud_1, if_neg (by omega)]
  · show upd (σ.1 62) 61 (nI 0) j = σ.1 62 j
    rw [ud_1, if_neg (by omega)]
  · show upd (σ.1 62) 61 (nI 0) j = σ.1 62 j
    rw [ud_1, if_neg (by omega)]
theorem c_reading_bad {s r v : Int32} (h : (s < nI 1 ∨ nI 9 < s) ∨ (r < nI 0 ∨ nI 1 < r) ∨ (v < nI 0 ∨ nI 30 < v)) (σ : a_HP) (Q : Option Value → a_HP → Prop) : Cl 72 [.ref 0, .int s, .int r, .int v] σ Q = Q (some (.int (-2))) (a_wi σ 17 0 (σ.1 17 0 + nI 1)) := by
  simp (disch := first | assumption | omega) only [cl_72, r_72_0, r_72_1, r_72_2, r_72_4, r_72_7, r_72_10, r_72_11, r_72_12, r_72_13, r_72_16, r_72_19, r_72_20, r_72_21, r_72_23, r_72_26, r_72_29, r_72_30, r_72_33, r_72_34, r_72_35, r_72_38, r_72_41, r_72_43, r_72_46, r_72_47, r_72_50, r_72_51, r_72_52, r_72_55, r_72_56, r_72_57, r_72_58, r_72_61, r_72_62, r_72_65, r_72_68, o_clt, o_eq, o_get, o_ivs, o_ivv, o_lda, o_ldi, o_ne, o_pi, o_ri, acR_nx, acR_re, acR_ca, acR_no, acR_if, Kc_i, Kc_n, a_lg, a_ls, a_kl, a_pk, a_sw, cw_n, cw_i, cw_l, cw_r, List.length_cons, List.length_nil, List.getElem?_cons_succ, List.getElem?_cons_zero, ↓reduceIte, decide_true, decide_false, Bool.false_eq_true, or_true, true_or, or_false, false_or, or_self, and_true, true_and, not_true_eq_false, not_false_eq_true, Nat.reduceEqDiff, Nat.reduceLT, Nat.reduceLeDiff, Nat.reduceAdd, Nat.reduceSub, Nat.reduceMul, Nat.reduceDiv, Nat.reduceMod, Nat.zero_add, Nat.add_zero, n_z, n_1, n_ltz, n_zlt, n_lt, n_eq, n_cl, n_in, nI_add, pk_mul, n_div, n_sub, nm_mod, ly_0, ly_8, c_within, c_bad]
  by_cases h1 : s < nI 1 ∨ nI 9 < s
  · rw [if_pos h1]
  · rw [if_neg h1]
    by_cases h2 : r < nI 0 ∨ nI 1 < r
    · rw [if_pos h2]
    · rw [if_neg h2, if_pos ((h.resolve_left h1).resolve_left h2)]
theorem m_reading_bad {s r v : Int32} (h : (s < nI 1 ∨ nI 9 < s) ∨ (r < nI 0 ∨ nI 1 < r) ∨ (v < nI 0 ∨ nI 30 < v)) (σ : a_HP) (Q : Option Value → a_HP → Prop) : Cl 184 [.ref 61, .int s, .int r, .int v] σ Q = Q (some (.int (-2))) (a_wi σ 68 0 (σ.1 68 0 + nI 1)) := by
  simp (disch := first | assumption | omega) only [cl_184, r_184_0, r_184_1, r_184_2, r_184_3, r_184_6, r_184_9, r_184_12, r_184_13, r_184_16, r_184_19, r_184_20, r_184_21, r_184_22, r_184_25, r_184_28, r_184_31, r_184_32, r_184_35, r_184_36, r_184_37, r_184_40, r_184_42, r_184_43, r_184_45, r_184_48, r_184_49, r_184_52, r_184_53, r_184_55, r_184_56, r_184_57, r_184_60, r_184_62, r_184_63, r_184_64, r_184_65, r_184_67, r_184_68, r_184_71, r_184_73, r_184_74, r_184_75, r_184_76, r_184_79, r_184_81, r_184_82, r_184_83, r_184_84, r_184_85, r_184_86, r_184_89, r_184_91, r_184_92, r_184_93, r_184_94, r_184_95, r_184_96, r_184_99, r_184_101, r_184_102, r_184_103, r_184_104, r_184_105, r_184_106, r_184_107, r_184_110, r_184_112, r_184_113, f_add, f_mul, o_bi, o_cne, o_dup2, o_eq, o_get, o_i2l, o_ial, o_ias, o_ivs, o_ivv, o_lda, o_ldi, o_ne, o_pi, o_pl, o_ri, o_sti, acR_nx, acR_re, acR_ca, acR_no, acR_if, Kc_i, Kc_n, a_lg, a_ls, a_kl, a_pk, a_sw, cw_n, cw_i, cw_l, cw_r, List.length_cons, List.length_nil, List.getElem?_cons_succ, List.getElem?_cons_zero, ↓reduceIte, decide_true, decide_false, Bool.false_eq_true, or_true, true_or, or_false, false_or, or_self, and_true, true_and, not_true_eq_false, not_false_eq_true, Nat.reduceEqDiff, Nat.reduceLT, Nat.reduceLeDiff, Nat.reduceAdd, Nat.reduceSub, Nat.reduceMul, Nat.reduceDiv, Nat.reduceMod, Nat.zero_add, Nat.add_zero, n_z, n_1, n_ltz, n_zlt, n_lt, n_eq, n_cl, n_in, nI_add, pk_mul, n_div, n_sub, nm_mod, ly_61, m_in, l_lt, l_gt, m_isTwo, m_bad]
  by_cases h1 : s < nI 1 ∨ nI 9 < s
  · rw [if_pos h1]
  · rw [if_neg h1]
    by_cases h2 : r < nI 0 ∨ nI 1 < r
    · rw [if_pos h2]
    · rw [if_neg h2, if_pos ((h.resolve_left h1).resolve_left h2)]
theorem c_reading_full {s r v : Int32} (h1 : ¬ (s < nI 1 ∨ nI 9 < s)) (h2 : ¬ (r < nI 0 ∨ nI 1 < r)) (h3 : ¬ (v < nI 0 ∨ nI 30 < v)) (σ : a_HP) (hz : σ.1 8 0 = nI 6) (Q : Option Value → a_HP → Prop) : Cl 72 [.ref 0, .int s, .int r, .int v] σ Q = Q (some (.int (-4))) (a_wi σ 17 2 (σ.1 17 2 + nI 1)) := by
  simp (disch := first | assumption | omega) only [cl_72, r_72_0, r_72_1, r_72_2, r_72_4, r_72_7, r_72_10, r_72_11, r_72_12, r_72_13, r_72_16, r_72_19, r_72_20, r_72_21, r_72_23, r_72_26, r_72_29, r_72_30, r_72_33, r_72_34, r_72_35, r_72_38, r_72_41, r_72_43, r_72_46, r_72_47, r_72_50, r_72_51, r_72_52, r_72_55, r_72_56, r_72_57, r_72_58, r_72_61, r_72_62, r_72_65, r_72_68, o_clt, o_eq, o_get, o_ivs, o_ivv, o_lda, o_ldi, o_ne, o_pi, o_ri, acR_nx, acR_re, acR_ca, acR_no, acR_if, Kc_i, Kc_n, a_lg, a_ls, a_kl, a_pk, a_sw, cw_n, cw_i, cw_l, cw_r, List.length_cons, List.length_nil, List.getElem?_cons_succ, List.getElem?_cons_zero, ↓reduceIte, decide_true, decide_false, Bool.false_eq_true, or_true, true_or, or_false, false_or, or_self, and_true, true_and, not_true_eq_false, not_false_eq_true, Nat.reduceEqDiff, Nat.reduceLT, Nat.reduceLeDiff, Nat.reduceAdd, Nat.reduceSub, Nat.reduceMul, Nat.reduceDiv, Nat.reduceMod, Nat.zero_add, Nat.add_zero, n_z, n_1, n_lt, ly_0, ly_8, c_within, h1, h2, h3, hz, c_full, Nat.lt_irrefl]
theorem m_reading_full {s r v : Int32} (h1 : ¬ (s < nI 1 ∨ nI 9 < s)) (h2 : ¬ (r < nI 0 ∨ nI 1 < r)) (h3 : ¬ (v < nI 0 ∨ nI 30 < v)) (σ : a_HP) (hz : σ.1 62 61 = nI 6) (Q : Option Value → a_HP → Prop) : Cl 184 [.ref 61, .int s, .int r, .int v] σ Q = Q (some (.int (-4))) (a_wi σ 68 2 (σ.1 68 2 + nI 1)) := by
  simp (disch := first | assumption | omega) only [cl_184, r_184_0, r_184_1, r_184_2, r_184_3, r_184_6, r_184_9, r_184_12, r_184_13, r_184_16, r_184_19, r_184_20, r_184_21, r_184_22, r_184_25, r_184_28, r_184_31, r_184_32, r_184_35, r_184_36, r_184_37, r_184_40, r_184_42, r_184_43, r_184_45, r_184_48, r_184_49, r_184_52, r_184_53, r_184_55, r_184_56, r_184_57, r_184_60, r_184_62, r_184_63, r_184_64, r_184_65, r_184_67, r_184_68, r_184_71, r_184_73, r_184_74, r_184_75, r_184_76, r_184_79, r_184_81, r_184_82, r_184_83, r_184_84, r_184_85, r_184_86, r_184_89, r_184_91, r_184_92, r_184_93, r_184_94, r_184_95, r_184_96, r_184_99, r_184_101, r_184_102, r_184_103, r_184_104, r_184_105, r_184_106, r_184_107, r_184_110, r_184_112, r_184_113, f_add, f_mul, o_bi, o_cne, o_dup2, o_eq, o_get, o_i2l, o_ial, o_ias, o_ivs, o_ivv, o_lda, o_ldi, o_ne, o_pi, o_pl, o_ri, o_sti, acR_nx, acR_re, acR_ca, acR_no, acR_if, Kc_i, Kc_n, a_lg, a_ls, a_kl, a_pk, a_sw, cw_n, cw_i, cw_l, cw_r, List.length_cons, List.length_nil, List.getElem?_cons_succ, List.getElem?_cons_zero, ↓reduceIte, decide_true, decide_false, Bool.false_eq_true, or_true, true_or, or_false, false_or, or_self, and_true, true_and, not_true_eq_false, not_false_eq_true, Nat.reduceEqDiff, Nat.reduceLT, Nat.reduceLeDiff, Nat.reduceAdd, Nat.reduceSub, Nat.reduceMul, Nat.reduceDiv, Nat.reduceMod, Nat.zero_add, Nat.add_zero, n_z, n_1, n_in, n_cl, n_eq, ly_61, ly_62, m_in, l_lt, l_gt, m_isTwo, h1, h2, h3, hz, m_full]
theorem c_rappend {n : Nat} (hn : n < 6) (s r v : Int32) (σ : a_HP) (hz : σ.1 8 0 = nI n) (Q : Option Value → a_HP → Prop) : Cl 32 [.ref 8, .int s, .int r, .int v] σ Q = Q none (a_wi (a_wi (a_wi (a_wi σ 9 n s) 10 n r) 11 n v) 8 0 (nI (n + 1))) := by
  simp (disch := first | assumption | omega) only [cl_32, r_32_0, r_32_1, r_32_4, r_32_6, r_32_9, r_32_10, r_32_11, r_32_14, r_32_15, r_32_18, r_32_19, r_32_20, r_32_21, r_32_24, r_32_25, r_32_28, r_32_29, r_32_30, r_32_31, r_32_34, r_32_35, r_32_38, r_32_39, r_32_40, r_32_41, r_32_42, r_32_45, r_32_46, r_32_47, r_32_50, f_add, o_bi, o_clt, o_dup, o_get, o_ias, o_lda, o_ldi, o_pi, o_put, o_rv, acR_nx, acR_re, acR_ca, acR_no, acR_if, Kc_i, Kc_n, a_lg, a_ls, a_kl, a_pk, a_sw, cw_n, cw_i, cw_l, cw_r, List.length_cons, List.length_nil, List.getElem?_cons_succ, List.getElem?_cons_zero, ↓reduceIte, decide_true, decide_false, Bool.false_eq_true, or_true, true_or, or_false, false_or, or_self, and_true, true_and, not_true_eq_false, not_false_eq_true, Nat.reduceEqDiff, Nat.reduceLT, Nat.reduceLeDiff, Nat.reduceAdd, Nat.reduceSub, Nat.reduceMul, Nat.reduceDiv, Nat.reduceMod, Nat.zero_add, Nat.add_zero, n_z, n_1, n_ltz, n_zlt, n_lt, n_eq, n_cl, n_in, nI_add, pk_mul, n_div, n_sub, nm_mod, ly_8, ly_9, ly_10, ly_11, hz, hn, sc_1, wi_sc]
theorem c_reading {n : Nat} (hn : n < 6) {s r v : Int32} (h1 : ¬ (s < nI 1 ∨ nI 9 < s)) (h2 : ¬ (r < nI 0 ∨ nI 1 < r)) (h3 : ¬ (v < nI 0 ∨ nI 30 < v)) (σ : a_HP) (hz : σ.1 8 0 = nI n) (Q : Option Value → a_HP → Prop) : Cl 72 [.ref 0, .int s, .int r, .int v] σ Q = Q (some (.int (nI (n + 1)))) (a_wi (a_wi (a_wi (a_wi σ 9 n s) 10 n r) 11 n v) 8 0 (nI (n + 1))) := by
  have e : (a_wi (a_wi (a_wi (a_wi σ 9 n s) 10 n r) 11 n v) 8 0 (nI (n + 1))).1 8 0 = nI (n + 1) := rfl
  simp (disch := first | assumption | omega) only [cl_72, r_72_0, r_72_1, r_72_2, r_72_4, r_72_7, r_72_10, r_72_11, r_72_12, r_72_13, r_72_16, r_72_19, r_72_20, r_72_21, r_72_23, r_72_26, r_72_29, r_72_30, r_72_33, r_72_34, r_72_35, r_72_38, r_72_41, r_72_43, r_72_46, r_72_47, r_72_50, r_72_51, r_72_52, r_72_55, r_72_56, r_72_57, r_72_58, r_72_61, r_72_62, r_72_65, r_72_68, o_clt, o_eq, o_get, o_ivs, o_ivv, o_lda, o_ldi, o_ne, o_pi, o_ri, acR_nx, acR_re, acR_ca, acR_no, acR_if, Kc_i, Kc_n, a_lg, a_ls, a_kl, a_pk, a_sw, cw_n, cw_i, cw_l, cw_r, List.length_cons, List.length_nil, List.getElem?_cons_succ, List.getElem?_cons_zero, ↓reduceIte, decide_true, decide_false, Bool.false_eq_true, or_true, true_or, or_false, false_or, or_self, and_true, true_and, not_true_eq_false, not_false_eq_true, Nat.reduceEqDiff, Nat.reduceLT, Nat.reduceLeDiff, Nat.reduceAdd, Nat.reduceSub, Nat.reduceMul, Nat.reduceDiv, Nat.reduceMod, Nat.zero_add, Nat.add_zero, n_z, n_1, n_lt, ly_0, ly_8, c_within, h1, h2, h3, hz, hn, c_rappend hn, e]
theorem m_reading {n : Nat} (hn : n < 6) {s r v : Int32} (h1 : ¬ (s < nI 1 ∨ nI 9 < s)) (h2 : ¬ (r < nI 0 ∨ nI 1 < r)) (h3 : ¬ (v < nI 0 ∨ nI 30 < v)) (σ : a_HP) (hz : σ.1 62 61 = nI n) (Q : Option Value → a_HP → Prop) : Cl 184 [.ref 61, .int s, .int r, .int v] σ Q = Q (some (.int (nI (n + 1)))) (a_sc σ 62 (upd (upd (upd (upd (σ.1 62) (62 + 3 * n) s) (62 + 3 * n + 1) r) (62 + 3 * n + 2) v) 61 (nI (n + 1)))) := by
  have g0 : ¬ n = 6 := by omega
  have g1 : 62 + 3 * n < 481 := by omega
  have g2 : 62 + 3 * n + 1 < 481 := by omega
  have g3 : 62 + 3 * n + 2 < 481 := by omega
  have u : upd (upd (upd (σ.1 62) (62 + 3 * n) s) (62 + 3 * n + 1) r) (62 + 3 * n + 2) v 61 = nI n := by simp only [ud_1]; rw [if_neg (by omega), if_neg (by omega), if_neg (by omega)]; exact hz
  have u2 : ∀ f : Nat → Int32, upd f 61 (nI (n + 1)) 61 = nI (n + 1) := fun f => by rw [ud_1, if_pos rfl]
  simp (disch := first | assumption | omega) only [cl_184, r_184_0, r_184_1, r_184_2, r_184_3, r_184_6, r_184_9, r_184_12, r_184_13, r_184_16, r_184_19, r_184_20, r_184_21, r_184_22, r_184_25, r_184_28, r_184_31, r_184_32, r_184_35, r_184_36, r_184_37, r_184_40, r_184_42, r_184_43, r_184_45, r_184_48, r_184_49, r_184_52, r_184_53, r_184_55, r_184_56, r_184_57, r_184_60, r_184_62, r_184_63, r_184_64, r_184_65, r_184_67, r_184_68, r_184_71, r_184_73, r_184_74, r_184_75, r_184_76, r_184_79, r_184_81, r_184_82, r_184_83, r_184_84, r_184_85, r_184_86, r_184_89, r_184_91, r_184_92, r_184_93, r_184_94, r_184_95, r_184_96, r_184_99, r_184_101, r_184_102, r_184_103, r_184_104, r_184_105, r_184_106, r_184_107, r_184_110, r_184_112, r_184_113, f_add, f_mul, o_bi, o_cne, o_dup2, o_eq, o_get, o_i2l, o_ial, o_ias, o_ivs, o_ivv, o_lda, o_ldi, o_ne, o_pi, o_pl, o_ri, o_sti, acR_nx, acR_re, acR_ca, acR_no, acR_if, Kc_i, Kc_n, a_lg, a_ls, a_kl, a_pk, a_sw, cw_n, cw_i, cw_l, cw_r, List.length_cons, List.length_nil, List.getElem?_cons_succ, List.getElem?_cons_zero, ↓reduceIte, decide_true, decide_false, Bool.false_eq_true, or_true, true_or, or_false, false_or, or_self, and_true, true_and, not_true_eq_false, not_false_eq_true, Nat.reduceEqDiff, Nat.reduceLT, Nat.reduceLeDiff, Nat.reduceAdd, Nat.reduceSub, Nat.reduceMul, Nat.reduceDiv, Nat.reduceMod, Nat.zero_add, Nat.add_zero, n_z, n_1, n_in, n_cl, n_eq, nI_add, pk_mul, ly_61, ly_62, m_in, l_lt, l_gt, m_isTwo, h1, h2, h3, hz, g0, g1, g2, g3, sc_1, sc_sc, wi_sc, u, u2]
theorem pr_reading {N : Nat} {σ : a_HP} (h : Inv N σ) (s r v : Int32) : Pair N 72 184 [.int s, .int r, .int v] σ := by
  unfold Pair
  by_cases hc : (s < nI 1 ∨ nI 9 < s) ∨ (r < nI 0 ∨ nI 1 < r) ∨ (v < nI 0 ∨ nI 30 < v)
  · rw [c_reading_bad hc, m_reading_bad hc]
    exact ⟨⟨_, rfl, rfl⟩, Inv_ref h (by omega)⟩
  · have h1 : ¬ (s < nI 1 ∨ nI 9 < s) := fun q => hc (Or.inl q)
    have h2 : ¬ (r < nI 0 ∨ nI 1 < r) := fun q => hc (Or.inr (Or.inl q))
    have h3 : ¬ (v < nI 0 ∨ nI 30 < v) := fun q => hc (Or.inr (Or.inr q))
    obtain ⟨⟨e, w, hp, ⟨n, hn, hf, ho, hr⟩⟩, a2, a3, a4, a5, a6⟩ := Inv_N (Nat.le_succ N) h
    by_cases h6 : n = 6
    · subst h6
      rw [c_reading_full h1 h2 h3 σ ho, m_reading_full h1 h2 h3 (a_wi σ 17 2 (σ.1 17 2 + nI 1)) hf]
      exact ⟨⟨_, rfl, rfl⟩, Inv_ref h (by omega)⟩
    · have hn6 : n < 6 := by omega
      rw [c_reading hn6 h1 h2 h3 σ ho, m_reading hn6 h1 h2 h3 (a_wi (a_wi (a_wi (a_wi σ 9 n s) 10 n r) 11 n v) 8 0 (nI (n + 1))) hf]
      obtain ⟨sd, s1, s2, rfl⟩ := rng (by omega) (by omega) h1
      obtain ⟨rd, r1, r2, rfl⟩ := rng (by omega) (by omega) h2
      obtain ⟨vd, v1, v2, rfl⟩ := rng (by omega) (by omega) h3
      generalize hF : upd (upd (upd (upd (σ.1 62) (62 + 3 * n) (nI sd)) (62 + 3 * n + 1) (nI rd)) (62 + 3 * n + 2) (nI vd)) 61 (nI (n + 1)) = F
      have Fo : ∀ j, j ≠ 61 → ¬ (62 + 3 * n ≤ j ∧ j < 62 + 3 * n + 3) → F j = σ.1 62 j := by
        intro j q1 q2
        rw [← hF]
        simp only [ud_1]
        rw [if_neg q1, if_neg (by omega), if_neg (by omega), if_neg (by omega)]
      refine ⟨⟨_, rfl, rfl⟩, ⟨eN_f e (fun j hj => ?_), vN_f w (fun j hj => ?_), pP_f hp (fun j hj => ?_), ⟨n + 1, by omega, ?_, rfl, fun i hi => ?_⟩⟩, a2, a3, a4, a5, a6⟩
      · show upd (upd (upd (upd (σ.1 62) (62 + 3 * n) (nI sd)) (62 + 3 * n + 1) (nI rd)) (62 + 3 * n + 2) (nI vd)) 61 (nI (n + 1)) j = σ.1 62 j
        rw [hF]; exact Fo j (by omega) (by omega)
      · show upd (upd (upd (upd (σ.1 62) (62 + 3 * n) (nI sd)) (62 + 3 * n + 1) (nI rd)) (62 + 3 * n + 2) (nI vd)) 61 (nI (n + 1)) j = σ.1 62 j
        rw [hF]; exact Fo j (by omega) (by omega)
      · show upd (upd (upd (upd (σ.1 62) (62 + 3 * n) (nI sd)) (62 + 3 * n + 1) (nI rd)) (62 + 3 * n + 2) (nI vd)) 61 (nI (n + 1)) j = σ.1 62 j
        rw [hF]; exact Fo j (by omega) (by omega)
      · show upd (upd (upd (upd (σ.1 62) (62 + 3 * n) (nI sd)) (62 + 3 * n + 1) (nI rd)) (62 + 3 * n + 2) (nI vd)) 61 (nI (n + 1)) 61 = nI (n + 1)
        rw [ud_1, if_pos rfl]
      · show (upd (σ.1 9) n (nI sd) i = upd (upd (upd (upd (σ.1 62) (62 + 3 * n) (nI sd)) (62 + 3 * n + 1) (nI rd)) (62 + 3 * n + 2) (nI vd)) 61 (nI (n + 1)) (62 + 3 * i) ∧ upd (σ.1 10) n (nI rd) i = upd (upd (upd (upd (σ.1 62) (62 + 3 * n) (nI sd)) (62 + 3 * n + 1) (nI rd)) (62 + 3 * n + 2) (nI vd)) 61 (nI (n + 1)) (63 + 3 * i) ∧ upd (σ.1 11) n (nI vd) i = upd (upd (upd (upd (σ.1 62) (62 + 3 * n) (nI sd)) (62 + 3 * n + 1) (nI rd)) (62 + 3 * n + 2) (nI vd)) 61 (nI (n + 1)) (64 + 3 * i)) ∧ _
        have F1 : F (62 + 3 * n) = nI sd := by rw [← hF]; simp only [ud_1]; rw [if_neg (by omega), if_neg (by omega), if_neg (by omega), if_pos trivial]
        have F2 : F (63 + 3 * n) = nI rd := by rw [← hF]; simp only [ud_1]; rw [if_neg (by omega), if_neg (by omega), if_pos (by omega)]
        have F3 : F (64 + 3 * n) = nI vd := by rw [← hF]; simp only [ud_1]; rw [if_neg (by omega), if_pos (by omega)]
        rw [hF]
        simp only [ud_1]
        by_cases q : i = n
        · subst q
          rw [if_pos rfl, if_pos rfl, if_pos rfl, F1, F2, F3]
          refine ⟨⟨rfl, rfl, rfl⟩, ?_⟩
          show (∃ d : Nat, 1 ≤ d ∧ d ≤ 9 ∧ upd (upd (upd (upd (σ.1 62) (62 + 3 * i) (nI sd)) (62 + 3 * i + 1) (nI rd)) (62 + 3 * i + 2) (nI vd)) 61 (nI (i + 1)) (62 + 3 * i) = nI d) ∧ (upd (upd (upd (upd (σ.1 62) (62 + 3 * i) (nI sd)) (62 + 3 * i + 1) (nI rd)) (62 + 3 * i + 2) (nI vd)) 61 (nI (i + 1)) (63 + 3 * i) = nI 0 ∨ upd (upd (upd (upd (σ.1 62) (62 + 3 * i) (nI sd)) (62 + 3 * i + 1) (nI rd)) (62 + 3 * i + 2) (nI vd)) 61 (nI (i + 1)) (63 + 3 * i) = nI 1) ∧ ∃ d : Nat, d ≤ 30 ∧ upd (upd (upd (upd (σ.1 62) (62 + 3 * i) (nI sd)) (62 + 3 * i + 1) (nI rd)) (62 + 3 * i + 2) (nI vd)) 61 (nI (i + 1)) (64 + 3 * i) = nI d
          rw [hF, F1, F2, F3]
          refine ⟨⟨sd, s1, s2, rfl⟩, ?_, ⟨vd, v2, rfl⟩⟩
          rcases (show rd = 0 ∨ rd = 1 by omega) with rfl | rfl
          · exact Or.inl rfl
          · exact Or.inr rfl
        · rw [if_neg q, if_neg q, if_neg q, Fo _ (by omega) (by omega), Fo _ (by omega) (by omega), Fo _ (by omega) (by omega)]
          have := hr i (by omega)
          refine ⟨this.1, ?_⟩
          show (∃ d : Nat, 1 ≤ d ∧ d ≤ 9 ∧ upd (upd (upd (upd (σ.1 62) (62 + 3 * n) (nI sd)) (62 + 3 * n + 1) (nI rd)) (62 + 3 * n + 2) (nI vd)) 61 (nI (n + 1)) (62 + 3 * i) = nI d) ∧ (upd (upd (upd (upd (σ.1 62) (62 + 3 * n) (nI sd)) (62 + 3 * n + 1) (nI rd)) (62 + 3 * n + 2) (nI vd)) 61 (nI (n + 1)) (63 + 3 * i) = nI 0 ∨ upd (upd (upd (upd (σ.1 62) (62 + 3 * n) (nI sd)) (62 + 3 * n + 1) (nI rd)) (62 + 3 * n + 2) (nI vd)) 61 (nI (n + 1)) (63 + 3 * i) = nI 1) ∧ ∃ d : Nat, d ≤ 30 ∧ upd (upd (upd (upd (σ.1 62) (62 + 3 * n) (nI sd)) (62 + 3 * n + 1) (nI rd)) (62 + 3 * n + 2) (nI vd)) 61 (nI (n + 1)) (64 + 3 * i) = nI d
          rw [hF, Fo _ (by omega) (by omega), Fo _ (by omega) (by omega), Fo _ (by omega) (by omega)]
          exact this.2
