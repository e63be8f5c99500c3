/-! undo, type, clear, status, forget, reading, part, of, clause, laws -/
theorem c_undo_no (σ : a_HP) (h : σ.1 6 0 = nI 0) (Q : Option Value → a_HP → Prop) : Cl 60 [.ref 0] σ Q = Q (some (.int (-3))) (a_wi σ 17 1 (σ.1 17 1 + nI 1)) := by
  simp (disch := first | assumption | omega) only [cl_60, r_60_0, r_60_1, r_60_4, r_60_7, r_60_10, r_60_11, r_60_14, r_60_15, r_60_16, r_60_19, r_60_20, r_60_23, r_60_26, r_60_27, r_60_30, r_60_33, o_get, o_ivv, o_lda, o_ne, o_ri, acR_nx, acR_re, acR_ca, acR_no, acR_if, Kc_i, Kc_n, a_lg, a_ls, a_kl, a_pk, a_sw, cw_n, cw_i, cw_l, cw_r, List.length_cons, List.length_nil, List.getElem?_cons_succ, List.getElem?_cons_zero, ↓reduceIte, decide_true, decide_false, Bool.false_eq_true, or_true, true_or, or_false, false_or, or_self, and_true, true_and, not_true_eq_false, not_false_eq_true, Nat.reduceEqDiff, Nat.reduceLT, Nat.reduceLeDiff, Nat.reduceAdd, Nat.reduceSub, Nat.reduceMul, Nat.reduceDiv, Nat.reduceMod, Nat.zero_add, Nat.add_zero, n_z, n_1, n_cl, n_in, ly_0, ly_6, h, c_no]
theorem m_undo_no (σ : a_HP) (h : σ.1 62 80 = nI 0) (Q : Option Value → a_HP → Prop) : Cl 158 [.ref 61] σ Q = Q (some (.int (-3))) (a_wi σ 68 1 (σ.1 68 1 + nI 1)) := by
  simp (disch := first | assumption | omega) only [cl_158, r_158_0, r_158_1, r_158_4, r_158_6, r_158_7, r_158_10, r_158_11, r_158_13, r_158_16, r_158_17, r_158_18, r_158_21, r_158_23, r_158_24, r_158_25, r_158_26, r_158_27, r_158_28, r_158_30, r_158_32, r_158_33, r_158_36, r_158_38, r_158_39, r_158_40, r_158_41, r_158_42, r_158_43, r_158_46, r_158_47, r_158_48, r_158_51, r_158_52, r_158_54, r_158_57, r_158_58, r_158_61, r_158_62, r_158_63, r_158_66, r_158_67, r_158_69, r_158_70, r_158_71, r_158_72, r_158_73, r_158_76, r_158_77, r_158_78, r_158_81, r_158_82, r_158_84, r_158_85, r_158_86, r_158_87, r_158_88, r_158_91, r_158_92, r_158_93, f_add, f_mul, f_sub, o_bi, o_dup2, o_get, o_ial, o_ias, o_ivs, o_ivv, o_lda, o_ldi, o_ne, o_pi, o_ri, o_sti, acR_nx, acR_re, acR_ca, acR_no, acR_if, Kc_i, Kc_n, a_lg, a_ls, a_kl, a_pk, a_sw, cw_n, cw_i, cw_l, cw_r, List.length_cons, List.length_nil, List.getElem?_cons_succ, List.getElem?_cons_zero, ↓reduceIte, decide_true, decide_false, Bool.false_eq_true, or_true, true_or, or_false, false_or, or_self, and_true, true_and, not_true_eq_false, not_false_eq_true, Nat.reduceEqDiff, Nat.reduceLT, Nat.reduceLeDiff, Nat.reduceAdd, Nat.reduceSub, Nat.reduceMul, Nat.reduceDiv, Nat.reduceMod, Nat.zero_add, Nat.add_zero, n_z, n_1, n_cl, n_in, ly_61, ly_62, h, m_noAs]
theorem c_undo {n : Nat} (hn : n < 8) (σ : a_HP) (h : σ.1 6 0 = nI (n + 1)) (Q : Option Value → a_HP → Prop) : Cl 60 [.ref 0] σ Q = Q (some (.int (σ.1 7 (n * 50 + 48)))) (hBack σ n) := by
  have h0 : ¬ n + 1 = 0 := by omega
  have e : (hBack σ n).1 1 1 = σ.1 7 (n * 50 + 48) := rfl
  simp (disch := first | assumption | omega) only [cl_60, r_60_0, r_60_1, r_60_4, r_60_7, r_60_10, r_60_11, r_60_14, r_60_15, r_60_16, r_60_19, r_60_20, r_60_23, r_60_26, r_60_27, r_60_30, r_60_33, o_get, o_ivv, o_lda, o_ne, o_ri, acR_nx, acR_re, acR_ca, acR_no, acR_if, Kc_i, Kc_n, a_lg, a_ls, a_kl, a_pk, a_sw, cw_n, cw_i, cw_l, cw_r, List.length_cons, List.length_nil, List.getElem?_cons_succ, List.getElem?_cons_zero, ↓reduceIte, decide_true, decide_false, Bool.false_eq_true, or_true, true_or, or_false, false_or, or_self, and_true, true_and, not_true_eq_false, not_false_eq_true, Nat.reduceEqDiff, Nat.reduceLT, Nat.reduceLeDiff, Nat.reduceAdd, Nat.reduceSub, Nat.reduceMul, Nat.reduceDiv, Nat.reduceMod, Nat.zero_add, Nat.add_zero, n_z, n_1, n_cl, n_in, ly_0, ly_1, ly_6, h, h0, c_giveBack hn, e]
theorem pr_undo {N : Nat} {σ : a_HP} (h : Inv N σ) : Pair N 60 158 [] σ := by
  unfold Pair
  obtain ⟨⟨e, w, ⟨n, hn, hf, ho, hrow, hvr⟩, hr⟩, a2, a3, a4, a5, a6⟩ := Inv_N (Nat.le_succ N) h
  cases n with
  | zero =>
    rw [c_undo_no σ ho, m_undo_no (a_wi σ 17 1 (σ.1 17 1 + nI 1)) hf]
    exact ⟨⟨_, rfl, rfl⟩, Inv_ref h (by omega)⟩
  | succ n =>
    rw [c_undo (by omega) σ ho, m_undo (by omega) (hBack σ n) hf]
    have hv := hvr n (by omega)
    have row : ∀ j, j < 50 → σ.1 7 (n * 50 + j) = σ.1 62 (81 + 50 * n + j) := fun j hj => by
      have := hrow (n * 50 + j) (by omega)
      rw [show 81 + (n * 50 + j) = 81 + 50 * n + j by omega] at this
      exact this
    have e62 : (hBack σ n).1 62 = σ.1 62 := rfl
    refine ⟨⟨_, rfl, ?_⟩, ⟨⟨fun j hj => ?_, fun k hk => ?_, fun c hc => ?_⟩, ?_, ⟨n, by omega, rfl, rfl, fun j hj => ?_, fun i hi => ?_⟩, pR_f hr (fun j hj hj2 => ?_)⟩, a2, a3, a4, a5, a6⟩
    · exact congrArg (fun z => some (Value.int z)) (row 48 (by omega)).symm
    · show upd (upd (σ.1 1) 1 (σ.1 7 (n * 50 + 48))) 3 (σ.1 7 (n * 50 + 49)) j = unF (σ.1 62) n j
      simp only [ud_1, unF]
      rcases (show j = 0 ∨ j = 1 ∨ j = 2 ∨ j = 3 by omega) with rfl | rfl | rfl | rfl
      · exact e.1 0 (by omega)
      · exact row 48 (by omega)
      · exact e.1 2 (by omega)
      · exact row 49 (by omega)
    · show (if k < 16 then σ.1 7 (n * 50 + k) else σ.1 2 k) = unF (σ.1 62) n (4 + k) ∧ (if k < 16 then σ.1 7 (n * 50 + 16 + k) else σ.1 3 k) = unF (σ.1 62) n (20 + k) ∧ (if k < 16 then σ.1 7 (n * 50 + 32 + k) else σ.1 4 k) = unF (σ.1 62) n (36 + k)
      unfold unF
      refine ⟨?_, ?_, ?_⟩
      · rw [if_pos hk, if_neg (by omega), if_neg (by omega), if_neg (by omega), if_pos (by omega), show 4 + k - 4 = k by omega]
        exact row k (by omega)
      · rw [if_pos hk, if_neg (by omega), if_neg (by omega), if_neg (by omega), if_pos (by omega), show 20 + k - 4 = 16 + k by omega, show n * 50 + 16 + k = n * 50 + (16 + k) by omega]
        exact row (16 + k) (by omega)
      · rw [if_pos hk, if_neg (by omega), if_neg (by omega), if_neg (by omega), if_pos (by omega), show 36 + k - 4 = 32 + k by omega, show n * 50 + 32 + k = n * 50 + (32 + k) by omega]
        exact row (32 + k) (by omega)
    · show σ.1 5 c = unF (σ.1 62) n (52 + c)
      unfold unF
      rw [if_neg (by omega), if_neg (by omega), if_neg (by omega), if_neg (by omega)]
      exact e.2.2 c hc
    · show vN (N + 1) (unF (σ.1 62) n)
      obtain ⟨g0, g1, g2, g3, g4, g5⟩ := w
      obtain ⟨r1, r2, r3⟩ := hv
      refine ⟨g0, r2, g2, r3, fun k hk => ?_, fun c hc => ?_⟩
      · have := r1 k hk
        unfold unF
        rw [if_neg (show ¬ 4 + k = 80 by omega), if_neg (show ¬ 4 + k = 3 by omega), if_neg (show ¬ 4 + k = 1 by omega), if_pos (show 4 ≤ 4 + k ∧ 4 + k < 52 by omega), if_neg (show ¬ 20 + k = 80 by omega), if_neg (show ¬ 20 + k = 3 by omega), if_neg (show ¬ 20 + k = 1 by omega), if_pos (show 4 ≤ 20 + k ∧ 20 + k < 52 by omega), if_neg (show ¬ 36 + k = 80 by omega), if_neg (show ¬ 36 + k = 3 by omega), if_neg (show ¬ 36 + k = 1 by omega), if_pos (show 4 ≤ 36 + k ∧ 36 + k < 52 by omega), show 4 + k - 4 = k by omega, show 20 + k - 4 = 16 + k by omega, show 36 + k - 4 = 32 + k by omega]
        exact this
      · unfold unF
        rw [if_neg (by omega), if_neg (by omega), if_neg (by omega), if_neg (by omega)]
        exact g5 c hc
    · show σ.1 7 j = unF (σ.1 62) n (81 + j)
      unfold unF
      rw [if_neg (by omega), if_neg (by omega), if_neg (by omega), if_neg (by omega)]
      exact hrow j (by omega)
    · have : (fun j => unF (σ.1 62) n (81 + 50 * i + j)) = (fun j => σ.1 62 (81 + 50 * i + j)) := by
        funext j
        unfold unF
        rw [if_neg (by omega), if_neg (by omega), if_neg (by omega), if_neg (by omega)]
      show vRow (N + 1) (fun j => unF (σ.1 62) n (81 + 50 * i + j))
      rw [this]
      exact hvr i (by omega)
    · show unF (σ.1 62) n j = σ.1 62 j
      unfold unF
      rw [if_neg (by omega), if_neg (by omega), if_neg (by omega), if_neg (by omega)]
/-! type, clear -/
theorem c_type_bad {c : Int32} (h : c < nI 0 ∨ nI 127 < c) (σ : a_HP) (Q : Option Value → a_HP → Prop) : Cl 61 [.ref 0, .int c] σ Q = Q (some (.int (-2))) (a_wi σ 17 0 (σ.1 17 0 + nI 1)) := by
  simp (disch := first | assumption | omega) only [cl_61, r_61_0, r_61_1, r_61_2, r_61_4, r_61_7, r_61_10, r_61_11, r_61_14, r_61_15, r_61_16, r_61_19, r_61_22, r_61_25, r_61_28, r_61_29, r_61_32, r_61_33, r_61_34, r_61_37, r_61_38, r_61_41, r_61_42, r_61_45, r_61_48, o_clt, o_get, o_ivs, o_ivv, o_lda, o_ldi, o_ne, o_pi, o_ri, acR_nx, acR_re, acR_ca, acR_no, acR_if, Kc_i, Kc_n, a_lg, a_ls, a_kl, a_pk, a_sw, cw_n, cw_i, cw_l, cw_r, List.length_cons, List.length_nil, List.getElem?_cons_succ, List.getElem?_cons_zero, ↓reduceIte, decide_true, decide_false, Bool.false_eq_true, or_true, true_or, or_false, false_or, or_self, and_true, true_and, not_true_eq_false, not_false_eq_true, Nat.reduceEqDiff, Nat.reduceLT, Nat.reduceLeDiff, Nat.reduceAdd, Nat.reduceSub, Nat.reduceMul, Nat.reduceDiv, Nat.reduceMod, Nat.zero_add, Nat.add_zero, n_z, n_1, n_ltz, n_zlt, n_lt, n_eq, n_cl, n_in, nI_add, pk_mul, n_div, n_sub, nm_mod, ly_0, ly_13, c_within, h, c_bad]
theorem m_type_bad {c : Int32} (h : c < nI 0 ∨ nI 127 < c) (σ : a_HP) (Q : Option Value → a_HP → Prop) : Cl 159 [.ref 61, .int c] σ Q = Q (some (.int (-2))) (a_wi σ 68 0 (σ.1 68 0 + nI 1)) := by
  simp (disch := first | assumption | omega) only [cl_159, r_159_0, r_159_1, r_159_2, r_159_3, r_159_6, r_159_9, r_159_12, r_159_13, r_159_16, r_159_17, r_159_18, r_159_21, r_159_24, r_159_27, r_159_28, r_159_31, r_159_32, r_159_33, r_159_36, r_159_37, r_159_40, r_159_41, r_159_42, r_159_43, r_159_44, r_159_47, r_159_48, r_159_49, r_159_52, r_159_53, r_159_56, f_add, o_bi, o_cne, o_dup, o_get, o_i2l, o_ias, o_ivs, o_ivv, o_lda, o_ldi, o_ne, o_pi, o_pl, o_put, o_ri, acR_nx, acR_re, acR_ca, acR_no, acR_if, Kc_i, Kc_n, a_lg, a_ls, a_kl, a_pk, a_sw, cw_n, cw_i, cw_l, cw_r, List.length_cons, List.length_nil, List.getElem?_cons_succ, List.getElem?_cons_zero, ↓reduceIte, decide_true, decide_false, Bool.false_eq_true, or_true, true_or, or_false, false_or, or_self, and_true, true_and, not_true_eq_false, not_false_eq_true, Nat.reduceEqDiff, Nat.reduceLT, Nat.reduceLeDiff, Nat.reduceAdd, Nat.reduceSub, Nat.reduceMul, Nat.reduceDiv, Nat.reduceMod, Nat.zero_add, Nat.add_zero, n_z, n_1, n_ltz, n_zlt, n_lt, n_eq, n_cl, n_in, nI_add, pk_mul, n_div, n_sub, nm_mod, ly_61, m_in, l_lt, l_gt, h, m_bad]
theorem by_ok {c : Nat} (h : c ≤ 127) : ¬ (nI c < nI 0 ∨ nI 127 < nI c) := by rw [n_lt (by omega) (by omega), n_lt (by omega) (by omega)]; omega
theorem c_type_full {c : Nat} (h : c ≤ 127) (σ : a_HP) (hz : σ.1 13 0 = nI 150) (Q : Option Value → a_HP → Prop) : Cl 61 [.ref 0, .int (nI c)] σ Q = Q (some (.int (-4))) (a_wi σ 17 2 (σ.1 17 2 + nI 1)) := by
  have h1 : ¬ (c < 0 ∨ 127 < c) := by omega
  simp (disch := first | assumption | omega) only [cl_61, r_61_0, r_61_1, r_61_2, r_61_4, r_61_7, r_61_10, r_61_11, r_61_14, r_61_15, r_61_16, r_61_19, r_61_22, r_61_25, r_61_28, r_61_29, r_61_32, r_61_33, r_61_34, r_61_37, r_61_38, r_61_41, r_61_42, r_61_45, r_61_48, o_clt, o_get, o_ivs, o_ivv, o_lda, o_ldi, o_ne, o_pi, o_ri, acR_nx, acR_re, acR_ca, acR_no, acR_if, Kc_i, Kc_n, a_lg, a_ls, a_kl, a_pk, a_sw, cw_n, cw_i, cw_l, cw_r, List.length_cons, List.length_nil, List.getElem?_cons_succ, List.getElem?_cons_zero, ↓reduceIte, decide_true, decide_false, Bool.false_eq_true, or_true, true_or, or_false, false_or, or_self, and_true, true_and, not_true_eq_false, not_false_eq_true, Nat.reduceEqDiff, Nat.reduceLT, Nat.reduceLeDiff, Nat.reduceAdd, Nat.reduceSub, Nat.reduceMul, Nat.reduceDiv, Nat.reduceMod, Nat.zero_add, Nat.add_zero, n_z, n_1, n_lt, ly_0, ly_13, c_within, h1, hz, c_full, Nat.lt_irrefl]
theorem m_type_full {c : Nat} (h : c ≤ 127) (σ : a_HP) (hz : σ.1 61 6 = nI 150) (Q : Option Value → a_HP → Prop) : Cl 159 [.ref 61, .int (nI c)] σ Q = Q (some (.int (-4))) (a_wi σ 68 2 (σ.1 68 2 + nI 1)) := by
  have h1 := by_ok h
  simp (disch := first | assumption | omega) only [cl_159, r_159_0, r_159_1, r_159_2, r_159_3, r_159_6, r_159_9, r_159_12, r_159_13, r_159_16, r_159_17, r_159_18, r_159_21, r_159_24, r_159_27, r_159_28, r_159_31, r_159_32, r_159_33, r_159_36, r_159_37, r_159_40, r_159_41, r_159_42, r_159_43, r_159_44, r_159_47, r_159_48, r_159_49, r_159_52, r_159_53, r_159_56, f_add, o_bi, o_cne, o_dup, o_get, o_i2l, o_ias, o_ivs, o_ivv, o_lda, o_ldi, o_ne, o_pi, o_pl, o_put, o_ri, acR_nx, acR_re, acR_ca, acR_no, acR_if, Kc_i, Kc_n, a_lg, a_ls, a_kl, a_pk, a_sw, cw_n, cw_i, cw_l, cw_r, List.length_cons, List.length_nil, List.getElem?_cons_succ, List.getElem?_cons_zero, ↓reduceIte, decide_true, decide_false, Bool.false_eq_true, or_true, true_or, or_false, false_or, or_self, and_true, true_and, not_true_eq_false, not_false_eq_true, Nat.reduceEqDiff, Nat.reduceLT, Nat.reduceLeDiff, Nat.reduceAdd, Nat.reduceSub, Nat.reduceMul, Nat.reduceDiv, Nat.reduceMod, Nat.zero_add, Nat.add_zero, n_z, n_1, n_eq, ly_61, m_in, l_lt, l_gt, h1, hz, m_full]
theorem n_i8 {c : Nat} (h : c ≤ 127) : (nI c).toInt8.toInt32 = nI c := by
  have key : ∀ c : Fin 128, (nI c.val).toInt8.toInt32 = nI c.val := by decide +kernel
  exact key ⟨c, by omega⟩
theorem c_append {c z : Nat} (h : c ≤ 127) (hz2 : z < 150) (σ : a_HP) (hz : σ.1 13 0 = nI z) (Q : Option Value → a_HP → Prop) : Cl 40 [.ref 13, .int (nI c)] σ Q = Q none (a_wi (a_wi σ 14 z (nI c)) 13 0 (nI (z + 1))) := by
  simp (disch := first | assumption | omega) only [cl_40, r_40_0, r_40_1, r_40_4, r_40_7, r_40_10, r_40_11, r_40_14, r_40_15, r_40_18, r_40_19, r_40_20, r_40_21, r_40_22, r_40_23, r_40_26, r_40_27, r_40_28, r_40_31, f_add, o_bas, o_bi, o_cge, o_dup, o_get, o_i2b, o_lda, o_ldi, o_pi, o_put, o_rv, acR_nx, acR_re, acR_ca, acR_no, acR_if, Kc_i, Kc_n, a_lg, a_ls, a_kl, a_pk, a_sw, cw_n, cw_i, cw_l, cw_r, List.length_cons, List.length_nil, List.getElem?_cons_succ, List.getElem?_cons_zero, ↓reduceIte, decide_true, decide_false, Bool.false_eq_true, or_true, true_or, or_false, false_or, or_self, and_true, true_and, not_true_eq_false, not_false_eq_true, Nat.reduceEqDiff, Nat.reduceLT, Nat.reduceLeDiff, Nat.reduceAdd, Nat.reduceSub, Nat.reduceMul, Nat.reduceDiv, Nat.reduceMod, Nat.zero_add, Nat.add_zero, n_z, n_1, n_ltz, n_zlt, n_lt, n_eq, n_cl, n_in, nI_add, pk_mul, n_div, n_sub, nm_mod, ly_13, ly_14, hz, hz2, n_i8, sc_1, wi_sc]
theorem c_type {c z : Nat} (h : c ≤ 127) (hz2 : z < 150) (σ : a_HP) (hz : σ.1 13 0 = nI z) (Q : Option Value → a_HP → Prop) : Cl 61 [.ref 0, .int (nI c)] σ Q = Q (some (.int (nI (z + 1)))) (a_wi (a_wi σ 14 z (nI c)) 13 0 (nI (z + 1))) := by
  have h1 : ¬ (c < 0 ∨ 127 < c) := by omega
  have e : (a_wi (a_wi σ 14 z (nI c)) 13 0 (nI (z + 1))).1 13 0 = nI (z + 1) := rfl
  simp (disch := first | assumption | omega) only [cl_61, r_61_0, r_61_1, r_61_2, r_61_4, r_61_7, r_61_10, r_61_11, r_61_14, r_61_15, r_61_16, r_61_19, r_61_22, r_61_25, r_61_28, r_61_29, r_61_32, r_61_33, r_61_34, r_61_37, r_61_38, r_61_41, r_61_42, r_61_45, r_61_48, o_clt, o_get, o_ivs, o_ivv, o_lda, o_ldi, o_ne, o_pi, o_ri, acR_nx, acR_re, acR_ca, acR_no, acR_if, Kc_i, Kc_n, a_lg, a_ls, a_kl, a_pk, a_sw, cw_n, cw_i, cw_l, cw_r, List.length_cons, List.length_nil, List.getElem?_cons_succ, List.getElem?_cons_zero, ↓reduceIte, decide_true, decide_false, Bool.false_eq_true, or_true, true_or, or_false, false_or, or_self, and_true, true_and, not_true_eq_false, not_false_eq_true, Nat.reduceEqDiff, Nat.reduceLT, Nat.reduceLeDiff, Nat.reduceAdd, Nat.reduceSub, Nat.reduceMul, Nat.reduceDiv, Nat.reduceMod, Nat.zero_add, Nat.add_zero, n_z, n_1, n_lt, ly_0, ly_13, c_within, h1, hz, hz2, c_append, e]
theorem m_type {c z : Nat} (h : c ≤ 127) (hz2 : z < 150) (σ : a_HP) (hz : σ.1 61 6 = nI z) (Q : Option Value → a_HP → Prop) : Cl 159 [.ref 61, .int (nI c)] σ Q = Q (some (.int (nI (z + 1)))) (a_wi (a_wi σ 67 z (nI c)) 61 6 (nI (z + 1))) := by
  have h1 := by_ok h
  have h2 : ¬ z = 150 := by omega
  have u : upd (σ.1 61) 6 (nI (z + 1)) 6 = nI (z + 1) := rfl
  simp (disch := first | assumption | omega) only [cl_159, r_159_0, r_159_1, r_159_2, r_159_3, r_159_6, r_159_9, r_159_12, r_159_13, r_159_16, r_159_17, r_159_18, r_159_21, r_159_24, r_159_27, r_159_28, r_159_31, r_159_32, r_159_33, r_159_36, r_159_37, r_159_40, r_159_41, r_159_42, r_159_43, r_159_44, r_159_47, r_159_48, r_159_49, r_159_52, r_159_53, r_159_56, f_add, o_bi, o_cne, o_dup, o_get, o_i2l, o_ias, o_ivs, o_ivv, o_lda, o_ldi, o_ne, o_pi, o_pl, o_put, o_ri, acR_nx, acR_re, acR_ca, acR_no, acR_if, Kc_i, Kc_n, a_lg, a_ls, a_kl, a_pk, a_sw, cw_n, cw_i, cw_l, cw_r, List.length_cons, List.length_nil, List.getElem?_cons_succ, List.getElem?_cons_zero, ↓reduceIte, decide_true, decide_false, Bool.false_eq_true, or_true, true_or, or_false, false_or, or_self, and_true, true_and, not_true_eq_false, not_false_eq_true, Nat.reduceEqDiff, Nat.reduceLT, Nat.reduceLeDiff, Nat.reduceAdd, Nat.reduceSub, Nat.reduceMul, Nat.reduceDiv, Nat.reduceMod, Nat.zero_add, Nat.add_zero, n_z, n_1, n_eq, n_in, n_cl, nI_add, ly_61, ly_67, m_in, l_lt, l_gt, h1, h2, hz, hz2, sc_1, wi_sc, u]
theorem pr_type {N : Nat} {σ : a_HP} (h : Inv N σ) (c : Int32) : Pair N 61 159 [.int c] σ := by
  unfold Pair
  by_cases hc : c < nI 0 ∨ nI 127 < c
  · rw [c_type_bad hc, m_type_bad hc]
    exact ⟨⟨_, rfl, rfl⟩, Inv_ref h (by omega)⟩
  · obtain ⟨c, -, c2, rfl⟩ := rng (by omega) (by omega) hc
    obtain ⟨a1, a2, a3, ⟨z, z1, z2, z3, z4⟩, a5, a6⟩ := Inv_N (Nat.le_succ N) h
    by_cases hz : z = 150
    · subst hz
      rw [c_type_full c2 σ z2, m_type_full c2 (a_wi σ 17 2 (σ.1 17 2 + nI 1)) z3]
      exact ⟨⟨_, rfl, rfl⟩, Inv_ref h (by omega)⟩
    · rw [c_type c2 (by omega) σ z2, m_type c2 (by omega) (a_wi (a_wi σ 14 z (nI c)) 13 0 (nI (z + 1))) z3]
      refine ⟨⟨_, rfl, rfl⟩, a1, a2, a3, ⟨z + 1, by omega, rfl, rfl, fun j hj => ?_⟩, a5, a6⟩
      show upd (σ.1 14) z (nI c) j = upd (σ.1 67) z (nI c) j ∧ ∃ d : Nat, d ≤ 127 ∧ upd (σ.1 67) z (nI c) j = nI d
      simp only [ud_1]
      by_cases q : j = z
      · rw [if_pos q, if_pos q]; exact ⟨rfl, c, c2, rfl⟩
      · rw [if_neg q, if_neg q]; exact z4 j (by omega)
theorem c_clear (σ : a_HP) (Q : Option Value → a_HP → Prop) : Cl 62 [.ref 0] σ Q = Q (some (.int (σ.1 13 0))) (a_wi σ 13 0 (nI 0)) := by
  simp (disch := first | assumption | omega) only [cl_62, r_62_0, r_62_1, r_62_4, r_62_7, r_62_8, r_62_9, r_62_12, r_62_13, r_62_16, r_62_17, o_get, o_lda, o_ldi, o_pi, o_put, o_ri, o_sti, acR_nx, acR_re, acR_ca, acR_no, acR_if, Kc_i, Kc_n, a_lg, a_ls, a_kl, a_pk, a_sw, cw_n, cw_i, cw_l, cw_r, List.length_cons, List.length_nil, List.getElem?_cons_succ, List.getElem?_cons_zero, ↓reduceIte, decide_true, decide_false, Bool.false_eq_true, or_true, true_or, or_false, false_or, or_self, and_true, true_and, not_true_eq_false, not_false_eq_true, Nat.reduceEqDiff, Nat.reduceLT, Nat.reduceLeDiff, Nat.reduceAdd, Nat.reduceSub, Nat.reduceMul, Nat.reduceDiv, Nat.reduceMod, Nat.zero_add, Nat.add_zero, n_z, n_1, n_ltz, n_zlt, n_lt, n_eq, n_cl, n_in, nI_add, pk_mul, n_div, n_sub, nm_mod, ly_0, ly_13]
theorem m_clear (σ : a_HP) (Q : Option Value → a_HP → Prop) : Cl 160 [.ref 61] σ Q = Q (some (.int (σ.1 61 6))) (a_wi σ 61 6 (nI 0)) := by
  simp (disch := first | assumption | omega) only [cl_160, r_160_0, r_160_1, r_160_4, r_160_5, r_160_6, r_160_7, r_160_10, r_160_11, o_get, o_lda, o_ldi, o_pi, o_put, o_ri, o_sti, acR_nx, acR_re, acR_ca, acR_no, acR_if, Kc_i, Kc_n, a_lg, a_ls, a_kl, a_pk, a_sw, cw_n, cw_i, cw_l, cw_r, List.length_cons, List.length_nil, List.getElem?_cons_succ, List.getElem?_cons_zero, ↓reduceIte, decide_true, decide_false, Bool.false_eq_true, or_true, true_or, or_false, false_or, or_self, and_true, true_and, not_true_eq_false, not_false_eq_true, Nat.reduceEqDiff, Nat.reduceLT, Nat.reduceLeDiff, Nat.reduceAdd, Nat.reduceSub, Nat.reduceMul, Nat.reduceDiv, Nat.reduceMod, Nat.zero_add, Nat.add_zero, n_z, n_1, n_ltz, n_zlt, n_lt, n_eq, n_cl, n_in, nI_add, pk_mul, n_div, n_sub, nm_mod, ly_61]
theorem pr_clear {N : Nat} {σ : a_HP} (h : Inv N σ) : Pair N 62 160 [] σ := by
  unfold Pair
  obtain ⟨a1, a2, a3, ⟨z, z1, z2, z3, z4⟩, a5, a6⟩ := Inv_N (Nat.le_succ N) h
  rw [c_clear, m_clear]
  refine ⟨⟨_, rfl, ?_⟩, a1, a2, a3, ⟨0, by omega, rfl, rfl, fun j hj => by omega⟩, a5, a6⟩
  exact congrArg (fun z => some (Value.int z)) (z3.trans z2.symm)
/-! status -/
theorem c_status_bad {w : Int32} (h : w < nI 0 ∨ nI 2 < w) (σ : a_HP) (Q : Option Value → a_HP → Prop) : Cl 83 [.ref 0, .int w] σ Q = Q (some (.int (-1))) (a_wi σ 17 0 (σ.1 17 0 + nI 1)) := by
  simp (disch := first | assumption | omega) only [cl_83, r_83_0, r_83_1, r_83_2, r_83_3, r_83_6, r_83_9, r_83_10, r_83_11, r_83_12, r_83_15, r_83_16, r_83_17, r_83_20, r_83_21, r_83_22, o_get, o_ial, o_ivs, o_ivv, o_lda, o_ldi, o_ne, o_pi, o_ri, acR_nx, acR_re, acR_ca, acR_no, acR_if, Kc_i, Kc_n, a_lg, a_ls, a_kl, a_pk, a_sw, cw_n, cw_i, cw_l, cw_r, List.length_cons, List.length_nil, List.getElem?_cons_succ, List.getElem?_cons_zero, ↓reduceIte, decide_true, decide_false, Bool.false_eq_true, or_true, true_or, or_false, false_or, or_self, and_true, true_and, not_true_eq_false, not_false_eq_true, Nat.reduceEqDiff, Nat.reduceLT, Nat.reduceLeDiff, Nat.reduceAdd, Nat.reduceSub, Nat.reduceMul, Nat.reduceDiv, Nat.reduceMod, Nat.zero_add, Nat.add_zero, n_z, n_1, n_ltz, n_zlt, n_lt, n_eq, n_cl, n_in, nI_add, pk_mul, n_div, n_sub, nm_mod, ly_0, ly_17, c_within, h, c_refuse]
theorem m_status_bad {w : Int32} (h : w < nI 0 ∨ nI 2 < w) (σ : a_HP) (Q : Option Value → a_HP → Prop) : Cl 202 [.ref 61, .int w] σ Q = Q (some (.int (-1))) (a_wi σ 68 0 (σ.1 68 0 + nI 1)) := by
  simp (disch := first | assumption | omega) only [cl_202, r_202_0, r_202_1, r_202_2, r_202_3, r_202_6, r_202_9, r_202_12, r_202_13, r_202_16, r_202_17, r_202_18, r_202_21, r_202_22, r_202_23, r_202_26, o_eq, o_get, o_go, o_i2l, o_ial, o_ivs, o_ivv, o_lda, o_ldi, o_pi, o_pl, o_ri, acR_nx, acR_re, acR_ca, acR_no, acR_if, Kc_i, Kc_n, a_lg, a_ls, a_kl, a_pk, a_sw, cw_n, cw_i, cw_l, cw_r, List.length_cons, List.length_nil, List.getElem?_cons_succ, List.getElem?_cons_zero, ↓reduceIte, decide_true, decide_false, Bool.false_eq_true, or_true, true_or, or_false, false_or, or_self, and_true, true_and, not_true_eq_false, not_false_eq_true, Nat.reduceEqDiff, Nat.reduceLT, Nat.reduceLeDiff, Nat.reduceAdd, Nat.reduceSub, Nat.reduceMul, Nat.reduceDiv, Nat.reduceMod, Nat.zero_add, Nat.add_zero, n_z, n_1, n_ltz, n_zlt, n_lt, n_eq, n_cl, n_in, nI_add, pk_mul, n_div, n_sub, nm_mod, ly_61, m_in, l_lt, l_gt, h, m_badAs]
theorem t_ok {w k : Nat} (h : w ≤ k) (hk : k < 2147483648) : ¬ (nI w < nI 0 ∨ nI k < nI w) := by rw [n_lt (by omega) (by omega), n_lt (by omega) (by omega)]; omega
theorem c_status {w : Nat} (hw : w < 3) (σ : a_HP) (Q : Option Value → a_HP → Prop) : Cl 83 [.ref 0, .int (nI w)] σ Q = Q (some (.int (σ.1 17 w))) σ := by
  have h1 := t_ok (w := w) (k := 2) (by omega) (by omega)
  simp (disch := first | assumption | omega) only [cl_83, r_83_0, r_83_1, r_83_2, r_83_3, r_83_6, r_83_9, r_83_10, r_83_11, r_83_12, r_83_15, r_83_16, r_83_17, r_83_20, r_83_21, r_83_22, o_get, o_ial, o_ivs, o_ivv, o_lda, o_ldi, o_ne, o_pi, o_ri, acR_nx, acR_re, acR_ca, acR_no, acR_if, Kc_i, Kc_n, a_lg, a_ls, a_kl, a_pk, a_sw, cw_n, cw_i, cw_l, cw_r, List.length_cons, List.length_nil, List.getElem?_cons_succ, List.getElem?_cons_zero, ↓reduceIte, decide_true, decide_false, Bool.false_eq_true, or_true, true_or, or_false, false_or, or_self, and_true, true_and, not_true_eq_false, not_false_eq_true, Nat.reduceEqDiff, Nat.reduceLT, Nat.reduceLeDiff, Nat.reduceAdd, Nat.reduceSub, Nat.reduceMul, Nat.reduceDiv, Nat.reduceMod, Nat.zero_add, Nat.add_zero, n_z, n_1, n_in, n_cl, ly_0, ly_17, c_within, h1, hw]
theorem m_status {w : Nat} (hw : w < 3) (σ : a_HP) (Q : Option Value → a_HP → Prop) : Cl 202 [.ref 61, .int (nI w)] σ Q = Q (some (.int (σ.1 68 w))) σ := by
  have h1 := t_ok (w := w) (k := 2) (by omega) (by omega)
  simp (disch := first | assumption | omega) only [cl_202, r_202_0, r_202_1, r_202_2, r_202_3, r_202_6, r_202_9, r_202_12, r_202_13, r_202_16, r_202_17, r_202_18, r_202_21, r_202_22, r_202_23, r_202_26, o_eq, o_get, o_go, o_i2l, o_ial, o_ivs, o_ivv, o_lda, o_ldi, o_pi, o_pl, o_ri, acR_nx, acR_re, acR_ca, acR_no, acR_if, Kc_i, Kc_n, a_lg, a_ls, a_kl, a_pk, a_sw, cw_n, cw_i, cw_l, cw_r, List.length_cons, List.length_nil, List.getElem?_cons_succ, List.getElem?_cons_zero, ↓reduceIte, decide_true, decide_false, Bool.false_eq_true, or_true, true_or, or_false, false_or, or_self, and_true, true_and, not_true_eq_false, not_false_eq_true, Nat.reduceEqDiff, Nat.reduceLT, Nat.reduceLeDiff, Nat.reduceAdd, Nat.reduceSub, Nat.reduceMul, Nat.reduceDiv, Nat.reduceMod, Nat.zero_add, Nat.add_zero, n_z, n_1, n_in, n_cl, ly_61, ly_68, m_in, l_lt, l_gt, h1, hw]
theorem pr_status {N : Nat} {σ : a_HP} (h : Inv N σ) (w : Int32) : Pair N 83 202 [.int w] σ := by
  unfold Pair
  by_cases hc : w < nI 0 ∨ nI 2 < w
  · rw [c_status_bad hc, m_status_bad hc]
    exact ⟨⟨_, rfl, rfl⟩, Inv_ref h (by omega)⟩
  · obtain ⟨w, -, w2, rfl⟩ := rng (by omega) (by omega) hc
    rw [c_status (by omega), m_status (by omega)]
    exact ⟨⟨_, rfl, congrArg (fun z => some (Value.int z)) (h.2.2.2.2.2 w (by omega)).symm⟩, Inv_N (Nat.le_succ N) h⟩
