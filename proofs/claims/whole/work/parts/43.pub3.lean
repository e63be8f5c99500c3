/-! tie, mend, drop, night, undo -/
theorem eN_k {o kd st vl wd f : Nat → Int32} (h : eN o kd st vl wd f) {k : Nat} (hk : k < 16) (d s v : Int32) : eN o (upd kd k d) (upd st k s) (upd vl k v) wd (upd (upd (upd f (4 + k) d) (20 + k) s) (36 + k) v) := by
  refine ⟨fun j hj => ?_, fun j hj => ⟨?_, ?_, ?_⟩, fun c hc => ?_⟩
  · simp only [ud_1]; rw [if_neg (by omega), if_neg (by omega), if_neg (by omega)]; exact h.1 j hj
  · simp only [ud_1]
    by_cases q : j = k
    · rw [if_pos q, if_neg (by omega), if_neg (by omega), if_pos (by omega)]
    · rw [if_neg q, if_neg (by omega), if_neg (by omega), if_neg (by omega)]; exact (h.2.1 j hj).1
  · simp only [ud_1]
    by_cases q : j = k
    · rw [if_pos q, if_neg (by omega), if_pos (by omega)]
    · rw [if_neg q, if_neg (by omega), if_neg (by omega), if_neg (by omega)]; exact (h.2.1 j hj).2.1
  · simp only [ud_1]
    by_cases q : j = k
    · rw [if_pos q, if_pos (by omega)]
    · rw [if_neg q, if_neg (by omega), if_neg (by omega), if_neg (by omega)]; exact (h.2.1 j hj).2.2
  · simp only [ud_1]; rw [if_neg (by omega), if_neg (by omega), if_neg (by omega)]; exact h.2.2 c hc
theorem vN_k {N : Nat} {f : Nat → Int32} (h : vN N f) {k : Nat} (hk : k < 16) {d s v : Int32} (hv : vKnot d s v) : vN N (upd (upd (upd f (4 + k) d) (20 + k) s) (36 + k) v) := by
  obtain ⟨g0, g1, g2, g3, g4, g5⟩ := h
  refine ⟨?_, ?_, ?_, ?_, fun j hj => ?_, fun c hc => ?_⟩
  · simp only [ud_1]; rw [if_neg (by omega), if_neg (by omega), if_neg (by omega)]; exact g0
  · simp only [ud_1]; rw [if_neg (by omega), if_neg (by omega), if_neg (by omega)]; exact g1
  · simp only [ud_1]; rw [if_neg (by omega), if_neg (by omega), if_neg (by omega)]; exact g2
  · simp only [ud_1]; rw [if_neg (by omega), if_neg (by omega), if_neg (by omega)]; exact g3
  · simp only [ud_1]
    by_cases q : j = k
    · subst q
      rw [if_neg (show ¬ 4 + j = 36 + j by omega), if_neg (show ¬ 4 + j = 20 + j by omega), if_pos rfl, if_neg (show ¬ 20 + j = 36 + j by omega), if_pos rfl, if_pos rfl]
      exact hv
    · rw [if_neg (show ¬ 4 + j = 36 + k by omega), if_neg (show ¬ 4 + j = 20 + k by omega), if_neg (show ¬ 4 + j = 4 + k by omega), if_neg (show ¬ 20 + j = 36 + k by omega), if_neg (show ¬ 20 + j = 20 + k by omega), if_neg (show ¬ 20 + j = 4 + k by omega), if_neg (show ¬ 36 + j = 36 + k by omega), if_neg (show ¬ 36 + j = 20 + k by omega), if_neg (show ¬ 36 + j = 4 + k by omega)]
      exact g4 j hj
  · simp only [ud_1]; rw [if_neg (by omega), if_neg (by omega), if_neg (by omega)]; exact g5 c hc
/-- strength alone -/
theorem eN_s {o kd st vl wd f : Nat → Int32} (h : eN o kd st vl wd f) {k : Nat} (hk : k < 16) (s : Int32) : eN o kd (upd st k s) vl wd (upd f (20 + k) s) := by
  refine ⟨fun j hj => ?_, fun j hj => ⟨?_, ?_, ?_⟩, fun c hc => ?_⟩
  · simp only [ud_1]; rw [if_neg (by omega)]; exact h.1 j hj
  · simp only [ud_1]; rw [if_neg (by omega)]; exact (h.2.1 j hj).1
  · simp only [ud_1]
    by_cases q : j = k
    · rw [if_pos q, if_pos (by omega)]
    · rw [if_neg q, if_neg (by omega)]; exact (h.2.1 j hj).2.1
  · simp only [ud_1]; rw [if_neg (by omega)]; exact (h.2.1 j hj).2.2
  · simp only [ud_1]; rw [if_neg (by omega)]; exact h.2.2 c hc
theorem vN_s {N : Nat} {f : Nat → Int32} (h : vN N f) {k : Nat} (hk : k < 16) {s : Int32} (hv : ∃ d : Nat, d ≤ 9 ∧ s = nI d) : vN N (upd f (20 + k) s) := by
  obtain ⟨g0, g1, g2, g3, g4, g5⟩ := h
  refine ⟨?_, ?_, ?_, ?_, fun j hj => ?_, fun c hc => ?_⟩
  · simp only [ud_1]; rw [if_neg (by omega)]; exact g0
  · simp only [ud_1]; rw [if_neg (by omega)]; exact g1
  · simp only [ud_1]; rw [if_neg (by omega)]; exact g2
  · simp only [ud_1]; rw [if_neg (by omega)]; exact g3
  · simp only [ud_1]
    rw [if_neg (show ¬ 4 + j = 20 + k by omega), if_neg (show ¬ 36 + j = 20 + k by omega)]
    refine ⟨(g4 j hj).1, ?_, (g4 j hj).2.2⟩
    by_cases q : 20 + j = 20 + k
    · rw [if_pos q]; exact hv
    · rw [if_neg q]; exact (g4 j hj).2.1
  · simp only [ud_1]; rw [if_neg (by omega)]; exact g5 c hc
theorem eN_t {o kd st vl wd f : Nat → Int32} (h : eN o kd st vl wd f) (t : Int32) : eN (upd o 1 t) kd st vl wd (upd f 1 t) := by
  refine ⟨fun j hj => ?_, fun j hj => ⟨?_, ?_, ?_⟩, fun c hc => ?_⟩
  · simp only [ud_1]
    by_cases q : j = 1
    · rw [if_pos q, if_pos q]
    · rw [if_neg q, if_neg q]; exact h.1 j hj
  · simp only [ud_1]; rw [if_neg (by omega)]; exact (h.2.1 j hj).1
  · simp only [ud_1]; rw [if_neg (by omega)]; exact (h.2.1 j hj).2.1
  · simp only [ud_1]; rw [if_neg (by omega)]; exact (h.2.1 j hj).2.2
  · simp only [ud_1]; rw [if_neg (by omega)]; exact h.2.2 c hc
theorem vN_t {N : Nat} {f : Nat → Int32} (h : vN N f) {t : Int32} (hv : ∃ d : Nat, d ≤ 99 ∧ t = nI d) : vN N (upd f 1 t) := by
  obtain ⟨g0, g1, g2, g3, g4, g5⟩ := h
  refine ⟨?_, ?_, ?_, ?_, fun j hj => ?_, fun c hc => ?_⟩
  · simp only [ud_1]; rw [if_neg (by omega)]; exact g0
  · simp only [ud_1]; exact hv
  · simp only [ud_1]; rw [if_neg (by omega)]; exact g2
  · simp only [ud_1]; rw [if_neg (by omega)]; exact g3
  · simp only [ud_1]; rw [if_neg (by omega), if_neg (by omega), if_neg (by omega)]; exact g4 j hj
  · simp only [ud_1]; rw [if_neg (by omega)]; exact g5 c hc
/-! tie -/
theorem c_tie_bad {k d s v : Int32} (h : (k < nI 0 ∨ nI 15 < k) ∨ (d < nI 0 ∨ nI 5 < d) ∨ (s < nI 1 ∨ nI 9 < s) ∨ (v < nI 0 ∨ nI 2 < v)) (σ : a_HP) (Q : Option Value → a_HP → Prop) : Cl 56 [.ref 0, .int k, .int d, .int s, .int v] σ Q = Q (some (.int (-2))) (a_wi σ 17 0 (σ.1 17 0 + nI 1)) := by
  simp (disch := first | assumption | omega) only [cl_56, r_56_0, r_56_1, r_56_2, r_56_3, r_56_5, r_56_8, r_56_11, r_56_12, r_56_15, r_56_16, r_56_17, r_56_20, r_56_23, r_56_24, r_56_25, r_56_27, r_56_28, r_56_31, r_56_32, r_56_35, r_56_38, r_56_39, r_56_42, r_56_43, r_56_44, r_56_45, r_56_47, r_56_50, r_56_52, o_get, o_ial, o_ivs, o_ivv, o_lda, o_ldi, o_ne, o_ri, o_sti, acR_nx, acR_re, acR_ca, acR_no, acR_if, Kc_i, Kc_n, a_lg, a_ls, a_kl, a_pk, a_sw, cw_n, cw_i, cw_l, cw_r, List.length_cons, List.length_nil, List.getElem?_cons_succ, List.getElem?_cons_zero, ↓reduceIte, decide_true, decide_false, Bool.false_eq_true, or_true, true_or, or_false, false_or, or_self, and_true, true_and, not_true_eq_false, not_false_eq_true, Nat.reduceEqDiff, Nat.reduceLT, Nat.reduceLeDiff, Nat.reduceAdd, Nat.reduceSub, Nat.reduceMul, Nat.reduceDiv, Nat.reduceMod, Nat.zero_add, Nat.add_zero, n_z, n_1, n_ltz, n_zlt, n_lt, n_eq, n_cl, n_in, nI_add, pk_mul, n_div, n_sub, nm_mod, ly_0, ly_1, c_tieFits, h, c_bad]
theorem m_tie_bad {k d s v : Int32} (h : (k < nI 0 ∨ nI 15 < k) ∨ (d < nI 0 ∨ nI 5 < d) ∨ (s < nI 1 ∨ nI 9 < s) ∨ (v < nI 0 ∨ nI 2 < v)) (σ : a_HP) (Q : Option Value → a_HP → Prop) : Cl 153 [.ref 61, .int k, .int d, .int s, .int v] σ Q = Q (some (.int (-2))) (a_wi σ 68 0 (σ.1 68 0 + nI 1)) := by
  simp (disch := first | assumption | omega) only [cl_153, r_153_0, r_153_1, r_153_2, r_153_3, r_153_5, r_153_8, r_153_11, r_153_12, r_153_15, r_153_16, r_153_17, r_153_20, r_153_21, r_153_24, r_153_26, r_153_27, r_153_28, r_153_29, r_153_31, r_153_32, r_153_35, r_153_36, r_153_37, r_153_38, r_153_40, r_153_43, r_153_45, f_add, o_bi, o_get, o_ial, o_ivs, o_ivv, o_lda, o_ldi, o_ne, o_pi, o_ri, o_sti, acR_nx, acR_re, acR_ca, acR_no, acR_if, Kc_i, Kc_n, a_lg, a_ls, a_kl, a_pk, a_sw, cw_n, cw_i, cw_l, cw_r, List.length_cons, List.length_nil, List.getElem?_cons_succ, List.getElem?_cons_zero, ↓reduceIte, decide_true, decide_false, Bool.false_eq_true, or_true, true_or, or_false, false_or, or_self, and_true, true_and, not_true_eq_false, not_false_eq_true, Nat.reduceEqDiff, Nat.reduceLT, Nat.reduceLeDiff, Nat.reduceAdd, Nat.reduceSub, Nat.reduceMul, Nat.reduceDiv, Nat.reduceMod, Nat.zero_add, Nat.add_zero, n_z, n_1, n_ltz, n_zlt, n_lt, n_eq, n_cl, n_in, nI_add, pk_mul, n_div, n_sub, nm_mod, ly_61, m_mayTie, h, m_bad]
theorem c_tie {k : Nat} (hk : k < 16) {d s v : Int32} (h : ¬ ((nI k < nI 0 ∨ nI 15 < nI k) ∨ (d < nI 0 ∨ nI 5 < d) ∨ (s < nI 1 ∨ nI 9 < s) ∨ (v < nI 0 ∨ nI 2 < v))) (σ : a_HP) {pr' : Nat → Int32} {m : Nat} (hkp : ∀ Q, Cl 29 [.ref 6, .ref 1] σ Q = Q none (a_wi (a_sc σ 7 pr') 6 0 (nI m))) (Q : Option Value → a_HP → Prop) : Cl 56 [.ref 0, .int (nI k), .int d, .int s, .int v] σ Q = Q (some (.int (σ.1 3 k))) (a_wi (a_wi (a_wi (a_wi (a_sc σ 7 pr') 6 0 (nI m)) 2 k d) 3 k s) 4 k v) := by
  simp (disch := first | assumption | omega) only [cl_56, r_56_0, r_56_1, r_56_2, r_56_3, r_56_5, r_56_8, r_56_11, r_56_12, r_56_15, r_56_16, r_56_17, r_56_20, r_56_23, r_56_24, r_56_25, r_56_27, r_56_28, r_56_31, r_56_32, r_56_35, r_56_38, r_56_39, r_56_42, r_56_43, r_56_44, r_56_45, r_56_47, r_56_50, r_56_52, o_get, o_ial, o_ivs, o_ivv, o_lda, o_ldi, o_ne, o_ri, o_sti, acR_nx, acR_re, acR_ca, acR_no, acR_if, Kc_i, Kc_n, a_lg, a_ls, a_kl, a_pk, a_sw, cw_n, cw_i, cw_l, cw_r, List.length_cons, List.length_nil, List.getElem?_cons_succ, List.getElem?_cons_zero, ↓reduceIte, decide_true, decide_false, Bool.false_eq_true, or_true, true_or, or_false, false_or, or_self, and_true, true_and, not_true_eq_false, not_false_eq_true, Nat.reduceEqDiff, Nat.reduceLT, Nat.reduceLeDiff, Nat.reduceAdd, Nat.reduceSub, Nat.reduceMul, Nat.reduceDiv, Nat.reduceMod, Nat.zero_add, Nat.add_zero, n_z, n_1, n_cl, n_in, ly_0, ly_1, ly_3, ly_6, c_tieFits, h, hk, hkp, c_tieKnot aN_1]
theorem m_tie {k : Nat} (hk : k < 16) {d s v : Int32} (h : ¬ ((nI k < nI 0 ∨ nI 15 < nI k) ∨ (d < nI 0 ∨ nI 5 < d) ∨ (s < nI 1 ∨ nI 9 < s) ∨ (v < nI 0 ∨ nI 2 < v))) (σ : a_HP) {f' : Nat → Int32} (hkp : ∀ Q, Cl 150 [.ref 61] σ Q = Q none (a_sc σ 62 f')) (Q : Option Value → a_HP → Prop) : Cl 153 [.ref 61, .int (nI k), .int d, .int s, .int v] σ Q = Q (some (.int (f' (20 + k)))) (a_sc σ 62 (upd (upd (upd f' (4 + k) d) (20 + k) s) (36 + k) v)) := by
  have e : 20 + k < 481 := by omega
  simp (disch := first | assumption | omega) only [cl_153, r_153_0, r_153_1, r_153_2, r_153_3, r_153_5, r_153_8, r_153_11, r_153_12, r_153_15, r_153_16, r_153_17, r_153_20, r_153_21, r_153_24, r_153_26, r_153_27, r_153_28, r_153_29, r_153_31, r_153_32, r_153_35, r_153_36, r_153_37, r_153_38, r_153_40, r_153_43, r_153_45, f_add, o_bi, o_get, o_ial, o_ivs, o_ivv, o_lda, o_ldi, o_ne, o_pi, o_ri, o_sti, acR_nx, acR_re, acR_ca, acR_no, acR_if, Kc_i, Kc_n, a_lg, a_ls, a_kl, a_pk, a_sw, cw_n, cw_i, cw_l, cw_r, List.length_cons, List.length_nil, List.getElem?_cons_succ, List.getElem?_cons_zero, ↓reduceIte, decide_true, decide_false, Bool.false_eq_true, or_true, true_or, or_false, false_or, or_self, and_true, true_and, not_true_eq_false, not_false_eq_true, Nat.reduceEqDiff, Nat.reduceLT, Nat.reduceLeDiff, Nat.reduceAdd, Nat.reduceSub, Nat.reduceMul, Nat.reduceDiv, Nat.reduceMod, Nat.zero_add, Nat.add_zero, n_z, n_1, n_cl, n_in, nI_add, ly_61, ly_62, m_mayTie, h, e, hkp, m_ties aT_62, sc_1, sc_sc]
theorem pr_tie {N : Nat} {σ : a_HP} (h : Inv N σ) (k d s v : Int32) : Pair N 56 153 [.int k, .int d, .int s, .int v] σ := by
  unfold Pair
  by_cases hc : (k < nI 0 ∨ nI 15 < k) ∨ (d < nI 0 ∨ nI 5 < d) ∨ (s < nI 1 ∨ nI 9 < s) ∨ (v < nI 0 ∨ nI 2 < v)
  · rw [c_tie_bad hc, m_tie_bad hc]
    exact ⟨⟨_, rfl, rfl⟩, Inv_ref h (by omega)⟩
  · obtain ⟨k, -, k2, rfl⟩ := rng (by omega) (by omega) (fun q => hc (Or.inl q))
    obtain ⟨d, -, d2, rfl⟩ := rng (by omega) (by omega) (fun q => hc (Or.inr (Or.inl q)))
    obtain ⟨s, s1, s2, rfl⟩ := rng (by omega) (by omega) (fun q => hc (Or.inr (Or.inr (Or.inl q))))
    obtain ⟨v, -, v2, rfl⟩ := rng (by omega) (by omega) (fun q => hc (Or.inr (Or.inr (Or.inr q))))
    obtain ⟨pr', f', m, h1, h2, h3, h4⟩ := keep_ex (Inv_N (Nat.le_succ N) h)
    obtain ⟨⟨e, w, hp, hr⟩, a2, a3, a4, a5, a6⟩ := Inv_N (Nat.le_succ N) h
    have hk : k < 16 := by omega
    rw [c_tie hk hc σ h1, m_tie hk hc (a_wi (a_wi (a_wi (a_wi (a_sc σ 7 pr') 6 0 (nI m)) 2 k (nI d)) 3 k (nI s)) 4 k (nI v)) (h2 _ rfl)]
    have e' := eN_f e (fun j hj => h3 j (by omega))
    have w' := vN_f w (fun j hj => h3 j (by omega))
    refine ⟨⟨_, rfl, ?_⟩, ⟨eN_k e' hk _ _ _, vN_k w' hk ⟨⟨d, d2, rfl⟩, ⟨s, s2, rfl⟩, ⟨v, v2, rfl⟩⟩, pP_f h4 (fun j hj => ?_), pR_f hr (fun j hj hj2 => ?_)⟩, a2, a3, a4, a5, a6⟩
    · rw [h3 _ (by omega)]
      exact congrArg (fun z => some (Value.int z)) (e.2.1 k hk).2.1.symm
    · show upd (upd (upd f' (4 + k) (nI d)) (20 + k) (nI s)) (36 + k) (nI v) j = f' j
      simp only [ud_1]; rw [if_neg (by omega), if_neg (by omega), if_neg (by omega)]
    · show upd (upd (upd f' (4 + k) (nI d)) (20 + k) (nI s)) (36 + k) (nI v) j = σ.1 62 j
      simp only [ud_1]; rw [if_neg (by omega), if_neg (by omega), if_neg (by omega)]; exact h3 j (by omega)
/-! drop -/
theorem c_drop_bad {k : Int32} (h : k < nI 0 ∨ nI 15 < k) (σ : a_HP) (Q : Option Value → a_HP → Prop) : Cl 58 [.ref 0, .int k] σ Q = Q (some (.int (-2))) (a_wi σ 17 0 (σ.1 17 0 + nI 1)) := by
  simp (disch := first | assumption | omega) only [cl_58, r_58_0, r_58_1, r_58_4, r_58_7, r_58_8, r_58_11, r_58_12, r_58_13, r_58_16, r_58_17, r_58_20, r_58_23, r_58_24, r_58_27, r_58_28, r_58_29, r_58_32, r_58_35, r_58_36, r_58_37, r_58_38, r_58_39, r_58_42, r_58_43, r_58_46, r_58_49, r_58_50, r_58_53, r_58_56, r_58_57, r_58_58, r_58_59, r_58_60, o_eq, o_get, o_ial, o_ias, o_ivs, o_ivv, o_lda, o_ldi, o_ne, o_pi, o_ri, o_sti, acR_nx, acR_re, acR_ca, acR_no, acR_if, Kc_i, Kc_n, a_lg, a_ls, a_kl, a_pk, a_sw, cw_n, cw_i, cw_l, cw_r, List.length_cons, List.length_nil, List.getElem?_cons_succ, List.getElem?_cons_zero, ↓reduceIte, decide_true, decide_false, Bool.false_eq_true, or_true, true_or, or_false, false_or, or_self, and_true, true_and, not_true_eq_false, not_false_eq_true, Nat.reduceEqDiff, Nat.reduceLT, Nat.reduceLeDiff, Nat.reduceAdd, Nat.reduceSub, Nat.reduceMul, Nat.reduceDiv, Nat.reduceMod, Nat.zero_add, Nat.add_zero, n_z, n_1, n_ltz, n_zlt, n_lt, n_eq, n_cl, n_in, nI_add, pk_mul, n_div, n_sub, nm_mod, ly_0, ly_1, c_isKnot, h, c_bad]
theorem m_drop_bad {k : Int32} (h : k < nI 0 ∨ nI 15 < k) (σ : a_HP) (Q : Option Value → a_HP → Prop) : Cl 155 [.ref 61, .int k] σ Q = Q (some (.int (-2))) (a_wi σ 68 0 (σ.1 68 0 + nI 1)) := by
  simp (disch := first | assumption | omega) only [cl_155, r_155_0, r_155_1, r_155_4, r_155_7, r_155_8, r_155_11, r_155_12, r_155_13, r_155_16, r_155_18, r_155_19, r_155_20, r_155_21, r_155_22, r_155_23, r_155_26, r_155_27, r_155_29, r_155_32, r_155_33, r_155_34, r_155_37, r_155_38, r_155_41, r_155_43, r_155_44, r_155_45, r_155_46, r_155_47, r_155_48, f_add, o_bi, o_get, o_ial, o_ias, o_ivs, o_ivv, o_lda, o_ldi, o_ne, o_pi, o_ri, o_sti, acR_nx, acR_re, acR_ca, acR_no, acR_if, Kc_i, Kc_n, a_lg, a_ls, a_kl, a_pk, a_sw, cw_n, cw_i, cw_l, cw_r, List.length_cons, List.length_nil, List.getElem?_cons_succ, List.getElem?_cons_zero, ↓reduceIte, decide_true, decide_false, Bool.false_eq_true, or_true, true_or, or_false, false_or, or_self, and_true, true_and, not_true_eq_false, not_false_eq_true, Nat.reduceEqDiff, Nat.reduceLT, Nat.reduceLeDiff, Nat.reduceAdd, Nat.reduceSub, Nat.reduceMul, Nat.reduceDiv, Nat.reduceMod, Nat.zero_add, Nat.add_zero, n_z, n_1, n_ltz, n_zlt, n_lt, n_eq, n_cl, n_in, nI_add, pk_mul, n_div, n_sub, nm_mod, ly_61, m_isKnot, h, m_bad]
theorem kn_ok {k : Nat} (hk : k < 16) : ¬ (nI k < nI 0 ∨ nI 15 < nI k) := by rw [n_lt (by omega) (by omega), n_lt (by omega) (by omega)]; omega
theorem c_drop {k : Nat} (hk : k < 16) (σ : a_HP) {pr' : Nat → Int32} {m : Nat} (hkp : ∀ Q, Cl 29 [.ref 6, .ref 1] σ Q = Q none (a_wi (a_sc σ 7 pr') 6 0 (nI m))) (Q : Option Value → a_HP → Prop) : Cl 58 [.ref 0, .int (nI k)] σ Q = if σ.1 3 k = 0 then Q (some (.int (-3))) (a_wi σ 17 1 (σ.1 17 1 + nI 1)) else Q (some (.int (σ.1 3 k))) (a_wi (a_wi (a_sc σ 7 pr') 6 0 (nI m)) 3 k (nI 0)) := by
  have h := kn_ok hk
  simp (disch := first | assumption | omega) only [cl_58, r_58_0, r_58_1, r_58_4, r_58_7, r_58_8, r_58_11, r_58_12, r_58_13, r_58_16, r_58_17, r_58_20, r_58_23, r_58_24, r_58_27, r_58_28, r_58_29, r_58_32, r_58_35, r_58_36, r_58_37, r_58_38, r_58_39, r_58_42, r_58_43, r_58_46, r_58_49, r_58_50, r_58_53, r_58_56, r_58_57, r_58_58, r_58_59, r_58_60, o_eq, o_get, o_ial, o_ias, o_ivs, o_ivv, o_lda, o_ldi, o_ne, o_pi, o_ri, o_sti, acR_nx, acR_re, acR_ca, acR_no, acR_if, Kc_i, Kc_n, a_lg, a_ls, a_kl, a_pk, a_sw, cw_n, cw_i, cw_l, cw_r, List.length_cons, List.length_nil, List.getElem?_cons_succ, List.getElem?_cons_zero, ↓reduceIte, decide_true, decide_false, Bool.false_eq_true, or_true, true_or, or_false, false_or, or_self, and_true, true_and, not_true_eq_false, not_false_eq_true, Nat.reduceEqDiff, Nat.reduceLT, Nat.reduceLeDiff, Nat.reduceAdd, Nat.reduceSub, Nat.reduceMul, Nat.reduceDiv, Nat.reduceMod, Nat.zero_add, Nat.add_zero, n_z, n_1, n_cl, n_in, ly_0, ly_1, ly_3, ly_6, c_isKnot, h, hk, c_isHole aN_1, c_no, hkp]
theorem m_drop {k : Nat} (hk : k < 16) (σ : a_HP) {f' : Nat → Int32} (hkp : ∀ Q, Cl 150 [.ref 61] σ Q = Q none (a_sc σ 62 f')) (Q : Option Value → a_HP → Prop) : Cl 155 [.ref 61, .int (nI k)] σ Q = if σ.1 62 (20 + k) = 0 then Q (some (.int (-3))) (a_wi σ 68 1 (σ.1 68 1 + nI 1)) else Q (some (.int (σ.1 62 (20 + k)))) (a_sc σ 62 (upd f' (20 + k) (nI 0))) := by
  have h := kn_ok hk
  have e : 20 + k < 481 := by omega
  simp (disch := first | assumption | omega) only [cl_155, r_155_0, r_155_1, r_155_4, r_155_7, r_155_8, r_155_11, r_155_12, r_155_13, r_155_16, r_155_18, r_155_19, r_155_20, r_155_21, r_155_22, r_155_23, r_155_26, r_155_27, r_155_29, r_155_32, r_155_33, r_155_34, r_155_37, r_155_38, r_155_41, r_155_43, r_155_44, r_155_45, r_155_46, r_155_47, r_155_48, f_add, o_bi, o_get, o_ial, o_ias, o_ivs, o_ivv, o_lda, o_ldi, o_ne, o_pi, o_ri, o_sti, acR_nx, acR_re, acR_ca, acR_no, acR_if, Kc_i, Kc_n, a_lg, a_ls, a_kl, a_pk, a_sw, cw_n, cw_i, cw_l, cw_r, List.length_cons, List.length_nil, List.getElem?_cons_succ, List.getElem?_cons_zero, ↓reduceIte, decide_true, decide_false, Bool.false_eq_true, or_true, true_or, or_false, false_or, or_self, and_true, true_and, not_true_eq_false, not_false_eq_true, Nat.reduceEqDiff, Nat.reduceLT, Nat.reduceLeDiff, Nat.reduceAdd, Nat.reduceSub, Nat.reduceMul, Nat.reduceDiv, Nat.reduceMod, Nat.zero_add, Nat.add_zero, n_z, n_1, n_cl, n_in, nI_add, ly_61, ly_62, m_isKnot, h, e, m_noAs, hkp, sc_1, sc_sc, wi_sc]
theorem pr_drop {N : Nat} {σ : a_HP} (h : Inv N σ) (k : Int32) : Pair N 58 155 [.int k] σ := by
  unfold Pair
  by_cases hc : k < nI 0 ∨ nI 15 < k
  · rw [c_drop_bad hc, m_drop_bad hc]
    exact ⟨⟨_, rfl, rfl⟩, Inv_ref h (by omega)⟩
  · obtain ⟨k, -, k2, rfl⟩ := rng (by omega) (by omega) hc
    obtain ⟨pr', f', m, h1, h2, h3, h4⟩ := keep_ex (Inv_N (Nat.le_succ N) h)
    have hI := h
    obtain ⟨⟨e, w, hp, hr⟩, a2, a3, a4, a5, a6⟩ := Inv_N (Nat.le_succ N) h
    have hk : k < 16 := by omega
    have es : σ.1 3 k = σ.1 62 (20 + k) := (e.2.1 k hk).2.1
    rw [c_drop hk σ h1]
    by_cases h0 : σ.1 3 k = 0
    · rw [if_pos h0, m_drop hk (a_wi σ 17 1 (σ.1 17 1 + nI 1)) (h2 _ rfl), if_pos (by rw [← h0, es]; rfl)]
      exact ⟨⟨_, rfl, rfl⟩, Inv_ref h (by omega)⟩
    · rw [if_neg h0, m_drop hk (a_wi (a_wi (a_sc σ 7 pr') 6 0 (nI m)) 3 k (nI 0)) (h2 _ rfl), if_neg (by intro q; apply h0; rw [es]; exact q)]
      have e' := eN_f e (fun j hj => h3 j (by omega))
      have w' := vN_f w (fun j hj => h3 j (by omega))
      refine ⟨⟨_, rfl, ?_⟩, ⟨eN_s e' hk _, vN_s w' hk ⟨0, by omega, rfl⟩, pP_f h4 (fun j hj => ?_), pR_f hr (fun j hj hj2 => ?_)⟩, a2, a3, a4, a5, a6⟩
      · exact congrArg (fun z => some (Value.int z)) es.symm
      · show upd f' (20 + k) (nI 0) j = f' j
        rw [ud_1, if_neg (by omega)]
      · show upd f' (20 + k) (nI 0) j = σ.1 62 j
        rw [ud_1, if_neg (by omega)]; exact h3 j (by omega)
