/-! the reference: what changes its rows -/
theorem m_copies {a b n0 n1 : Nat} (ha : a_lay a = some (.inl (0, n0))) (hb : a_lay b = some (.inl (0, n1))) {i j n : Nat} (h0 : i + n ≤ n0) (h1 : j + n ≤ n1) (hn0 : n0 < 2147483648) (hn1 : n1 < 2147483648) (hd : a ≠ b ∨ i + n ≤ j ∨ j + n ≤ i) (σ : a_HP) (Q : Option Value → a_HP → Prop) : Cl 130 [.ref a, .int (nI i), .ref b, .int (nI j), .int (nI n)] σ Q = Q none (a_sc σ b (va_cpy (σ.1 a) (σ.1 b) i j n)) := by
  have key := lp_up (P := fun k => Rn 130 3 [some (.ref a), some (.int (nI i)), some (.ref b), some (.int (nI j)), some (.int (nI n)), some (.int (nI k))] [] (a_sc σ b (va_cpy (σ.1 a) (σ.1 b) i j k)) Q) n (fun k hk => by
    rw [r_130_3]
    have e1 : i + k < n0 := by omega
    have e2 : j + k < n1 := by omega
    have e3 : (if a = b then va_cpy (σ.1 a) (σ.1 b) i j k else σ.1 a) (i + k) = σ.1 a (i + k) := by
      by_cases hab : a = b
      · subst hab
        rw [if_pos rfl]
        unfold va_cpy
        rw [if_neg]
        rintro ⟨z1, z2⟩
        rcases hd with hd | hd | hd
        · exact hd rfl
        · omega
        · omega
      · rw [if_neg hab]
    have e4 : upd (va_cpy (σ.1 a) (σ.1 b) i j k) (j + k) (σ.1 a (i + k)) = va_cpy (σ.1 a) (σ.1 b) i j (k + 1) := by
      funext z
      simp only [ud_1, va_cpy]
      by_cases hz : z = j + k
      · subst hz
        rw [if_pos rfl, if_pos ⟨by omega, by omega⟩, show j + k - j = k by omega]
      · rw [if_neg hz]
        by_cases h2 : j ≤ z ∧ z < j + k
        · rw [if_pos h2, if_pos ⟨by omega, by omega⟩]
        · rw [if_neg h2, if_neg (by omega)]
    simp (disch := first | assumption | omega) only [r_130_0, r_130_1, r_130_5, r_130_7, r_130_10, r_130_11, r_130_12, r_130_14, r_130_15, r_130_16, r_130_17, r_130_19, r_130_20, r_130_21, r_130_22, r_130_25, r_130_28, f_add, o_bi, o_cge, o_go, o_ial, o_ias, o_inc, o_lda, o_ldi, o_pi, o_rv, o_sti, acR_nx, acR_re, acR_ca, acR_no, acR_if, Kc_i, Kc_n, a_lg, a_ls, a_kl, a_pk, a_sw, cw_n, cw_i, cw_l, cw_r, List.length_cons, List.length_nil, List.getElem?_cons_succ, List.getElem?_cons_zero, ↓reduceIte, decide_true, decide_false, Bool.false_eq_true, or_true, true_or, or_false, false_or, or_self, and_true, true_and, not_true_eq_false, not_false_eq_true, Nat.reduceEqDiff, Nat.reduceLT, Nat.reduceLeDiff, Nat.reduceAdd, Nat.reduceSub, Nat.reduceMul, Nat.reduceDiv, Nat.reduceMod, Nat.zero_add, Nat.add_zero, n_z, n_1, n_ltz, n_zlt, n_lt, n_eq, n_cl, n_in, nI_add, pk_mul, n_div, n_sub, nm_mod, ha, hb, hk, e1, e2, sc_1, wi_sc, sc_sc, e3, e4])
  simp (disch := first | assumption | omega) only [cl_130, r_130_0, r_130_1, r_130_5, r_130_7, r_130_10, r_130_11, r_130_12, r_130_14, r_130_15, r_130_16, r_130_17, r_130_19, r_130_20, r_130_21, r_130_22, r_130_25, r_130_28, f_add, o_bi, o_cge, o_go, o_ial, o_ias, o_inc, o_lda, o_ldi, o_pi, o_rv, o_sti, acR_nx, acR_re, acR_ca, acR_no, acR_if, Kc_i, Kc_n, a_lg, a_ls, a_kl, a_pk, a_sw, cw_n, cw_i, cw_l, cw_r, List.length_cons, List.length_nil, List.getElem?_cons_succ, List.getElem?_cons_zero, ↓reduceIte, decide_true, decide_false, Bool.false_eq_true, or_true, true_or, or_false, false_or, or_self, and_true, true_and, not_true_eq_false, not_false_eq_true, Nat.reduceEqDiff, Nat.reduceLT, Nat.reduceLeDiff, Nat.reduceAdd, Nat.reduceSub, Nat.reduceMul, Nat.reduceDiv, Nat.reduceMod, Nat.zero_add, Nat.add_zero, n_z, n_1, n_ltz, n_zlt, n_lt, n_eq, n_cl, n_in, nI_add, pk_mul, n_div, n_sub, nm_mod]
  have e0 : a_sc σ b (va_cpy (σ.1 a) (σ.1 b) i j 0) = σ := by
    have : va_cpy (σ.1 a) (σ.1 b) i j 0 = σ.1 b := by
      funext z
      simp only [va_cpy]
      rw [if_neg (by omega)]
    rw [this, sc_id]
  rw [e0] at key
  refine Eq.trans key ?_
  rw [r_130_3]
  simp (disch := first | assumption | omega) only [r_130_0, r_130_1, r_130_5, r_130_7, r_130_10, r_130_11, r_130_12, r_130_14, r_130_15, r_130_16, r_130_17, r_130_19, r_130_20, r_130_21, r_130_22, r_130_25, r_130_28, f_add, o_bi, o_cge, o_go, o_ial, o_ias, o_inc, o_lda, o_ldi, o_pi, o_rv, o_sti, acR_nx, acR_re, acR_ca, acR_no, acR_if, Kc_i, Kc_n, a_lg, a_ls, a_kl, a_pk, a_sw, cw_n, cw_i, cw_l, cw_r, List.length_cons, List.length_nil, List.getElem?_cons_succ, List.getElem?_cons_zero, ↓reduceIte, decide_true, decide_false, Bool.false_eq_true, or_true, true_or, or_false, false_or, or_self, and_true, true_and, not_true_eq_false, not_false_eq_true, Nat.reduceEqDiff, Nat.reduceLT, Nat.reduceLeDiff, Nat.reduceAdd, Nat.reduceSub, Nat.reduceMul, Nat.reduceDiv, Nat.reduceMod, Nat.zero_add, Nat.add_zero, n_z, n_1, n_ltz, n_zlt, n_lt, n_eq, n_cl, n_in, nI_add, pk_mul, n_div, n_sub, nm_mod, Nat.lt_irrefl]
def pBg (rain twine : Int32) (j : Nat) : Int32 := if j = 0 then rain else if j = 1 then twine else if 52 ≤ j ∧ j < 61 then nI 9 else nI 0
theorem m_begins {a : Nat} (ha : aT a) (r t : Int32) (σ : a_HP) (Q : Option Value → a_HP → Prop) : Cl 129 [.ref a, .int r, .int t] σ Q = Q none (a_sc σ a (fun j => if j < 481 then pBg r t j else σ.1 a j)) := by
  unfold aT at ha
  have key := lp_up (P := fun k => Rn 129 2 [some (.ref a), some (.int r), some (.int t), some (.int (nI k))] [] (a_sc σ a (fun j => if j < k then (if 52 ≤ j ∧ j < 61 then nI 9 else nI 0) else σ.1 a j)) Q) 481 (fun k hk => by
    rw [r_129_2]
    have e4 : ∀ v, v = (if 52 ≤ k ∧ k < 61 then nI 9 else nI 0) → upd (fun j => if j < k then (if 52 ≤ j ∧ j < 61 then nI 9 else nI 0) else σ.1 a j) k v = (fun j => if j < k + 1 then (if 52 ≤ j ∧ j < 61 then nI 9 else nI 0) else σ.1 a j) := by
      intro v hv
      funext z
      simp only [ud_1]
      by_cases hz : z = k
      · subst hz
        rw [if_pos rfl, if_pos (by omega), hv]
      · rw [if_neg hz]
        by_cases h2 : z < k
        · rw [if_pos h2, if_pos (show z < k + 1 by omega)]
        · rw [if_neg h2, if_neg (show ¬ z < k + 1 by omega)]
    by_cases c1 : k < 52
    · have e5 := e4 (nI 0) (by rw [if_neg (by omega)])
      simp (disch := first | assumption | omega) only [r_129_0, r_129_1, r_129_3, r_129_6, r_129_9, r_129_10, r_129_11, r_129_12, r_129_14, r_129_17, r_129_18, r_129_20, r_129_23, r_129_25, r_129_28, r_129_29, r_129_30, r_129_33, r_129_36, r_129_37, r_129_38, r_129_39, r_129_40, r_129_41, r_129_42, r_129_43, r_129_44, o_cge, o_clt, o_go, o_ias, o_inc, o_lda, o_ldi, o_pi, o_rv, o_sti, acR_nx, acR_re, acR_ca, acR_no, acR_if, Kc_i, Kc_n, a_lg, a_ls, a_kl, a_pk, a_sw, cw_n, cw_i, cw_l, cw_r, List.length_cons, List.length_nil, List.getElem?_cons_succ, List.getElem?_cons_zero, ↓reduceIte, decide_true, decide_false, Bool.false_eq_true, or_true, true_or, or_false, false_or, or_self, and_true, true_and, not_true_eq_false, not_false_eq_true, Nat.reduceEqDiff, Nat.reduceLT, Nat.reduceLeDiff, Nat.reduceAdd, Nat.reduceSub, Nat.reduceMul, Nat.reduceDiv, Nat.reduceMod, Nat.zero_add, Nat.add_zero, n_z, n_1, n_ltz, n_zlt, n_lt, n_eq, n_cl, n_in, nI_add, pk_mul, n_div, n_sub, nm_mod, ha, hk, c1, sc_1, wi_sc, sc_sc, e5]
    · by_cases c2 : k < 61
      · have e5 := e4 (nI 9) (by rw [if_pos ⟨by omega, c2⟩])
        simp (disch := first | assumption | omega) only [r_129_0, r_129_1, r_129_3, r_129_6, r_129_9, r_129_10, r_129_11, r_129_12, r_129_14, r_129_17, r_129_18, r_129_20, r_129_23, r_129_25, r_129_28, r_129_29, r_129_30, r_129_33, r_129_36, r_129_37, r_129_38, r_129_39, r_129_40, r_129_41, r_129_42, r_129_43, r_129_44, o_cge, o_clt, o_go, o_ias, o_inc, o_lda, o_ldi, o_pi, o_rv, o_sti, acR_nx, acR_re, acR_ca, acR_no, acR_if, Kc_i, Kc_n, a_lg, a_ls, a_kl, a_pk, a_sw, cw_n, cw_i, cw_l, cw_r, List.length_cons, List.length_nil, List.getElem?_cons_succ, List.getElem?_cons_zero, ↓reduceIte, decide_true, decide_false, Bool.false_eq_true, or_true, true_or, or_false, false_or, or_self, and_true, true_and, not_true_eq_false, not_false_eq_true, Nat.reduceEqDiff, Nat.reduceLT, Nat.reduceLeDiff, Nat.reduceAdd, Nat.reduceSub, Nat.reduceMul, Nat.reduceDiv, Nat.reduceMod, Nat.zero_add, Nat.add_zero, n_z, n_1, n_ltz, n_zlt, n_lt, n_eq, n_cl, n_in, nI_add, pk_mul, n_div, n_sub, nm_mod, ha, hk, c1, c2, sc_1, wi_sc, sc_sc, e5]
      · have e5 := e4 (nI 0) (by rw [if_neg (by omega)])
        simp (disch := first | assumption | omega) only [r_129_0, r_129_1, r_129_3, r_129_6, r_129_9, r_129_10, r_129_11, r_129_12, r_129_14, r_129_17, r_129_18, r_129_20, r_129_23, r_129_25, r_129_28, r_129_29, r_129_30, r_129_33, r_129_36, r_129_37, r_129_38, r_129_39, r_129_40, r_129_41, r_129_42, r_129_43, r_129_44, o_cge, o_clt, o_go, o_ias, o_inc, o_lda, o_ldi, o_pi, o_rv, o_sti, acR_nx, acR_re, acR_ca, acR_no, acR_if, Kc_i, Kc_n, a_lg, a_ls, a_kl, a_pk, a_sw, cw_n, cw_i, cw_l, cw_r, List.length_cons, List.length_nil, List.getElem?_cons_succ, List.getElem?_cons_zero, ↓reduceIte, decide_true, decide_false, Bool.false_eq_true, or_true, true_or, or_false, false_or, or_self, and_true, true_and, not_true_eq_false, not_false_eq_true, Nat.reduceEqDiff, Nat.reduceLT, Nat.reduceLeDiff, Nat.reduceAdd, Nat.reduceSub, Nat.reduceMul, Nat.reduceDiv, Nat.reduceMod, Nat.zero_add, Nat.add_zero, n_z, n_1, n_ltz, n_zlt, n_lt, n_eq, n_cl, n_in, nI_add, pk_mul, n_div, n_sub, nm_mod, ha, hk, c1, c2, sc_1, wi_sc, sc_sc, e5])
  simp (disch := first | assumption | omega) only [cl_129, r_129_0, r_129_1, r_129_3, r_129_6, r_129_9, r_129_10, r_129_11, r_129_12, r_129_14, r_129_17, r_129_18, r_129_20, r_129_23, r_129_25, r_129_28, r_129_29, r_129_30, r_129_33, r_129_36, r_129_37, r_129_38, r_129_39, r_129_40, r_129_41, r_129_42, r_129_43, r_129_44, o_cge, o_clt, o_go, o_ias, o_inc, o_lda, o_ldi, o_pi, o_rv, o_sti, acR_nx, acR_re, acR_ca, acR_no, acR_if, Kc_i, Kc_n, a_lg, a_ls, a_kl, a_pk, a_sw, cw_n, cw_i, cw_l, cw_r, List.length_cons, List.length_nil, List.getElem?_cons_succ, List.getElem?_cons_zero, ↓reduceIte, decide_true, decide_false, Bool.false_eq_true, or_true, true_or, or_false, false_or, or_self, and_true, true_and, not_true_eq_false, not_false_eq_true, Nat.reduceEqDiff, Nat.reduceLT, Nat.reduceLeDiff, Nat.reduceAdd, Nat.reduceSub, Nat.reduceMul, Nat.reduceDiv, Nat.reduceMod, Nat.zero_add, Nat.add_zero, n_z, n_1, n_ltz, n_zlt, n_lt, n_eq, n_cl, n_in, nI_add, pk_mul, n_div, n_sub, nm_mod]
  have e0 : a_sc σ a (fun j => if j < 0 then (if 52 ≤ j ∧ j < 61 then nI 9 else nI 0) else σ.1 a j) = σ := by
    have : (fun j => if j < 0 then (if 52 ≤ j ∧ j < 61 then nI 9 else nI 0) else σ.1 a j) = σ.1 a := by funext z; simp
    rw [this, sc_id]
  rw [e0] at key
  refine Eq.trans key ?_
  rw [r_129_2]
  have e6 : upd (upd (fun j => if j < 481 then (if 52 ≤ j ∧ j < 61 then nI 9 else nI 0) else σ.1 a j) 0 r) 1 t = (fun j => if j < 481 then pBg r t j else σ.1 a j) := by
    funext z
    simp only [ud_1, pBg]
    by_cases h1 : z = 1
    · subst h1; simp
    · by_cases h0 : z = 0
      · subst h0; simp
      · simp [h0, h1]
  simp (disch := first | assumption | omega) only [r_129_0, r_129_1, r_129_3, r_129_6, r_129_9, r_129_10, r_129_11, r_129_12, r_129_14, r_129_17, r_129_18, r_129_20, r_129_23, r_129_25, r_129_28, r_129_29, r_129_30, r_129_33, r_129_36, r_129_37, r_129_38, r_129_39, r_129_40, r_129_41, r_129_42, r_129_43, r_129_44, o_cge, o_clt, o_go, o_ias, o_inc, o_lda, o_ldi, o_pi, o_rv, o_sti, acR_nx, acR_re, acR_ca, acR_no, acR_if, Kc_i, Kc_n, a_lg, a_ls, a_kl, a_pk, a_sw, cw_n, cw_i, cw_l, cw_r, List.length_cons, List.length_nil, List.getElem?_cons_succ, List.getElem?_cons_zero, ↓reduceIte, decide_true, decide_false, Bool.false_eq_true, or_true, true_or, or_false, false_or, or_self, and_true, true_and, not_true_eq_false, not_false_eq_true, Nat.reduceEqDiff, Nat.reduceLT, Nat.reduceLeDiff, Nat.reduceAdd, Nat.reduceSub, Nat.reduceMul, Nat.reduceDiv, Nat.reduceMod, Nat.zero_add, Nat.add_zero, n_z, n_1, n_ltz, n_zlt, n_lt, n_eq, n_cl, n_in, nI_add, pk_mul, n_div, n_sub, nm_mod, Nat.lt_irrefl, ha, sc_1, wi_sc, sc_sc, e6]
theorem m_ties {a : Nat} (ha : aT a) {k : Nat} (hk : k < 16) (d s v : Int32) (σ : a_HP) (Q : Option Value → a_HP → Prop) : Cl 152 [.ref a, .int (nI k), .int d, .int s, .int v] σ Q = Q none (a_sc σ a (upd (upd (upd (σ.1 a) (4 + k) d) (20 + k) s) (36 + k) v)) := by
  unfold aT at ha
  have e1 : 4 + k < 481 := by omega
  have e2 : 20 + k < 481 := by omega
  have e3 : 36 + k < 481 := by omega
  simp (disch := first | assumption | omega) only [cl_152, r_152_0, r_152_1, r_152_2, r_152_3, r_152_4, r_152_5, r_152_6, r_152_7, r_152_9, r_152_10, r_152_11, r_152_12, r_152_13, r_152_14, r_152_16, r_152_17, r_152_18, r_152_20, r_152_21, f_add, o_bi, o_ias, o_lda, o_ldi, o_pi, o_rv, acR_nx, acR_re, acR_ca, acR_no, acR_if, Kc_i, Kc_n, a_lg, a_ls, a_kl, a_pk, a_sw, cw_n, cw_i, cw_l, cw_r, List.length_cons, List.length_nil, List.getElem?_cons_succ, List.getElem?_cons_zero, ↓reduceIte, decide_true, decide_false, Bool.false_eq_true, or_true, true_or, or_false, false_or, or_self, and_true, true_and, not_true_eq_false, not_false_eq_true, Nat.reduceEqDiff, Nat.reduceLT, Nat.reduceLeDiff, Nat.reduceAdd, Nat.reduceSub, Nat.reduceMul, Nat.reduceDiv, Nat.reduceMod, Nat.zero_add, Nat.add_zero, n_z, n_1, n_ltz, n_zlt, n_lt, n_eq, n_cl, n_in, nI_add, pk_mul, n_div, n_sub, nm_mod, ha, e1, e2, e3, wi_sc, sc_1, sc_sc]
theorem m_becomes {w : Nat} (hw : w < 481) (v : Int32) (σ : a_HP) (Q : Option Value → a_HP → Prop) : Cl 145 [.ref 61, .int (nI w), .int v] σ Q = Q (some (.int (σ.1 62 w))) (a_wi σ 62 w v) := by
  simp (disch := first | assumption | omega) only [cl_145, r_145_0, r_145_1, r_145_4, r_145_5, r_145_6, r_145_7, r_145_8, r_145_11, r_145_12, r_145_13, r_145_14, r_145_15, o_get, o_ial, o_ias, o_lda, o_ldi, o_ri, o_sti, acR_nx, acR_re, acR_ca, acR_no, acR_if, Kc_i, Kc_n, a_lg, a_ls, a_kl, a_pk, a_sw, cw_n, cw_i, cw_l, cw_r, List.length_cons, List.length_nil, List.getElem?_cons_succ, List.getElem?_cons_zero, ↓reduceIte, decide_true, decide_false, Bool.false_eq_true, or_true, true_or, or_false, false_or, or_self, and_true, true_and, not_true_eq_false, not_false_eq_true, Nat.reduceEqDiff, Nat.reduceLT, Nat.reduceLeDiff, Nat.reduceAdd, Nat.reduceSub, Nat.reduceMul, Nat.reduceDiv, Nat.reduceMod, Nat.zero_add, Nat.add_zero, n_z, n_1, n_ltz, n_zlt, n_lt, n_eq, n_cl, n_in, nI_add, pk_mul, n_div, n_sub, nm_mod, ly_61, ly_62, hw]
theorem m_bad (σ : a_HP) (Q : Option Value → a_HP → Prop) : Cl 125 [.ref 61] σ Q = Q (some (.int (-2))) (a_wi σ 68 0 (σ.1 68 0 + nI 1)) := by
  simp (disch := first | assumption | omega) only [cl_125, r_125_0, r_125_1, r_125_4, r_125_5, r_125_6, r_125_7, r_125_8, r_125_9, r_125_10, r_125_12, f_add, o_bi, o_dup2, o_get, o_ial, o_ias, o_lda, o_pi, o_ri, acR_nx, acR_re, acR_ca, acR_no, acR_if, Kc_i, Kc_n, a_lg, a_ls, a_kl, a_pk, a_sw, cw_n, cw_i, cw_l, cw_r, List.length_cons, List.length_nil, List.getElem?_cons_succ, List.getElem?_cons_zero, ↓reduceIte, decide_true, decide_false, Bool.false_eq_true, or_true, true_or, or_false, false_or, or_self, and_true, true_and, not_true_eq_false, not_false_eq_true, Nat.reduceEqDiff, Nat.reduceLT, Nat.reduceLeDiff, Nat.reduceAdd, Nat.reduceSub, Nat.reduceMul, Nat.reduceDiv, Nat.reduceMod, Nat.zero_add, Nat.add_zero, n_z, n_1, n_ltz, n_zlt, n_lt, n_eq, n_cl, n_in, nI_add, pk_mul, n_div, n_sub, nm_mod, ly_61, ly_68]
theorem m_badAs (x : Int32) (σ : a_HP) (Q : Option Value → a_HP → Prop) : Cl 126 [.ref 61, .int x] σ Q = Q (some (.int x)) (a_wi σ 68 0 (σ.1 68 0 + nI 1)) := by
  simp (disch := first | assumption | omega) only [cl_126, r_126_0, r_126_1, r_126_4, r_126_5, r_126_6, r_126_7, r_126_8, r_126_9, r_126_10, r_126_11, f_add, o_bi, o_dup2, o_get, o_ial, o_ias, o_lda, o_ldi, o_pi, o_ri, acR_nx, acR_re, acR_ca, acR_no, acR_if, Kc_i, Kc_n, a_lg, a_ls, a_kl, a_pk, a_sw, cw_n, cw_i, cw_l, cw_r, List.length_cons, List.length_nil, List.getElem?_cons_succ, List.getElem?_cons_zero, ↓reduceIte, decide_true, decide_false, Bool.false_eq_true, or_true, true_or, or_false, false_or, or_self, and_true, true_and, not_true_eq_false, not_false_eq_true, Nat.reduceEqDiff, Nat.reduceLT, Nat.reduceLeDiff, Nat.reduceAdd, Nat.reduceSub, Nat.reduceMul, Nat.reduceDiv, Nat.reduceMod, Nat.zero_add, Nat.add_zero, n_z, n_1, n_ltz, n_zlt, n_lt, n_eq, n_cl, n_in, nI_add, pk_mul, n_div, n_sub, nm_mod, ly_61, ly_68]
theorem m_noAs (x : Int32) (σ : a_HP) (Q : Option Value → a_HP → Prop) : Cl 127 [.ref 61, .int x] σ Q = Q (some (.int x)) (a_wi σ 68 1 (σ.1 68 1 + nI 1)) := by
  simp (disch := first | assumption | omega) only [cl_127, r_127_0, r_127_1, r_127_4, r_127_5, r_127_6, r_127_7, r_127_8, r_127_9, r_127_10, r_127_11, f_add, o_bi, o_dup2, o_get, o_ial, o_ias, o_lda, o_ldi, o_pi, o_ri, acR_nx, acR_re, acR_ca, acR_no, acR_if, Kc_i, Kc_n, a_lg, a_ls, a_kl, a_pk, a_sw, cw_n, cw_i, cw_l, cw_r, List.length_cons, List.length_nil, List.getElem?_cons_succ, List.getElem?_cons_zero, ↓reduceIte, decide_true, decide_false, Bool.false_eq_true, or_true, true_or, or_false, false_or, or_self, and_true, true_and, not_true_eq_false, not_false_eq_true, Nat.reduceEqDiff, Nat.reduceLT, Nat.reduceLeDiff, Nat.reduceAdd, Nat.reduceSub, Nat.reduceMul, Nat.reduceDiv, Nat.reduceMod, Nat.zero_add, Nat.add_zero, n_z, n_1, n_ltz, n_zlt, n_lt, n_eq, n_cl, n_in, nI_add, pk_mul, n_div, n_sub, nm_mod, ly_61, ly_68]
theorem m_full (σ : a_HP) (Q : Option Value → a_HP → Prop) : Cl 128 [.ref 61] σ Q = Q (some (.int (-4))) (a_wi σ 68 2 (σ.1 68 2 + nI 1)) := by
  simp (disch := first | assumption | omega) only [cl_128, r_128_0, r_128_1, r_128_4, r_128_5, r_128_6, r_128_7, r_128_8, r_128_9, r_128_10, r_128_12, f_add, o_bi, o_dup2, o_get, o_ial, o_ias, o_lda, o_pi, o_ri, acR_nx, acR_re, acR_ca, acR_no, acR_if, Kc_i, Kc_n, a_lg, a_ls, a_kl, a_pk, a_sw, cw_n, cw_i, cw_l, cw_r, List.length_cons, List.length_nil, List.getElem?_cons_succ, List.getElem?_cons_zero, ↓reduceIte, decide_true, decide_false, Bool.false_eq_true, or_true, true_or, or_false, false_or, or_self, and_true, true_and, not_true_eq_false, not_false_eq_true, Nat.reduceEqDiff, Nat.reduceLT, Nat.reduceLeDiff, Nat.reduceAdd, Nat.reduceSub, Nat.reduceMul, Nat.reduceDiv, Nat.reduceMod, Nat.zero_add, Nat.add_zero, n_z, n_1, n_ltz, n_zlt, n_lt, n_eq, n_cl, n_in, nI_add, pk_mul, n_div, n_sub, nm_mod, ly_61, ly_68]
theorem m_layAside (σ : a_HP) (Q : Option Value → a_HP → Prop) : Cl 170 [.ref 61] σ Q = Q none (a_sc σ 64 (va_cpy (σ.1 62) (σ.1 64) 0 0 61)) := by
  simp (disch := first | assumption | omega | decide) only [cl_170, r_170_0, r_170_1, r_170_4, r_170_5, r_170_6, r_170_9, r_170_10, r_170_12, r_170_15, o_get, o_ivs, o_lda, o_pi, o_rv, acR_nx, acR_re, acR_ca, acR_no, acR_if, Kc_i, Kc_n, a_lg, a_ls, a_kl, a_pk, a_sw, cw_n, cw_i, cw_l, cw_r, List.length_cons, List.length_nil, List.getElem?_cons_succ, List.getElem?_cons_zero, ↓reduceIte, decide_true, decide_false, Bool.false_eq_true, or_true, true_or, or_false, false_or, or_self, and_true, true_and, not_true_eq_false, not_false_eq_true, Nat.reduceEqDiff, Nat.reduceLT, Nat.reduceLeDiff, Nat.reduceAdd, Nat.reduceSub, Nat.reduceMul, Nat.reduceDiv, Nat.reduceMod, Nat.zero_add, Nat.add_zero, n_z, n_1, n_ltz, n_zlt, n_lt, n_eq, n_cl, n_in, nI_add, pk_mul, n_div, n_sub, nm_mod, ly_61, m_copies ly_62 ly_64]
theorem bit_01 (x : Int32) : x &&& nI 1 = 0 ∨ x &&& nI 1 = nI 1 := by
  have h : x &&& nI 1 = nI (x.toBitVec.toNat % 2 ^ 1) := pk_and x 1 (by decide)
  rw [h]
  have : x.toBitVec.toNat % 2 ^ 1 = 0 ∨ x.toBitVec.toNat % 2 ^ 1 = 1 := by omega
  rcases this with e | e <;> rw [e]
  · exact Or.inl nI_0
  · exact Or.inr rfl
theorem m_has (x : Int32) (i : Nat) (σ : a_HP) (Q : Option Value → a_HP → Prop) : Cl 123 [.int x, .int (nI i)] σ Q = if x >>> (nI i &&& 31) &&& nI 1 = 0 then Q (some (.int (nI 0))) σ else Q (some (.int (nI 1))) σ := by
  simp (disch := first | assumption | omega) only [cl_123, r_123_0, r_123_1, r_123_2, r_123_3, r_123_4, r_123_5, r_123_6, r_123_9, r_123_10, r_123_13, r_123_14, f_and, f_shr, o_bi, o_cne, o_go, o_ldi, o_pi, o_rz, acR_nx, acR_re, acR_ca, acR_no, acR_if, Kc_i, Kc_n, a_lg, a_ls, a_kl, a_pk, a_sw, cw_n, cw_i, cw_l, cw_r, List.length_cons, List.length_nil, List.getElem?_cons_succ, List.getElem?_cons_zero, ↓reduceIte, decide_true, decide_false, Bool.false_eq_true, or_true, true_or, or_false, false_or, or_self, and_true, true_and, not_true_eq_false, not_false_eq_true, Nat.reduceEqDiff, Nat.reduceLT, Nat.reduceLeDiff, Nat.reduceAdd, Nat.reduceSub, Nat.reduceMul, Nat.reduceDiv, Nat.reduceMod, Nat.zero_add, Nat.add_zero, n_z, n_1, n_ltz, n_zlt, n_lt, n_eq, n_cl, n_in, nI_add, pk_mul, n_div, n_sub, nm_mod]
  have n01 : ¬ nI 1 = 0 := by decide
  rcases bit_01 (x >>> (nI i &&& 31)) with e | e
  · rw [e, if_neg (by decide), if_pos rfl]
  · rw [e, if_pos rfl, if_neg n01]
def mR (kind n : Int32) : Int32 := if kind = nI 1 then n - n / nI 2 * nI 2 else if kind = nI 2 then nI 2 else if kind = nI 3 then n - n / nI 2 * nI 2 else if kind = nI 4 then (if n - n / nI 3 * nI 3 = 0 then nI 2 else nI 1) else nI 1
theorem m_rots (kind n : Int32) (σ : a_HP) (Q : Option Value → a_HP → Prop) : Cl 135 [.int kind, .int n] σ Q = Q (some (.int (mR kind n))) σ := by
  simp (disch := omega) only [cl_135, r_135_0, r_135_1, r_135_32, r_135_33, r_135_34, r_135_35, r_135_36, r_135_37, r_135_38, r_135_39, r_135_40, r_135_41, r_135_44, r_135_45, r_135_48, r_135_49, r_135_50, r_135_51, f_rem, o_bd, o_go, o_ldi, o_ne, o_pi, o_ri, o_sw, acR_nx, acR_re, acR_ca, acR_no, acR_if, Kc_i, Kc_n, a_lg, a_ls, a_kl, a_pk, a_sw, cw_n, cw_i, cw_l, cw_r, List.length_cons, List.length_nil, List.getElem?_cons_succ, List.getElem?_cons_zero, ↓reduceIte, decide_true, decide_false, Bool.false_eq_true, or_true, true_or, or_false, false_or, or_self, and_true, true_and, not_true_eq_false, not_false_eq_true, Nat.reduceEqDiff, Nat.reduceLT, Nat.reduceLeDiff, Nat.reduceAdd, Nat.reduceSub, Nat.reduceMul, Nat.reduceDiv, Nat.reduceMod, Nat.zero_add, Nat.add_zero, n_z, n_1, n_ltz, n_zlt, n_lt, n_eq, n_cl, n_in, nI_add, pk_mul, n_div, n_sub, nm_mod]
  simp only [mR, q_if]
theorem mR_kR {kind : Int32} {n : Nat} (h : n < 2147483648) : mR kind (nI n) = kR kind (nI n) := by
  have e : nI n - nI n / nI 2 * nI 2 = if nI n - nI n / nI 2 * nI 2 = 0 then nI 0 else nI 1 := by
    rw [n_rem h (by omega) (by omega)]
    have : n % 2 = 0 ∨ n % 2 = 1 := by omega
    rcases this with e | e <;> rw [e] <;> decide
  unfold mR kR
  rw [← e]
/-- the reference's night -/
def mN (s rot bit : Int32) : Int32 := if 0 < s then (if bit = 0 then s else if rot < s then s - rot else nI 0) else s
theorem kR_ok (kind : Int32) (n : Int32) : ∃ d : Nat, d ≤ 2 ∧ kR kind n = nI d := by
  unfold kR
  by_cases h0 : n - n / nI 2 * nI 2 = 0 <;> by_cases h6 : n - n / nI 3 * nI 3 = 0 <;> by_cases h1 : kind = nI 1
  all_goals simp only [h0, h1, h6, if_true, if_false]
  all_goals first | exact ⟨0, by omega, rfl⟩ | exact ⟨1, by omega, rfl⟩ | skip
  all_goals (by_cases h2 : kind = nI 2)
  all_goals simp only [h2, if_true, if_false]
  all_goals first | exact ⟨2, by omega, rfl⟩ | skip
  all_goals (by_cases h3 : kind = nI 3)
  all_goals simp only [h3, if_true, if_false]
  all_goals first | exact ⟨0, by omega, rfl⟩ | exact ⟨1, by omega, rfl⟩ | skip
  all_goals (by_cases h4 : kind = nI 4)
  all_goals simp only [h4, if_true, if_false]
  all_goals first | exact ⟨2, by omega, rfl⟩ | exact ⟨1, by omega, rfl⟩
theorem pos_ne {s : Int32} (hs : ∃ d : Nat, d ≤ 9 ∧ s = nI d) : (0 < s) = ¬ (s = 0) := by
  obtain ⟨d, hd, rfl⟩ := hs
  rw [n_z (by omega), n_zlt (by omega)]
  exact propext ⟨fun h => by omega, fun h => by omega⟩
theorem rot_lt {s r : Int32} (hs : ∃ d : Nat, d ≤ 9 ∧ s = nI d) (hr : ∃ d : Nat, d ≤ 2 ∧ r = nI d) : (nI 0 < s - r) = (r < s) := by
  obtain ⟨d, hd, rfl⟩ := hs
  obtain ⟨e, he, rfl⟩ := hr
  have key : ∀ d : Fin 10, ∀ e : Fin 3, decide (nI 0 < nI d.val - nI e.val) = decide (nI e.val < nI d.val) := by decide +kernel
  have := key ⟨d, by omega⟩ ⟨e, by omega⟩
  exact propext (by simpa using this)
theorem rot_0 {s r : Int32} (hs : ∃ d : Nat, d ≤ 9 ∧ s = nI d) (hr : ∃ d : Nat, d ≤ 2 ∧ r = nI d) (h : r < s) : ¬ s - r = 0 := by
  obtain ⟨d, hd, rfl⟩ := hs
  obtain ⟨e, he, rfl⟩ := hr
  rw [n_lt (by omega) (by omega)] at h
  rw [n_sub (by omega), n_z (by omega)]
  omega
theorem lp_dn {C : Nat → Prop} (e : Nat) (hx : C e) (hs : ∀ i, i < e → C (i + 1) → C i) : C 0 := by
  have h : ∀ k, k ≤ e → C (e - k) := by
    intro k
    induction k with
    | zero => intro _; exact hx
    | succ k ih =>
      intro hk
      have := ih (by omega)
      exact hs (e - (k + 1)) (by omega) (by rw [show e - (k + 1) + 1 = e - k by omega]; exact this)
  have := h e (Nat.le_refl e)
  rwa [Nat.sub_self] at this
theorem m_nightGoes {a : Nat} (ha : aT a) (σ : a_HP) (hv : vKn (σ.1 a 0) (fun j => σ.1 a (4 + j)) (fun j => σ.1 a (20 + j))) {n : Nat} (hn : n < 2147483648) (hng : σ.1 a 3 = nI n) (Q : Option Value → a_HP → Prop) : Cl 156 [.ref a] σ Q = Q (some (.int (pNh (σ.1 a 2) (σ.1 a 3) (fun j => σ.1 a (4 + j)) (fun j => σ.1 a (20 + j)) 16))) (a_sc σ a (upd (fun j => if 20 ≤ j ∧ j < 36 then pN (σ.1 a 2) (σ.1 a 3) (fun j => σ.1 a (4 + j)) (fun j => σ.1 a (20 + j)) (j - 20) else σ.1 a j) 3 (σ.1 a 3 + nI 1))) := by
  have ha' := ha
  unfold aT at ha
  generalize hpn : pN (σ.1 a 2) (σ.1 a 3) (fun j => σ.1 a (4 + j)) (fun j => σ.1 a (20 + j)) = pn
  generalize hF : (fun (i j : Nat) => if 20 ≤ j ∧ j < 20 + i then pn (j - 20) else σ.1 a j) = F
  have rd : ∀ i j, ¬ (20 ≤ j ∧ j < 20 + i) → F i j = σ.1 a j := by
    intro i j h
    rw [← hF]
    dsimp only
    rw [if_neg h]
  have key := lp_dn (C := fun i => ∀ x3 x4, Rn 156 4 [some (.ref a), some (.int (pNh (σ.1 a 2) (σ.1 a 3) (fun j => σ.1 a (4 + j)) (fun j => σ.1 a (20 + j)) i)), some (.int (nI i)), x3, x4] [] (a_sc σ a (F i)) Q = Q (some (.int (pNh (σ.1 a 2) (σ.1 a 3) (fun j => σ.1 a (4 + j)) (fun j => σ.1 a (20 + j)) 16))) (a_sc σ a (upd (F 16) 3 (σ.1 a 3 + nI 1)))) 16 (fun x3 x4 => by
    rw [r_156_4]
    simp (disch := first | assumption | omega) only [r_156_0, r_156_1, r_156_2, r_156_3, r_156_5, r_156_7, r_156_10, r_156_11, r_156_13, r_156_14, r_156_15, r_156_16, r_156_17, r_156_18, r_156_19, r_156_20, r_156_21, r_156_22, r_156_23, r_156_24, r_156_25, r_156_28, r_156_30, r_156_31, r_156_34, r_156_35, r_156_36, r_156_37, r_156_38, r_156_41, r_156_44, r_156_45, r_156_47, r_156_48, r_156_49, r_156_50, r_156_52, r_156_55, r_156_56, r_156_58, r_156_59, r_156_62, r_156_63, r_156_64, r_156_65, r_156_66, r_156_68, r_156_71, r_156_72, r_156_75, r_156_76, r_156_77, r_156_78, r_156_81, r_156_84, r_156_85, r_156_86, r_156_87, r_156_88, r_156_89, r_156_90, r_156_91, r_156_92, f_add, f_sub, o_bi, o_cge, o_cle, o_dup2, o_eq, o_go, o_ial, o_ias, o_inc, o_ivs, o_lda, o_ldi, o_le, o_pi, o_ri, o_sti, acR_nx, acR_re, acR_ca, acR_no, acR_if, Kc_i, Kc_n, a_lg, a_ls, a_kl, a_pk, a_sw, cw_n, cw_i, cw_l, cw_r, List.length_cons, List.length_nil, List.getElem?_cons_succ, List.getElem?_cons_zero, ↓reduceIte, decide_true, decide_false, Bool.false_eq_true, or_true, true_or, or_false, false_or, or_self, and_true, true_and, not_true_eq_false, not_false_eq_true, Nat.reduceEqDiff, Nat.reduceLT, Nat.reduceLeDiff, Nat.reduceAdd, Nat.reduceSub, Nat.reduceMul, Nat.reduceDiv, Nat.reduceMod, Nat.zero_add, Nat.add_zero, n_z, n_1, n_ltz, n_zlt, n_lt, n_eq, n_cl, n_in, nI_add, pk_mul, n_div, n_sub, nm_mod, ha, sc_1, wi_sc, sc_sc, rd]) (fun i hi ih x3 x4 => by
    rw [r_156_4]
    have e1 : 20 + i < 481 := by omega
    have e2 : 4 + i < 481 := by omega
    have mr : mR (σ.1 a (4 + i)) (σ.1 a 3) = kR (σ.1 a (4 + i)) (σ.1 a 3) := by rw [hng]; exact mR_kR hn
    have c0 := pos_ne (hv.2 i hi).2
    have c3 := rot_lt (hv.2 i hi).2 (kR_ok (σ.1 a (4 + i)) (σ.1 a 3))
    have c4 := rot_0 (hv.2 i hi).2 (kR_ok (σ.1 a (4 + i)) (σ.1 a 3))
    dsimp only at c0 c3 c4
    have same : pn i = σ.1 a (20 + i) → F (i + 1) = F i := by
      intro e
      rw [← hF]
      funext j
      dsimp only
      by_cases hj : j = 20 + i
      · subst hj
        rw [if_pos (by omega), if_neg (by omega), show 20 + i - 20 = i by omega, e]
      · by_cases h2 : 20 ≤ j ∧ j < 20 + i
        · rw [if_pos h2, if_pos (by omega)]
        · rw [if_neg h2, if_neg (by omega)]
    have up : ∀ v, v = pn i → upd (F i) (20 + i) v = F (i + 1) := by
      intro v hvv
      rw [← hF]
      funext j
      simp only [ud_1]
      by_cases hj : j = 20 + i
      · subst hj
        rw [if_pos rfl, if_pos (by omega), show 20 + i - 20 = i by omega, hvv]
      · by_cases h2 : 20 ≤ j ∧ j < 20 + i
        · rw [if_neg hj, if_pos h2, if_pos (by omega)]
        · rw [if_neg hj, if_neg h2, if_neg (by omega)]
    by_cases c2 : σ.1 a (20 + i) = 0
    · have e := same (by rw [← hpn]; unfold pN; dsimp only; by_cases q : σ.1 a 2 >>> (nI i &&& 31) &&& nI 1 = 0 <;> simp only [q, c2, if_true, if_false])
      have c0' : ¬ 0 < σ.1 a (20 + i) := by rw [c0]; exact fun h => h c2
      have ph : pNh (σ.1 a 2) (σ.1 a 3) (fun j => σ.1 a (4 + j)) (fun j => σ.1 a (20 + j)) (i + 1) = pNh (σ.1 a 2) (σ.1 a 3) (fun j => σ.1 a (4 + j)) (fun j => σ.1 a (20 + j)) i := by
        simp only [pNh]
        by_cases q : σ.1 a 2 >>> (nI i &&& 31) &&& nI 1 = 0
        · rw [if_pos q]
        · rw [if_neg q, if_pos c2]
      simp (disch := first | assumption | omega) only [r_156_0, r_156_1, r_156_2, r_156_3, r_156_5, r_156_7, r_156_10, r_156_11, r_156_13, r_156_14, r_156_15, r_156_16, r_156_17, r_156_18, r_156_19, r_156_20, r_156_21, r_156_22, r_156_23, r_156_24, r_156_25, r_156_28, r_156_30, r_156_31, r_156_34, r_156_35, r_156_36, r_156_37, r_156_38, r_156_41, r_156_44, r_156_45, r_156_47, r_156_48, r_156_49, r_156_50, r_156_52, r_156_55, r_156_56, r_156_58, r_156_59, r_156_62, r_156_63, r_156_64, r_156_65, r_156_66, r_156_68, r_156_71, r_156_72, r_156_75, r_156_76, r_156_77, r_156_78, r_156_81, r_156_84, r_156_85, r_156_86, r_156_87, r_156_88, r_156_89, r_156_90, r_156_91, r_156_92, f_add, f_sub, o_bi, o_cge, o_cle, o_dup2, o_eq, o_go, o_ial, o_ias, o_inc, o_ivs, o_lda, o_ldi, o_le, o_pi, o_ri, o_sti, acR_nx, acR_re, acR_ca, acR_no, acR_if, Kc_i, Kc_n, a_lg, a_ls, a_kl, a_pk, a_sw, cw_n, cw_i, cw_l, cw_r, List.length_cons, List.length_nil, List.getElem?_cons_succ, List.getElem?_cons_zero, ↓reduceIte, decide_true, decide_false, Bool.false_eq_true, or_true, true_or, or_false, false_or, or_self, and_true, true_and, not_true_eq_false, not_false_eq_true, Nat.reduceEqDiff, Nat.reduceLT, Nat.reduceLeDiff, Nat.reduceAdd, Nat.reduceSub, Nat.reduceMul, Nat.reduceDiv, Nat.reduceMod, Nat.zero_add, Nat.add_zero, n_z, n_1, n_ltz, n_zlt, n_lt, n_eq, n_cl, n_in, nI_add, pk_mul, n_div, n_sub, nm_mod, ha, hi, e1, e2, sc_1, rd, m_rots, mr, c0']
      rw [← e, ← ph]
      exact ih _ _
    · have c0' : 0 < σ.1 a (20 + i) := by rw [c0]; exact c2
      by_cases c1 : σ.1 a 2 >>> (nI i &&& 31) &&& nI 1 = 0
      · have e := same (by rw [← hpn]; unfold pN; dsimp only; rw [if_pos c1])
        have ph : pNh (σ.1 a 2) (σ.1 a 3) (fun j => σ.1 a (4 + j)) (fun j => σ.1 a (20 + j)) (i + 1) = pNh (σ.1 a 2) (σ.1 a 3) (fun j => σ.1 a (4 + j)) (fun j => σ.1 a (20 + j)) i := by
          simp only [pNh]
          rw [if_pos c1]
        simp (disch := first | assumption | omega) only [r_156_0, r_156_1, r_156_2, r_156_3, r_156_5, r_156_7, r_156_10, r_156_11, r_156_13, r_156_14, r_156_15, r_156_16, r_156_17, r_156_18, r_156_19, r_156_20, r_156_21, r_156_22, r_156_23, r_156_24, r_156_25, r_156_28, r_156_30, r_156_31, r_156_34, r_156_35, r_156_36, r_156_37, r_156_38, r_156_41, r_156_44, r_156_45, r_156_47, r_156_48, r_156_49, r_156_50, r_156_52, r_156_55, r_156_56, r_156_58, r_156_59, r_156_62, r_156_63, r_156_64, r_156_65, r_156_66, r_156_68, r_156_71, r_156_72, r_156_75, r_156_76, r_156_77, r_156_78, r_156_81, r_156_84, r_156_85, r_156_86, r_156_87, r_156_88, r_156_89, r_156_90, r_156_91, r_156_92, f_add, f_sub, o_bi, o_cge, o_cle, o_dup2, o_eq, o_go, o_ial, o_ias, o_inc, o_ivs, o_lda, o_ldi, o_le, o_pi, o_ri, o_sti, acR_nx, acR_re, acR_ca, acR_no, acR_if, Kc_i, Kc_n, a_lg, a_ls, a_kl, a_pk, a_sw, cw_n, cw_i, cw_l, cw_r, List.length_cons, List.length_nil, List.getElem?_cons_succ, List.getElem?_cons_zero, ↓reduceIte, decide_true, decide_false, Bool.false_eq_true, or_true, true_or, or_false, false_or, or_self, and_true, true_and, not_true_eq_false, not_false_eq_true, Nat.reduceEqDiff, Nat.reduceLT, Nat.reduceLeDiff, Nat.reduceAdd, Nat.reduceSub, Nat.reduceMul, Nat.reduceDiv, Nat.reduceMod, Nat.zero_add, Nat.add_zero, n_z, n_1, n_ltz, n_zlt, n_lt, n_eq, n_cl, n_in, nI_add, pk_mul, n_div, n_sub, nm_mod, ha, hi, e1, e2, sc_1, rd, m_rots, mr, c0', m_has, c1]
        rw [← e, ← ph]
        exact ih _ _
      · by_cases c5 : kR (σ.1 a (4 + i)) (σ.1 a 3) < σ.1 a (20 + i)
        · have epn : pn i = σ.1 a (20 + i) - kR (σ.1 a (4 + i)) (σ.1 a 3) := by
            rw [← hpn]
            unfold pN
            dsimp only
            rw [if_neg c1, if_neg c2, if_pos (by rw [c3]; exact c5)]
          have u := up _ epn.symm
          have ph : pNh (σ.1 a 2) (σ.1 a 3) (fun j => σ.1 a (4 + j)) (fun j => σ.1 a (20 + j)) (i + 1) = pNh (σ.1 a 2) (σ.1 a 3) (fun j => σ.1 a (4 + j)) (fun j => σ.1 a (20 + j)) i + nI 0 := by
            simp only [pNh]
            rw [if_neg c1, if_neg c2, hpn, epn, if_neg (c4 c5)]
          simp (disch := first | assumption | omega) only [r_156_0, r_156_1, r_156_2, r_156_3, r_156_5, r_156_7, r_156_10, r_156_11, r_156_13, r_156_14, r_156_15, r_156_16, r_156_17, r_156_18, r_156_19, r_156_20, r_156_21, r_156_22, r_156_23, r_156_24, r_156_25, r_156_28, r_156_30, r_156_31, r_156_34, r_156_35, r_156_36, r_156_37, r_156_38, r_156_41, r_156_44, r_156_45, r_156_47, r_156_48, r_156_49, r_156_50, r_156_52, r_156_55, r_156_56, r_156_58, r_156_59, r_156_62, r_156_63, r_156_64, r_156_65, r_156_66, r_156_68, r_156_71, r_156_72, r_156_75, r_156_76, r_156_77, r_156_78, r_156_81, r_156_84, r_156_85, r_156_86, r_156_87, r_156_88, r_156_89, r_156_90, r_156_91, r_156_92, f_add, f_sub, o_bi, o_cge, o_cle, o_dup2, o_eq, o_go, o_ial, o_ias, o_inc, o_ivs, o_lda, o_ldi, o_le, o_pi, o_ri, o_sti, acR_nx, acR_re, acR_ca, acR_no, acR_if, Kc_i, Kc_n, a_lg, a_ls, a_kl, a_pk, a_sw, cw_n, cw_i, cw_l, cw_r, List.length_cons, List.length_nil, List.getElem?_cons_succ, List.getElem?_cons_zero, ↓reduceIte, decide_true, decide_false, Bool.false_eq_true, or_true, true_or, or_false, false_or, or_self, and_true, true_and, not_true_eq_false, not_false_eq_true, Nat.reduceEqDiff, Nat.reduceLT, Nat.reduceLeDiff, Nat.reduceAdd, Nat.reduceSub, Nat.reduceMul, Nat.reduceDiv, Nat.reduceMod, Nat.zero_add, Nat.add_zero, n_z, n_1, n_ltz, n_zlt, n_lt, n_eq, n_cl, n_in, nI_add, pk_mul, n_div, n_sub, nm_mod, ha, hi, e1, e2, sc_1, rd, m_rots, mr, c0', m_has, c1, c5, wi_sc, sc_sc, u]
          rw [← ph]
          exact ih _ _
        · have epn : pn i = nI 0 := by
            rw [← hpn]
            unfold pN
            dsimp only
            rw [if_neg c1, if_neg c2, if_neg (by rw [c3]; exact c5)]
          have u := up _ epn.symm
          have ph : pNh (σ.1 a 2) (σ.1 a 3) (fun j => σ.1 a (4 + j)) (fun j => σ.1 a (20 + j)) (i + 1) = pNh (σ.1 a 2) (σ.1 a 3) (fun j => σ.1 a (4 + j)) (fun j => σ.1 a (20 + j)) i + nI 1 := by
            simp only [pNh]
            rw [if_neg c1, if_neg c2, hpn, epn, if_pos nI_0]
          simp (disch := first | assumption | omega) only [r_156_0, r_156_1, r_156_2, r_156_3, r_156_5, r_156_7, r_156_10, r_156_11, r_156_13, r_156_14, r_156_15, r_156_16, r_156_17, r_156_18, r_156_19, r_156_20, r_156_21, r_156_22, r_156_23, r_156_24, r_156_25, r_156_28, r_156_30, r_156_31, r_156_34, r_156_35, r_156_36, r_156_37, r_156_38, r_156_41, r_156_44, r_156_45, r_156_47, r_156_48, r_156_49, r_156_50, r_156_52, r_156_55, r_156_56, r_156_58, r_156_59, r_156_62, r_156_63, r_156_64, r_156_65, r_156_66, r_156_68, r_156_71, r_156_72, r_156_75, r_156_76, r_156_77, r_156_78, r_156_81, r_156_84, r_156_85, r_156_86, r_156_87, r_156_88, r_156_89, r_156_90, r_156_91, r_156_92, f_add, f_sub, o_bi, o_cge, o_cle, o_dup2, o_eq, o_go, o_ial, o_ias, o_inc, o_ivs, o_lda, o_ldi, o_le, o_pi, o_ri, o_sti, acR_nx, acR_re, acR_ca, acR_no, acR_if, Kc_i, Kc_n, a_lg, a_ls, a_kl, a_pk, a_sw, cw_n, cw_i, cw_l, cw_r, List.length_cons, List.length_nil, List.getElem?_cons_succ, List.getElem?_cons_zero, ↓reduceIte, decide_true, decide_false, Bool.false_eq_true, or_true, true_or, or_false, false_or, or_self, and_true, true_and, not_true_eq_false, not_false_eq_true, Nat.reduceEqDiff, Nat.reduceLT, Nat.reduceLeDiff, Nat.reduceAdd, Nat.reduceSub, Nat.reduceMul, Nat.reduceDiv, Nat.reduceMod, Nat.zero_add, Nat.add_zero, n_z, n_1, n_ltz, n_zlt, n_lt, n_eq, n_cl, n_in, nI_add, pk_mul, n_div, n_sub, nm_mod, ha, hi, e1, e2, sc_1, rd, m_rots, mr, c0', m_has, c1, c5, wi_sc, sc_sc, u]
          rw [← ph]
          exact ih _ _)
  simp (disch := first | assumption | omega) only [cl_156, r_156_0, r_156_1, r_156_2, r_156_3, r_156_5, r_156_7, r_156_10, r_156_11, r_156_13, r_156_14, r_156_15, r_156_16, r_156_17, r_156_18, r_156_19, r_156_20, r_156_21, r_156_22, r_156_23, r_156_24, r_156_25, r_156_28, r_156_30, r_156_31, r_156_34, r_156_35, r_156_36, r_156_37, r_156_38, r_156_41, r_156_44, r_156_45, r_156_47, r_156_48, r_156_49, r_156_50, r_156_52, r_156_55, r_156_56, r_156_58, r_156_59, r_156_62, r_156_63, r_156_64, r_156_65, r_156_66, r_156_68, r_156_71, r_156_72, r_156_75, r_156_76, r_156_77, r_156_78, r_156_81, r_156_84, r_156_85, r_156_86, r_156_87, r_156_88, r_156_89, r_156_90, r_156_91, r_156_92, f_add, f_sub, o_bi, o_cge, o_cle, o_dup2, o_eq, o_go, o_ial, o_ias, o_inc, o_ivs, o_lda, o_ldi, o_le, o_pi, o_ri, o_sti, acR_nx, acR_re, acR_ca, acR_no, acR_if, Kc_i, Kc_n, a_lg, a_ls, a_kl, a_pk, a_sw, cw_n, cw_i, cw_l, cw_r, List.length_cons, List.length_nil, List.getElem?_cons_succ, List.getElem?_cons_zero, ↓reduceIte, decide_true, decide_false, Bool.false_eq_true, or_true, true_or, or_false, false_or, or_self, and_true, true_and, not_true_eq_false, not_false_eq_true, Nat.reduceEqDiff, Nat.reduceLT, Nat.reduceLeDiff, Nat.reduceAdd, Nat.reduceSub, Nat.reduceMul, Nat.reduceDiv, Nat.reduceMod, Nat.zero_add, Nat.add_zero, n_z, n_1, n_ltz, n_zlt, n_lt, n_eq, n_cl, n_in, nI_add, pk_mul, n_div, n_sub, nm_mod]
  have e0 : a_sc σ a (F 0) = σ := by
    have : F 0 = σ.1 a := by
      funext j
      exact rd 0 j (by omega)
    rw [this, sc_id]
  have k0 := key none none
  rw [e0] at k0
  refine Eq.trans k0 ?_
  rw [← hF]
