/-! Net: what changes it -/
theorem ud_1 (f : Nat → Int32) (k : Nat) (v : Int32) (j : Nat) : upd f k v j = if j = k then v else f j := rfl
/-- Arrays.fill of a row of n ints -/
theorem c_fill {a n : Nat} (ha : a_lay a = some (.inl (0, n))) (hn : n < 2147483648) (v : Int32) (σ : a_HP) (Q : Option Value → a_HP → Prop) : Cl 209 [.ref a, .int v] σ Q = Q none (a_sc σ a (fun j => if j < n then v else σ.1 a j)) := by
  have key := lp_up (P := fun i => Rn 209 5 [some (.ref a), some (.int v), some (.int (nI i)), some (.int (nI n))] [] (a_sc σ a (fun j => if j < i then v else σ.1 a j)) Q) n (fun i hi => by
    rw [r_209_5]
    simp (disch := first | assumption | omega) only [r_209_0, r_209_1, r_209_2, r_209_3, r_209_4, r_209_6, r_209_7, r_209_10, r_209_11, r_209_12, r_209_13, r_209_14, r_209_17, r_209_20, o_cge, o_go, o_ias, o_inc, o_lda, o_ldi, o_len, o_pi, o_rv, o_sti, acR_nx, acR_re, acR_ca, acR_no, acR_if, Kc_i, Kc_n, a_lg, a_ls, a_kl, a_pk, a_sw, cw_n, cw_i, cw_l, cw_r, List.length_cons, List.length_nil, List.getElem?_cons_succ, List.getElem?_cons_zero, ↓reduceIte, decide_true, decide_false, Bool.false_eq_true, or_true, true_or, or_false, false_or, or_self, and_true, true_and, not_true_eq_false, not_false_eq_true, Nat.reduceEqDiff, Nat.reduceLT, Nat.reduceLeDiff, Nat.reduceAdd, Nat.reduceSub, Nat.reduceMul, Nat.reduceDiv, Nat.reduceMod, Nat.zero_add, Nat.add_zero, n_z, n_1, n_ltz, n_zlt, n_lt, n_eq, n_cl, n_in, nI_add, pk_mul, n_div, n_sub, nm_mod, ha, hi, wi_sc, sc_1, sc_sc]
    congr 2
    funext j
    simp only [ud_1]
    by_cases h1 : j = i
    · simp [h1]
    · simp only [h1, if_false]
      by_cases h2 : j < i
      · rw [if_pos h2, if_pos (by omega)]
      · rw [if_neg h2, if_neg (by omega)])
  simp (disch := first | assumption | omega) only [cl_209, r_209_0, r_209_1, r_209_2, r_209_3, r_209_4, r_209_6, r_209_7, r_209_10, r_209_11, r_209_12, r_209_13, r_209_14, r_209_17, r_209_20, o_cge, o_go, o_ias, o_inc, o_lda, o_ldi, o_len, o_pi, o_rv, o_sti, acR_nx, acR_re, acR_ca, acR_no, acR_if, Kc_i, Kc_n, a_lg, a_ls, a_kl, a_pk, a_sw, cw_n, cw_i, cw_l, cw_r, List.length_cons, List.length_nil, List.getElem?_cons_succ, List.getElem?_cons_zero, ↓reduceIte, decide_true, decide_false, Bool.false_eq_true, or_true, true_or, or_false, false_or, or_self, and_true, true_and, not_true_eq_false, not_false_eq_true, Nat.reduceEqDiff, Nat.reduceLT, Nat.reduceLeDiff, Nat.reduceAdd, Nat.reduceSub, Nat.reduceMul, Nat.reduceDiv, Nat.reduceMod, Nat.zero_add, Nat.add_zero, n_z, n_1, n_ltz, n_zlt, n_lt, n_eq, n_cl, n_in, nI_add, pk_mul, n_div, n_sub, nm_mod, ha]
  have e0 : a_sc σ a (fun j => if j < 0 then v else σ.1 a j) = σ := by
    have : (fun j => if j < 0 then v else σ.1 a j) = σ.1 a := by funext j; simp
    rw [this, sc_id]
  rw [e0] at key
  refine Eq.trans key ?_
  rw [r_209_5]
  simp (disch := first | assumption | omega) only [r_209_0, r_209_1, r_209_2, r_209_3, r_209_4, r_209_6, r_209_7, r_209_10, r_209_11, r_209_12, r_209_13, r_209_14, r_209_17, r_209_20, o_cge, o_go, o_ias, o_inc, o_lda, o_ldi, o_len, o_pi, o_rv, o_sti, acR_nx, acR_re, acR_ca, acR_no, acR_if, Kc_i, Kc_n, a_lg, a_ls, a_kl, a_pk, a_sw, cw_n, cw_i, cw_l, cw_r, List.length_cons, List.length_nil, List.getElem?_cons_succ, List.getElem?_cons_zero, ↓reduceIte, decide_true, decide_false, Bool.false_eq_true, or_true, true_or, or_false, false_or, or_self, and_true, true_and, not_true_eq_false, not_false_eq_true, Nat.reduceEqDiff, Nat.reduceLT, Nat.reduceLeDiff, Nat.reduceAdd, Nat.reduceSub, Nat.reduceMul, Nat.reduceDiv, Nat.reduceMod, Nat.zero_add, Nat.add_zero, n_z, n_1, n_ltz, n_zlt, n_lt, n_eq, n_cl, n_in, nI_add, pk_mul, n_div, n_sub, nm_mod, Nat.lt_irrefl]
theorem c_tieKnot {q : Nat} (hq : aN q) {k : Nat} (hk : k < 16) (d s v : Int32) (σ : a_HP) (Q : Option Value → a_HP → Prop) : Cl 18 [.ref q, .int (nI k), .int d, .int s, .int v] σ Q = Q none (a_wi (a_wi (a_wi σ (q + 1) k d) (q + 2) k s) (q + 3) k v) := by
  obtain ⟨h0, h1, h2, h3, h4⟩ := hq
  simp (disch := first | assumption | omega) only [cl_18, r_18_0, r_18_1, r_18_4, r_18_5, r_18_6, r_18_7, r_18_8, r_18_11, r_18_12, r_18_13, r_18_14, r_18_15, r_18_18, r_18_19, r_18_21, r_18_22, o_get, o_ias, o_lda, o_ldi, o_rv, acR_nx, acR_re, acR_ca, acR_no, acR_if, Kc_i, Kc_n, a_lg, a_ls, a_kl, a_pk, a_sw, cw_n, cw_i, cw_l, cw_r, List.length_cons, List.length_nil, List.getElem?_cons_succ, List.getElem?_cons_zero, ↓reduceIte, decide_true, decide_false, Bool.false_eq_true, or_true, true_or, or_false, false_or, or_self, and_true, true_and, not_true_eq_false, not_false_eq_true, Nat.reduceEqDiff, Nat.reduceLT, Nat.reduceLeDiff, Nat.reduceAdd, Nat.reduceSub, Nat.reduceMul, Nat.reduceDiv, Nat.reduceMod, Nat.zero_add, Nat.add_zero, n_z, n_1, n_ltz, n_zlt, n_lt, n_eq, n_cl, n_in, nI_add, pk_mul, n_div, n_sub, nm_mod, h0, h1, h2, h3, hk]
/-- what a night leaves of knot k -/
def pN (hands night : Int32) (kd st : Nat → Int32) (k : Nat) : Int32 := if hands >>> (nI k &&& 31) &&& nI 1 = 0 then st k else if st k = 0 then st k else if nI 0 < st k - kR (kd k) night then st k - kR (kd k) night else nI 0
def pNh (hands night : Int32) (kd st : Nat → Int32) : Nat → Int32
  | 0 => nI 0
  | i + 1 => if hands >>> (nI i &&& 31) &&& nI 1 = 0 then pNh hands night kd st i else if st i = 0 then pNh hands night kd st i else if pN hands night kd st i = 0 then pNh hands night kd st i + nI 1 else pNh hands night kd st i + nI 0
theorem c_passNight {q : Nat} (hq : aN q) (σ : a_HP) (Q : Option Value → a_HP → Prop) : Cl 27 [.ref q] σ Q = Q (some (.int (pNh (σ.1 q 2) (σ.1 q 3) (σ.1 (q + 1)) (σ.1 (q + 2)) 16))) (a_wi (a_sc σ (q + 2) (fun k => if k < 16 then pN (σ.1 q 2) (σ.1 q 3) (σ.1 (q + 1)) (σ.1 (q + 2)) k else σ.1 (q + 2) k)) q 3 (σ.1 q 3 + nI 1)) := by
  have hq' := hq
  obtain ⟨h0, h1, h2, h3, h4⟩ := hq
  have n1 : (q = q + 2) = False := by simp
  have n2 : (q + 1 = q + 2) = False := by simp
  have key := lp_up (P := fun i => Rn 27 4 [some (.ref q), some (.int (pNh (σ.1 q 2) (σ.1 q 3) (σ.1 (q + 1)) (σ.1 (q + 2)) i)), some (.int (nI i))] [] (a_sc σ (q + 2) (fun k => if k < i then pN (σ.1 q 2) (σ.1 q 3) (σ.1 (q + 1)) (σ.1 (q + 2)) k else σ.1 (q + 2) k)) Q) 16 (fun i hi => by
    rw [r_27_4]
    have same : pN (σ.1 q 2) (σ.1 q 3) (σ.1 (q + 1)) (σ.1 (q + 2)) i = σ.1 (q + 2) i → (fun k => if k < i + 1 then pN (σ.1 q 2) (σ.1 q 3) (σ.1 (q + 1)) (σ.1 (q + 2)) k else σ.1 (q + 2) k) = (fun k => if k < i then pN (σ.1 q 2) (σ.1 q 3) (σ.1 (q + 1)) (σ.1 (q + 2)) k else σ.1 (q + 2) k) := by
      intro e
      funext k
      by_cases hk : k = i
      · subst hk
        simp [e]
      · by_cases h2 : k < i
        · rw [if_pos h2, if_pos (by omega)]
        · rw [if_neg h2, if_neg (by omega)]
    have up : upd (fun k => if k < i then pN (σ.1 q 2) (σ.1 q 3) (σ.1 (q + 1)) (σ.1 (q + 2)) k else σ.1 (q + 2) k) i (pN (σ.1 q 2) (σ.1 q 3) (σ.1 (q + 1)) (σ.1 (q + 2)) i) = (fun k => if k < i + 1 then pN (σ.1 q 2) (σ.1 q 3) (σ.1 (q + 1)) (σ.1 (q + 2)) k else σ.1 (q + 2) k) := by
      funext k
      simp only [ud_1]
      by_cases hk : k = i
      · subst hk
        simp
      · by_cases h2 : k < i
        · rw [if_neg hk, if_pos h2, if_pos (by omega)]
        · rw [if_neg hk, if_neg h2, if_neg (by omega)]
    by_cases c1 : σ.1 q 2 >>> (nI i &&& 31) &&& nI 1 = 0
    · have e := same (by unfold pN; rw [if_pos c1])
      simp (disch := first | assumption | omega) only [r_27_0, r_27_1, r_27_2, r_27_3, r_27_5, r_27_7, r_27_10, r_27_11, r_27_14, r_27_15, r_27_16, r_27_17, r_27_18, r_27_21, r_27_22, r_27_23, r_27_26, r_27_29, r_27_32, r_27_33, r_27_36, r_27_37, r_27_38, r_27_39, r_27_42, r_27_43, r_27_44, r_27_45, r_27_46, r_27_49, r_27_50, r_27_53, r_27_54, r_27_55, r_27_56, r_27_57, r_27_60, r_27_63, r_27_64, r_27_67, r_27_68, r_27_69, r_27_70, r_27_73, r_27_76, r_27_77, r_27_78, r_27_81, r_27_82, r_27_83, r_27_86, r_27_87, f_add, f_and, f_shr, f_sub, o_bi, o_cge, o_dup, o_eq, o_get, o_go, o_ial, o_ias, o_inc, o_ivs, o_ivv, o_lda, o_ldi, o_pi, o_put, o_ri, o_sti, acR_nx, acR_re, acR_ca, acR_no, acR_if, Kc_i, Kc_n, a_lg, a_ls, a_kl, a_pk, a_sw, cw_n, cw_i, cw_l, cw_r, List.length_cons, List.length_nil, List.getElem?_cons_succ, List.getElem?_cons_zero, ↓reduceIte, decide_true, decide_false, Bool.false_eq_true, or_true, true_or, or_false, false_or, or_self, and_true, true_and, not_true_eq_false, not_false_eq_true, Nat.reduceEqDiff, Nat.reduceLT, Nat.reduceLeDiff, Nat.reduceAdd, Nat.reduceSub, Nat.reduceMul, Nat.reduceDiv, Nat.reduceMod, Nat.zero_add, Nat.add_zero, n_z, n_1, n_ltz, n_zlt, n_lt, n_eq, n_cl, n_in, nI_add, pk_mul, n_div, n_sub, nm_mod, h0, hi, sc_1, n1, c1, pNh, e]
    · by_cases c2 : σ.1 (q + 2) i = 0
      · have e := same (by unfold pN; rw [if_neg c1, if_pos c2])
        simp (disch := first | assumption | omega) only [r_27_0, r_27_1, r_27_2, r_27_3, r_27_5, r_27_7, r_27_10, r_27_11, r_27_14, r_27_15, r_27_16, r_27_17, r_27_18, r_27_21, r_27_22, r_27_23, r_27_26, r_27_29, r_27_32, r_27_33, r_27_36, r_27_37, r_27_38, r_27_39, r_27_42, r_27_43, r_27_44, r_27_45, r_27_46, r_27_49, r_27_50, r_27_53, r_27_54, r_27_55, r_27_56, r_27_57, r_27_60, r_27_63, r_27_64, r_27_67, r_27_68, r_27_69, r_27_70, r_27_73, r_27_76, r_27_77, r_27_78, r_27_81, r_27_82, r_27_83, r_27_86, r_27_87, f_add, f_and, f_shr, f_sub, o_bi, o_cge, o_dup, o_eq, o_get, o_go, o_ial, o_ias, o_inc, o_ivs, o_ivv, o_lda, o_ldi, o_pi, o_put, o_ri, o_sti, acR_nx, acR_re, acR_ca, acR_no, acR_if, Kc_i, Kc_n, a_lg, a_ls, a_kl, a_pk, a_sw, cw_n, cw_i, cw_l, cw_r, List.length_cons, List.length_nil, List.getElem?_cons_succ, List.getElem?_cons_zero, ↓reduceIte, decide_true, decide_false, Bool.false_eq_true, or_true, true_or, or_false, false_or, or_self, and_true, true_and, not_true_eq_false, not_false_eq_true, Nat.reduceEqDiff, Nat.reduceLT, Nat.reduceLeDiff, Nat.reduceAdd, Nat.reduceSub, Nat.reduceMul, Nat.reduceDiv, Nat.reduceMod, Nat.zero_add, Nat.add_zero, n_z, n_1, n_ltz, n_zlt, n_lt, n_eq, n_cl, n_in, nI_add, pk_mul, n_div, n_sub, nm_mod, h0, hi, sc_1, n1, n2, c1, c2, pNh, e, c_isHole, Nat.lt_irrefl]
      · have e : (if nI 0 < σ.1 (q + 2) i - kR (σ.1 (q + 1) i) (σ.1 q 3) then σ.1 (q + 2) i - kR (σ.1 (q + 1) i) (σ.1 q 3) else nI 0) = pN (σ.1 q 2) (σ.1 q 3) (σ.1 (q + 1)) (σ.1 (q + 2)) i := by unfold pN; rw [if_neg c1, if_neg c2]
        simp (disch := first | assumption | omega) only [r_27_0, r_27_1, r_27_2, r_27_3, r_27_5, r_27_7, r_27_10, r_27_11, r_27_14, r_27_15, r_27_16, r_27_17, r_27_18, r_27_21, r_27_22, r_27_23, r_27_26, r_27_29, r_27_32, r_27_33, r_27_36, r_27_37, r_27_38, r_27_39, r_27_42, r_27_43, r_27_44, r_27_45, r_27_46, r_27_49, r_27_50, r_27_53, r_27_54, r_27_55, r_27_56, r_27_57, r_27_60, r_27_63, r_27_64, r_27_67, r_27_68, r_27_69, r_27_70, r_27_73, r_27_76, r_27_77, r_27_78, r_27_81, r_27_82, r_27_83, r_27_86, r_27_87, f_add, f_and, f_shr, f_sub, o_bi, o_cge, o_dup, o_eq, o_get, o_go, o_ial, o_ias, o_inc, o_ivs, o_ivv, o_lda, o_ldi, o_pi, o_put, o_ri, o_sti, acR_nx, acR_re, acR_ca, acR_no, acR_if, Kc_i, Kc_n, a_lg, a_ls, a_kl, a_pk, a_sw, cw_n, cw_i, cw_l, cw_r, List.length_cons, List.length_nil, List.getElem?_cons_succ, List.getElem?_cons_zero, ↓reduceIte, decide_true, decide_false, Bool.false_eq_true, or_true, true_or, or_false, false_or, or_self, and_true, true_and, not_true_eq_false, not_false_eq_true, Nat.reduceEqDiff, Nat.reduceLT, Nat.reduceLeDiff, Nat.reduceAdd, Nat.reduceSub, Nat.reduceMul, Nat.reduceDiv, Nat.reduceMod, Nat.zero_add, Nat.add_zero, n_z, n_1, n_ltz, n_zlt, n_lt, n_eq, n_cl, n_in, nI_add, pk_mul, n_div, n_sub, nm_mod, h0, h2, hi, sc_1, n1, n2, c1, c2, pNh, c_isHole, c_knotRots, c_max, wi_sc, sc_sc, Nat.lt_irrefl, e, up, Nat.lt_succ_self]
        split <;> rfl)
  simp (disch := first | assumption | omega) only [cl_27, r_27_0, r_27_1, r_27_2, r_27_3, r_27_5, r_27_7, r_27_10, r_27_11, r_27_14, r_27_15, r_27_16, r_27_17, r_27_18, r_27_21, r_27_22, r_27_23, r_27_26, r_27_29, r_27_32, r_27_33, r_27_36, r_27_37, r_27_38, r_27_39, r_27_42, r_27_43, r_27_44, r_27_45, r_27_46, r_27_49, r_27_50, r_27_53, r_27_54, r_27_55, r_27_56, r_27_57, r_27_60, r_27_63, r_27_64, r_27_67, r_27_68, r_27_69, r_27_70, r_27_73, r_27_76, r_27_77, r_27_78, r_27_81, r_27_82, r_27_83, r_27_86, r_27_87, f_add, f_and, f_shr, f_sub, o_bi, o_cge, o_dup, o_eq, o_get, o_go, o_ial, o_ias, o_inc, o_ivs, o_ivv, o_lda, o_ldi, o_pi, o_put, o_ri, o_sti, acR_nx, acR_re, acR_ca, acR_no, acR_if, Kc_i, Kc_n, a_lg, a_ls, a_kl, a_pk, a_sw, cw_n, cw_i, cw_l, cw_r, List.length_cons, List.length_nil, List.getElem?_cons_succ, List.getElem?_cons_zero, ↓reduceIte, decide_true, decide_false, Bool.false_eq_true, or_true, true_or, or_false, false_or, or_self, and_true, true_and, not_true_eq_false, not_false_eq_true, Nat.reduceEqDiff, Nat.reduceLT, Nat.reduceLeDiff, Nat.reduceAdd, Nat.reduceSub, Nat.reduceMul, Nat.reduceDiv, Nat.reduceMod, Nat.zero_add, Nat.add_zero, n_z, n_1, n_ltz, n_zlt, n_lt, n_eq, n_cl, n_in, nI_add, pk_mul, n_div, n_sub, nm_mod]
  have e0 : a_sc σ (q + 2) (fun k => if k < 0 then pN (σ.1 q 2) (σ.1 q 3) (σ.1 (q + 1)) (σ.1 (q + 2)) k else σ.1 (q + 2) k) = σ := by
    have : (fun k => if k < 0 then pN (σ.1 q 2) (σ.1 q 3) (σ.1 (q + 1)) (σ.1 (q + 2)) k else σ.1 (q + 2) k) = σ.1 (q + 2) := by funext j; simp
    rw [this, sc_id]
  rw [e0] at key
  refine Eq.trans key ?_
  rw [r_27_4]
  simp (disch := first | assumption | omega) only [r_27_0, r_27_1, r_27_2, r_27_3, r_27_5, r_27_7, r_27_10, r_27_11, r_27_14, r_27_15, r_27_16, r_27_17, r_27_18, r_27_21, r_27_22, r_27_23, r_27_26, r_27_29, r_27_32, r_27_33, r_27_36, r_27_37, r_27_38, r_27_39, r_27_42, r_27_43, r_27_44, r_27_45, r_27_46, r_27_49, r_27_50, r_27_53, r_27_54, r_27_55, r_27_56, r_27_57, r_27_60, r_27_63, r_27_64, r_27_67, r_27_68, r_27_69, r_27_70, r_27_73, r_27_76, r_27_77, r_27_78, r_27_81, r_27_82, r_27_83, r_27_86, r_27_87, f_add, f_and, f_shr, f_sub, o_bi, o_cge, o_dup, o_eq, o_get, o_go, o_ial, o_ias, o_inc, o_ivs, o_ivv, o_lda, o_ldi, o_pi, o_put, o_ri, o_sti, acR_nx, acR_re, acR_ca, acR_no, acR_if, Kc_i, Kc_n, a_lg, a_ls, a_kl, a_pk, a_sw, cw_n, cw_i, cw_l, cw_r, List.length_cons, List.length_nil, List.getElem?_cons_succ, List.getElem?_cons_zero, ↓reduceIte, decide_true, decide_false, Bool.false_eq_true, or_true, true_or, or_false, false_or, or_self, and_true, true_and, not_true_eq_false, not_false_eq_true, Nat.reduceEqDiff, Nat.reduceLT, Nat.reduceLeDiff, Nat.reduceAdd, Nat.reduceSub, Nat.reduceMul, Nat.reduceDiv, Nat.reduceMod, Nat.zero_add, Nat.add_zero, n_z, n_1, n_ltz, n_zlt, n_lt, n_eq, n_cl, n_in, nI_add, pk_mul, n_div, n_sub, nm_mod, h0, sc_1, n1, Nat.lt_irrefl]
