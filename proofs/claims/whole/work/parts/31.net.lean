/-! Net: its reads, its night; pure pictures of what they answer -/
theorem sc_1 (σ : a_HP) (a : Nat) (f : Nat → Int32) (b : Nat) : (a_sc σ a f).1 b = if b = a then f else σ.1 b := rfl
theorem sc_2 (σ : a_HP) (a : Nat) (f : Nat → Int32) : (a_sc σ a f).2 = σ.2 := rfl
theorem sc_sc (σ : a_HP) (a : Nat) (f g : Nat → Int32) : a_sc (a_sc σ a f) a g = a_sc σ a g := by
  unfold a_sc
  congr 1
  funext k
  by_cases h : k = a
  · simp [h]
  · simp [h]
theorem sc_id (σ : a_HP) (a : Nat) : a_sc σ a (σ.1 a) = σ := by
  unfold a_sc
  obtain ⟨s1, s2⟩ := σ
  congr 1
  funext k
  by_cases h : k = a
  · simp [h]
  · simp [h]
theorem wi_sc (σ : a_HP) (a k : Nat) (v : Int32) : a_wi σ a k v = a_sc σ a (upd (σ.1 a) k v) := rfl
def kRt (s : Nat → Int32) (k : Nat) : Int32 := if k % 4 < 3 then s (k + 1) else nI 0
def pH (rain : Int32) (kd st : Nat → Int32) (k : Nat) : Int32 := kH (kd k) (st k) rain (kRt st k)
def pC (rain : Int32) (kd st : Nat → Int32) (c : Nat) : Int32 := nI 0 + pH rain kd st (kA c 0) + pH rain kd st (kA c 1) + pH rain kd st (kA c 2) + pH rain kd st (kA c 3)
def pB (rain : Int32) (kd st wd : Nat → Int32) : Nat → Int32
  | 0 => nI 0
  | i + 1 => if pC rain kd st i < wd i then pB rain kd st wd i else pB rain kd st wd i ||| nI 1 <<< (nI i &&& 31)
def tK (st : Nat → Int32) : Nat → Int32
  | 0 => nI 0
  | i + 1 => if st i = 0 then tK st i + nI 0 else tK st i + nI 1
theorem c_right {q : Nat} (hq : aN q) {k : Nat} (hk : k < 16) (σ : a_HP) (Q : Option Value → a_HP → Prop) : Cl 21 [.ref q, .int (nI k)] σ Q = Q (some (.int (kRt (σ.1 (q + 2)) k))) σ := by
  obtain ⟨h0, h1, h2, h3, h4⟩ := hq
  unfold kRt
  by_cases h : k % 4 < 3
  · have hk1 : k + 1 < 16 := by omega
    simp (disch := omega) only [cl_21, r_21_0, r_21_1, r_21_2, r_21_3, r_21_4, r_21_7, r_21_8, r_21_11, r_21_12, r_21_13, r_21_14, r_21_15, r_21_18, r_21_19, f_add, f_rem, o_bd, o_bi, o_cge, o_get, o_go, o_ial, o_lda, o_ldi, o_pi, o_ri, acR_nx, acR_re, acR_ca, acR_no, acR_if, Kc_i, Kc_n, a_lg, a_ls, a_kl, a_pk, a_sw, cw_n, cw_i, cw_l, cw_r, List.length_cons, List.length_nil, List.getElem?_cons_succ, List.getElem?_cons_zero, ↓reduceIte, decide_true, decide_false, Bool.false_eq_true, or_true, true_or, or_false, false_or, or_self, and_true, true_and, not_true_eq_false, not_false_eq_true, Nat.reduceEqDiff, Nat.reduceLT, Nat.reduceLeDiff, Nat.reduceAdd, Nat.reduceSub, Nat.reduceMul, Nat.reduceDiv, Nat.reduceMod, Nat.zero_add, Nat.add_zero, n_z, n_1, n_ltz, n_zlt, n_lt, n_eq, n_cl, n_in, nI_add, pk_mul, n_div, n_sub, nm_mod, h0, h2, hk1, h]
  · simp (disch := omega) only [cl_21, r_21_0, r_21_1, r_21_2, r_21_3, r_21_4, r_21_7, r_21_8, r_21_11, r_21_12, r_21_13, r_21_14, r_21_15, r_21_18, r_21_19, f_add, f_rem, o_bd, o_bi, o_cge, o_get, o_go, o_ial, o_lda, o_ldi, o_pi, o_ri, acR_nx, acR_re, acR_ca, acR_no, acR_if, Kc_i, Kc_n, a_lg, a_ls, a_kl, a_pk, a_sw, cw_n, cw_i, cw_l, cw_r, List.length_cons, List.length_nil, List.getElem?_cons_succ, List.getElem?_cons_zero, ↓reduceIte, decide_true, decide_false, Bool.false_eq_true, or_true, true_or, or_false, false_or, or_self, and_true, true_and, not_true_eq_false, not_false_eq_true, Nat.reduceEqDiff, Nat.reduceLT, Nat.reduceLeDiff, Nat.reduceAdd, Nat.reduceSub, Nat.reduceMul, Nat.reduceDiv, Nat.reduceMod, Nat.zero_add, Nat.add_zero, n_z, n_1, n_ltz, n_zlt, n_lt, n_eq, n_cl, n_in, nI_add, pk_mul, n_div, n_sub, nm_mod, h0, h2, h]
theorem c_knotHolds {q : Nat} (hq : aN q) {k : Nat} (hk : k < 16) (σ : a_HP) (Q : Option Value → a_HP → Prop) : Cl 22 [.ref q, .int (nI k)] σ Q = Q (some (.int (pH (σ.1 q 0) (σ.1 (q + 1)) (σ.1 (q + 2)) k))) σ := by
  have hq' := hq
  obtain ⟨h0, h1, h2, h3, h4⟩ := hq
  simp (disch := first | assumption | omega) only [cl_22, r_22_0, r_22_1, r_22_4, r_22_5, r_22_6, r_22_7, r_22_10, r_22_11, r_22_12, r_22_13, r_22_16, r_22_17, r_22_18, r_22_21, r_22_24, o_get, o_ial, o_ivs, o_ivv, o_lda, o_ldi, o_ri, acR_nx, acR_re, acR_ca, acR_no, acR_if, Kc_i, Kc_n, a_lg, a_ls, a_kl, a_pk, a_sw, cw_n, cw_i, cw_l, cw_r, List.length_cons, List.length_nil, List.getElem?_cons_succ, List.getElem?_cons_zero, ↓reduceIte, decide_true, decide_false, Bool.false_eq_true, or_true, true_or, or_false, false_or, or_self, and_true, true_and, not_true_eq_false, not_false_eq_true, Nat.reduceEqDiff, Nat.reduceLT, Nat.reduceLeDiff, Nat.reduceAdd, Nat.reduceSub, Nat.reduceMul, Nat.reduceDiv, Nat.reduceMod, Nat.zero_add, Nat.add_zero, n_z, n_1, n_ltz, n_zlt, n_lt, n_eq, n_cl, n_in, nI_add, pk_mul, n_div, n_sub, nm_mod, h0, h1, h2, hk, c_right, c_kindHolds, pH]
theorem c_knotRots {q : Nat} (hq : aN q) {k : Nat} (hk : k < 16) (σ : a_HP) (Q : Option Value → a_HP → Prop) : Cl 23 [.ref q, .int (nI k)] σ Q = if σ.1 (q + 2) k = 0 then Q (some (.int (nI 0))) σ else Q (some (.int (kR (σ.1 (q + 1) k) (σ.1 q 3)))) σ := by
  have hq' := hq
  obtain ⟨h0, h1, h2, h3, h4⟩ := hq
  simp (disch := first | assumption | omega) only [cl_23, r_23_0, r_23_1, r_23_2, r_23_5, r_23_8, r_23_9, r_23_12, r_23_13, r_23_16, r_23_17, r_23_18, r_23_19, r_23_22, r_23_25, o_eq, o_get, o_go, o_ial, o_ivs, o_ivv, o_lda, o_ldi, o_pi, o_ri, acR_nx, acR_re, acR_ca, acR_no, acR_if, Kc_i, Kc_n, a_lg, a_ls, a_kl, a_pk, a_sw, cw_n, cw_i, cw_l, cw_r, List.length_cons, List.length_nil, List.getElem?_cons_succ, List.getElem?_cons_zero, ↓reduceIte, decide_true, decide_false, Bool.false_eq_true, or_true, true_or, or_false, false_or, or_self, and_true, true_and, not_true_eq_false, not_false_eq_true, Nat.reduceEqDiff, Nat.reduceLT, Nat.reduceLeDiff, Nat.reduceAdd, Nat.reduceSub, Nat.reduceMul, Nat.reduceDiv, Nat.reduceMod, Nat.zero_add, Nat.add_zero, n_z, n_1, n_ltz, n_zlt, n_lt, n_eq, n_cl, n_in, nI_add, pk_mul, n_div, n_sub, nm_mod, h0, h1, h2, hk, c_isHole, c_kindRots]
theorem kA_lt {c i : Nat} (hc : c < 9) (hi : i < 4) : kA c i < 16 := by unfold kA; omega
theorem c_clauseHolds {q : Nat} (hq : aN q) {c : Nat} (hc : c < 9) (σ : a_HP) (Q : Option Value → a_HP → Prop) : Cl 24 [.ref q, .int (nI c)] σ Q = Q (some (.int (pC (σ.1 q 0) (σ.1 (q + 1)) (σ.1 (q + 2)) c))) σ := by
  have hq' := hq
  obtain ⟨h0, h1, h2, h3, h4⟩ := hq
  have e0 := kA_lt hc (i := 0) (by omega)
  have e1 := kA_lt hc (i := 1) (by omega)
  have e2 := kA_lt hc (i := 2) (by omega)
  have e3 := kA_lt hc (i := 3) (by omega)
  simp (disch := first | assumption | omega) only [cl_24, r_24_0, r_24_1, r_24_2, r_24_3, r_24_4, r_24_5, r_24_6, r_24_9, r_24_10, r_24_11, r_24_12, r_24_13, r_24_16, r_24_19, r_24_20, r_24_21, r_24_24, r_24_27, r_24_28, f_add, o_bi, o_cge, o_go, o_inc, o_ivs, o_ivv, o_lda, o_ldi, o_pi, o_ri, o_sti, acR_nx, acR_re, acR_ca, acR_no, acR_if, Kc_i, Kc_n, a_lg, a_ls, a_kl, a_pk, a_sw, cw_n, cw_i, cw_l, cw_r, List.length_cons, List.length_nil, List.getElem?_cons_succ, List.getElem?_cons_zero, ↓reduceIte, decide_true, decide_false, Bool.false_eq_true, or_true, true_or, or_false, false_or, or_self, and_true, true_and, not_true_eq_false, not_false_eq_true, Nat.reduceEqDiff, Nat.reduceLT, Nat.reduceLeDiff, Nat.reduceAdd, Nat.reduceSub, Nat.reduceMul, Nat.reduceDiv, Nat.reduceMod, Nat.zero_add, Nat.add_zero, n_z, n_1, n_ltz, n_zlt, n_lt, n_eq, n_cl, n_in, nI_add, pk_mul, n_div, n_sub, nm_mod, h0, c_knotAt, c_knotHolds, pC]
theorem c_isLaw {q : Nat} (hq : aN q) {c : Nat} (hc : c < 9) (σ : a_HP) (Q : Option Value → a_HP → Prop) : Cl 25 [.ref q, .int (nI c)] σ Q = if pC (σ.1 q 0) (σ.1 (q + 1)) (σ.1 (q + 2)) c < σ.1 (q + 4) c then Q (some (.int (nI 0))) σ else Q (some (.int (nI 1))) σ := by
  have hq' := hq
  obtain ⟨h0, h1, h2, h3, h4⟩ := hq
  simp (disch := first | assumption | omega) only [cl_25, r_25_0, r_25_1, r_25_2, r_25_5, r_25_6, r_25_9, r_25_10, r_25_11, r_25_14, r_25_15, r_25_18, r_25_19, o_clt, o_get, o_go, o_ial, o_ivv, o_lda, o_ldi, o_pi, o_rz, acR_nx, acR_re, acR_ca, acR_no, acR_if, Kc_i, Kc_n, a_lg, a_ls, a_kl, a_pk, a_sw, cw_n, cw_i, cw_l, cw_r, List.length_cons, List.length_nil, List.getElem?_cons_succ, List.getElem?_cons_zero, ↓reduceIte, decide_true, decide_false, Bool.false_eq_true, or_true, true_or, or_false, false_or, or_self, and_true, true_and, not_true_eq_false, not_false_eq_true, Nat.reduceEqDiff, Nat.reduceLT, Nat.reduceLeDiff, Nat.reduceAdd, Nat.reduceSub, Nat.reduceMul, Nat.reduceDiv, Nat.reduceMod, Nat.zero_add, Nat.add_zero, n_z, n_1, n_ltz, n_zlt, n_lt, n_eq, n_cl, n_in, nI_add, pk_mul, n_div, n_sub, nm_mod, h0, h4, hc, c_clauseHolds]
theorem c_lawBits {q : Nat} (hq : aN q) (σ : a_HP) (Q : Option Value → a_HP → Prop) : Cl 26 [.ref q] σ Q = Q (some (.int (pB (σ.1 q 0) (σ.1 (q + 1)) (σ.1 (q + 2)) (σ.1 (q + 4)) 9))) σ := by
  have hq' := hq
  obtain ⟨h0, h1, h2, h3, h4⟩ := hq
  have key := lp_up (P := fun i => Rn 26 4 [some (.ref q), some (.int (pB (σ.1 q 0) (σ.1 (q + 1)) (σ.1 (q + 2)) (σ.1 (q + 4)) i)), some (.int (nI i))] [] σ Q) 9 (fun i hi => by
    rw [r_26_4]
    simp (disch := first | assumption | omega) only [r_26_0, r_26_1, r_26_2, r_26_3, r_26_5, r_26_7, r_26_10, r_26_11, r_26_12, r_26_15, r_26_18, r_26_19, r_26_20, r_26_21, r_26_22, r_26_23, r_26_24, r_26_27, r_26_30, r_26_31, f_or, f_shl, o_bi, o_cge, o_eq, o_go, o_inc, o_ivv, o_lda, o_ldi, o_pi, o_ri, o_sti, acR_nx, acR_re, acR_ca, acR_no, acR_if, Kc_i, Kc_n, a_lg, a_ls, a_kl, a_pk, a_sw, cw_n, cw_i, cw_l, cw_r, List.length_cons, List.length_nil, List.getElem?_cons_succ, List.getElem?_cons_zero, ↓reduceIte, decide_true, decide_false, Bool.false_eq_true, or_true, true_or, or_false, false_or, or_self, and_true, true_and, not_true_eq_false, not_false_eq_true, Nat.reduceEqDiff, Nat.reduceLT, Nat.reduceLeDiff, Nat.reduceAdd, Nat.reduceSub, Nat.reduceMul, Nat.reduceDiv, Nat.reduceMod, Nat.zero_add, Nat.add_zero, n_z, n_1, n_ltz, n_zlt, n_lt, n_eq, n_cl, n_in, nI_add, pk_mul, n_div, n_sub, nm_mod, h0, hi, c_isLaw, pB]
    split <;> rfl)
  simp (disch := first | assumption | omega) only [cl_26, r_26_0, r_26_1, r_26_2, r_26_3, r_26_5, r_26_7, r_26_10, r_26_11, r_26_12, r_26_15, r_26_18, r_26_19, r_26_20, r_26_21, r_26_22, r_26_23, r_26_24, r_26_27, r_26_30, r_26_31, f_or, f_shl, o_bi, o_cge, o_eq, o_go, o_inc, o_ivv, o_lda, o_ldi, o_pi, o_ri, o_sti, acR_nx, acR_re, acR_ca, acR_no, acR_if, Kc_i, Kc_n, a_lg, a_ls, a_kl, a_pk, a_sw, cw_n, cw_i, cw_l, cw_r, List.length_cons, List.length_nil, List.getElem?_cons_succ, List.getElem?_cons_zero, ↓reduceIte, decide_true, decide_false, Bool.false_eq_true, or_true, true_or, or_false, false_or, or_self, and_true, true_and, not_true_eq_false, not_false_eq_true, Nat.reduceEqDiff, Nat.reduceLT, Nat.reduceLeDiff, Nat.reduceAdd, Nat.reduceSub, Nat.reduceMul, Nat.reduceDiv, Nat.reduceMod, Nat.zero_add, Nat.add_zero, n_z, n_1, n_ltz, n_zlt, n_lt, n_eq, n_cl, n_in, nI_add, pk_mul, n_div, n_sub, nm_mod]
  refine Eq.trans key ?_
  simp (disch := first | assumption | omega) only [r_26_0, r_26_1, r_26_2, r_26_3, r_26_4, r_26_5, r_26_7, r_26_10, r_26_11, r_26_12, r_26_15, r_26_18, r_26_19, r_26_20, r_26_21, r_26_22, r_26_23, r_26_24, r_26_27, r_26_30, r_26_31, f_or, f_shl, o_bi, o_cge, o_eq, o_go, o_inc, o_ivv, o_lda, o_ldi, o_pi, o_ri, o_sti, acR_nx, acR_re, acR_ca, acR_no, acR_if, Kc_i, Kc_n, a_lg, a_ls, a_kl, a_pk, a_sw, cw_n, cw_i, cw_l, cw_r, List.length_cons, List.length_nil, List.getElem?_cons_succ, List.getElem?_cons_zero, ↓reduceIte, decide_true, decide_false, Bool.false_eq_true, or_true, true_or, or_false, false_or, or_self, and_true, true_and, not_true_eq_false, not_false_eq_true, Nat.reduceEqDiff, Nat.reduceLT, Nat.reduceLeDiff, Nat.reduceAdd, Nat.reduceSub, Nat.reduceMul, Nat.reduceDiv, Nat.reduceMod, Nat.zero_add, Nat.add_zero, n_z, n_1, n_ltz, n_zlt, n_lt, n_eq, n_cl, n_in, nI_add, pk_mul, n_div, n_sub, nm_mod]
theorem c_tied {q : Nat} (hq : aN q) (σ : a_HP) (Q : Option Value → a_HP → Prop) : Cl 20 [.ref q] σ Q = Q (some (.int (tK (σ.1 (q + 2)) 16))) σ := by
  have hq' := hq
  obtain ⟨h0, h1, h2, h3, h4⟩ := hq
  have key := lp_up (P := fun i => Rn 20 4 [some (.ref q), some (.int (tK (σ.1 (q + 2)) i)), some (.int (nI i))] [] σ Q) 16 (fun i hi => by
    rw [r_20_4]
    simp (disch := first | assumption | omega) only [r_20_0, r_20_1, r_20_2, r_20_3, r_20_5, r_20_7, r_20_10, r_20_11, r_20_12, r_20_13, r_20_16, r_20_19, r_20_20, r_20_23, r_20_24, r_20_25, r_20_26, r_20_29, r_20_32, r_20_33, f_add, o_bi, o_cge, o_eq, o_go, o_inc, o_ivv, o_lda, o_ldi, o_pi, o_ri, o_sti, acR_nx, acR_re, acR_ca, acR_no, acR_if, Kc_i, Kc_n, a_lg, a_ls, a_kl, a_pk, a_sw, cw_n, cw_i, cw_l, cw_r, List.length_cons, List.length_nil, List.getElem?_cons_succ, List.getElem?_cons_zero, ↓reduceIte, decide_true, decide_false, Bool.false_eq_true, or_true, true_or, or_false, false_or, or_self, and_true, true_and, not_true_eq_false, not_false_eq_true, Nat.reduceEqDiff, Nat.reduceLT, Nat.reduceLeDiff, Nat.reduceAdd, Nat.reduceSub, Nat.reduceMul, Nat.reduceDiv, Nat.reduceMod, Nat.zero_add, Nat.add_zero, n_z, n_1, n_ltz, n_zlt, n_lt, n_eq, n_cl, n_in, nI_add, pk_mul, n_div, n_sub, nm_mod, h0, hi, c_isHole, tK]
    split <;> rfl)
  simp (disch := first | assumption | omega) only [cl_20, r_20_0, r_20_1, r_20_2, r_20_3, r_20_5, r_20_7, r_20_10, r_20_11, r_20_12, r_20_13, r_20_16, r_20_19, r_20_20, r_20_23, r_20_24, r_20_25, r_20_26, r_20_29, r_20_32, r_20_33, f_add, o_bi, o_cge, o_eq, o_go, o_inc, o_ivv, o_lda, o_ldi, o_pi, o_ri, o_sti, acR_nx, acR_re, acR_ca, acR_no, acR_if, Kc_i, Kc_n, a_lg, a_ls, a_kl, a_pk, a_sw, cw_n, cw_i, cw_l, cw_r, List.length_cons, List.length_nil, List.getElem?_cons_succ, List.getElem?_cons_zero, ↓reduceIte, decide_true, decide_false, Bool.false_eq_true, or_true, true_or, or_false, false_or, or_self, and_true, true_and, not_true_eq_false, not_false_eq_true, Nat.reduceEqDiff, Nat.reduceLT, Nat.reduceLeDiff, Nat.reduceAdd, Nat.reduceSub, Nat.reduceMul, Nat.reduceDiv, Nat.reduceMod, Nat.zero_add, Nat.add_zero, n_z, n_1, n_ltz, n_zlt, n_lt, n_eq, n_cl, n_in, nI_add, pk_mul, n_div, n_sub, nm_mod]
  refine Eq.trans key ?_
  simp (disch := first | assumption | omega) only [r_20_0, r_20_1, r_20_2, r_20_3, r_20_4, r_20_5, r_20_7, r_20_10, r_20_11, r_20_12, r_20_13, r_20_16, r_20_19, r_20_20, r_20_23, r_20_24, r_20_25, r_20_26, r_20_29, r_20_32, r_20_33, f_add, o_bi, o_cge, o_eq, o_go, o_inc, o_ivv, o_lda, o_ldi, o_pi, o_ri, o_sti, acR_nx, acR_re, acR_ca, acR_no, acR_if, Kc_i, Kc_n, a_lg, a_ls, a_kl, a_pk, a_sw, cw_n, cw_i, cw_l, cw_r, List.length_cons, List.length_nil, List.getElem?_cons_succ, List.getElem?_cons_zero, ↓reduceIte, decide_true, decide_false, Bool.false_eq_true, or_true, true_or, or_false, false_or, or_self, and_true, true_and, not_true_eq_false, not_false_eq_true, Nat.reduceEqDiff, Nat.reduceLT, Nat.reduceLeDiff, Nat.reduceAdd, Nat.reduceSub, Nat.reduceMul, Nat.reduceDiv, Nat.reduceMod, Nat.zero_add, Nat.add_zero, n_z, n_1, n_ltz, n_zlt, n_lt, n_eq, n_cl, n_in, nI_add, pk_mul, n_div, n_sub, nm_mod]
