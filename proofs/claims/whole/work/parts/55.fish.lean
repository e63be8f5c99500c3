/-! fish -/
def bes (s : Nat) : Nat := (s ||| s * 8 ||| s / 8 ||| (s &&& 219) * 2 ||| (s &&& 438) / 2) &&& 511
theorem bes_i : ∀ s : Fin 512, ((((nI s.val ||| nI s.val <<< (nI 3 &&& 31)) ||| nI s.val >>> (nI 3 &&& 31)) ||| (nI s.val &&& nI 219) <<< (nI 1 &&& 31)) ||| (nI s.val &&& nI 438) >>> (nI 1 &&& 31)) &&& nI 511 = nI (bes s.val) := by decide +kernel
theorem m_besides {s : Nat} (hs : s < 512) (σ : a_HP) (Q : Option Value → a_HP → Prop) : Cl 180 [.int (nI s)] σ Q = Q (some (.int (nI (bes s)))) σ := by
  have e := bes_i ⟨s, hs⟩
  simp (disch := first | assumption | omega) only [cl_180, r_180_0, r_180_1, r_180_2, r_180_3, r_180_4, r_180_5, r_180_6, r_180_7, r_180_8, r_180_9, r_180_10, r_180_11, r_180_12, r_180_15, r_180_16, r_180_17, r_180_18, r_180_19, r_180_20, r_180_21, r_180_22, r_180_25, r_180_26, r_180_27, r_180_28, r_180_29, r_180_30, r_180_31, r_180_34, r_180_35, f_and, f_or, f_shl, f_shr, o_bi, o_ldi, o_pi, o_ri, o_sti, acR_nx, acR_re, acR_ca, acR_no, acR_if, Kc_i, Kc_n, a_lg, a_ls, a_kl, a_pk, a_sw, cw_n, cw_i, cw_l, cw_r, List.length_cons, List.length_nil, List.getElem?_cons_succ, List.getElem?_cons_zero, ↓reduceIte, decide_true, decide_false, Bool.false_eq_true, or_true, true_or, or_false, false_or, or_self, and_true, true_and, not_true_eq_false, not_false_eq_true, Nat.reduceEqDiff, Nat.reduceLT, Nat.reduceLeDiff, Nat.reduceAdd, Nat.reduceSub, Nat.reduceMul, Nat.reduceDiv, Nat.reduceMod, Nat.zero_add, Nat.add_zero, e]
theorem bes_lt (s : Nat) : bes s < 512 := by
  unfold bes
  have : (s ||| s * 8 ||| s / 8 ||| (s &&& 219) * 2 ||| (s &&& 438) / 2) &&& 511 ≤ 511 := Nat.and_le_right
  omega
/-- the reference's way: the place of the first row that meets the lower one -/
def wy (F : Nat) : Nat → Nat → Nat → Int32
  | 0, _, _ => 1000000
  | n + 1, i, met => if met &&& 448 = 0 then wy F n (i + 1) (bes met &&& F) else nI i
theorem m_way {F : Nat} (hF : F < 512) (from_ : Int32) (σ : a_HP) (Q : Option Value → a_HP → Prop) : ∀ (n i met : Nat), i + n = 10 → met < 512 → Rn 181 21 [some (.ref 61), some (.int from_), some (.int (nI F)), some (.int (nI met)), some (.int (nI i))] [] σ Q = Q (some (.int (wy F n i met))) σ
  | 0, i, met, h, hm => by
    have : i = 10 := by omega
    subst this
    rw [r_181_21]
    simp (disch := first | assumption | omega) only [r_181_0, r_181_3, r_181_4, r_181_7, r_181_10, r_181_11, r_181_12, r_181_13, r_181_14, r_181_15, r_181_16, r_181_17, r_181_18, r_181_19, r_181_23, r_181_25, r_181_28, r_181_29, r_181_32, r_181_33, r_181_36, r_181_38, r_181_39, r_181_40, r_181_43, r_181_44, r_181_45, r_181_46, r_181_49, r_181_52, r_181_54, f_and, f_xor, o_bi, o_cge, o_eq, o_get, o_go, o_inc, o_ivs, o_lda, o_ldi, o_pi, o_ri, o_sti, acR_nx, acR_re, acR_ca, acR_no, acR_if, Kc_i, Kc_n, a_lg, a_ls, a_kl, a_pk, a_sw, cw_n, cw_i, cw_l, cw_r, List.length_cons, List.length_nil, List.getElem?_cons_succ, List.getElem?_cons_zero, ↓reduceIte, decide_true, decide_false, Bool.false_eq_true, or_true, true_or, or_false, false_or, or_self, and_true, true_and, not_true_eq_false, not_false_eq_true, Nat.reduceEqDiff, Nat.reduceLT, Nat.reduceLeDiff, Nat.reduceAdd, Nat.reduceSub, Nat.reduceMul, Nat.reduceDiv, Nat.reduceMod, Nat.zero_add, Nat.add_zero, n_z, n_1, n_ltz, n_zlt, n_lt, n_eq, n_cl, n_in, nI_add, pk_mul, n_div, n_sub, nm_mod, wy]
  | n + 1, i, met, h, hm => by
    rw [r_181_21]
    have hi : i < 10 := by omega
    have hle : bes met &&& F ≤ F := Nat.and_le_right
    have ml : met &&& 448 ≤ 448 := Nat.and_le_right
    have ih := m_way hF from_ σ Q n (i + 1) (bes met &&& F) (by omega) (by omega)
    by_cases c : met &&& 448 = 0
    · simp (disch := first | assumption | omega) only [r_181_0, r_181_3, r_181_4, r_181_7, r_181_10, r_181_11, r_181_12, r_181_13, r_181_14, r_181_15, r_181_16, r_181_17, r_181_18, r_181_19, r_181_23, r_181_25, r_181_28, r_181_29, r_181_32, r_181_33, r_181_36, r_181_38, r_181_39, r_181_40, r_181_43, r_181_44, r_181_45, r_181_46, r_181_49, r_181_52, r_181_54, f_and, f_xor, o_bi, o_cge, o_eq, o_get, o_go, o_inc, o_ivs, o_lda, o_ldi, o_pi, o_ri, o_sti, acR_nx, acR_re, acR_ca, acR_no, acR_if, Kc_i, Kc_n, a_lg, a_ls, a_kl, a_pk, a_sw, cw_n, cw_i, cw_l, cw_r, List.length_cons, List.length_nil, List.getElem?_cons_succ, List.getElem?_cons_zero, ↓reduceIte, decide_true, decide_false, Bool.false_eq_true, or_true, true_or, or_false, false_or, or_self, and_true, true_and, not_true_eq_false, not_false_eq_true, Nat.reduceEqDiff, Nat.reduceLT, Nat.reduceLeDiff, Nat.reduceAdd, Nat.reduceSub, Nat.reduceMul, Nat.reduceDiv, Nat.reduceMod, Nat.zero_add, Nat.add_zero, n_z, n_1, n_ltz, n_zlt, n_lt, n_eq, n_cl, n_in, nI_add, pk_mul, n_div, n_sub, nm_mod, nx_and, hi, c, m_besides hm, wy]
      exact ih
    · simp (disch := first | assumption | omega) only [r_181_0, r_181_3, r_181_4, r_181_7, r_181_10, r_181_11, r_181_12, r_181_13, r_181_14, r_181_15, r_181_16, r_181_17, r_181_18, r_181_19, r_181_23, r_181_25, r_181_28, r_181_29, r_181_32, r_181_33, r_181_36, r_181_38, r_181_39, r_181_40, r_181_43, r_181_44, r_181_45, r_181_46, r_181_49, r_181_52, r_181_54, f_and, f_xor, o_bi, o_cge, o_eq, o_get, o_go, o_inc, o_ivs, o_lda, o_ldi, o_pi, o_ri, o_sti, acR_nx, acR_re, acR_ca, acR_no, acR_if, Kc_i, Kc_n, a_lg, a_ls, a_kl, a_pk, a_sw, cw_n, cw_i, cw_l, cw_r, List.length_cons, List.length_nil, List.getElem?_cons_succ, List.getElem?_cons_zero, ↓reduceIte, decide_true, decide_false, Bool.false_eq_true, or_true, true_or, or_false, false_or, or_self, and_true, true_and, not_true_eq_false, not_false_eq_true, Nat.reduceEqDiff, Nat.reduceLT, Nat.reduceLeDiff, Nat.reduceAdd, Nat.reduceSub, Nat.reduceMul, Nat.reduceDiv, Nat.reduceMod, Nat.zero_add, Nat.add_zero, n_z, n_1, n_ltz, n_zlt, n_lt, n_eq, n_cl, n_in, nI_add, pk_mul, n_div, n_sub, nm_mod, nx_and, hi, c, wy]
theorem free_i : ∀ m : Fin 512, nI 511 &&& (nI m.val ^^^ -1) = nI (511 ^^^ m.val) := by decide +kernel
theorem m_wayFrom {N m s : Nat} (hm : m < 512) (hs : s < 512) (σ : a_HP) (hv : vN N (σ.1 62)) (hl : lB (σ.1 62) (fun j => σ.1 62 (20 + j)) = nI m) (Q : Option Value → a_HP → Prop) : Cl 181 [.ref 61, .int (nI s)] σ Q = Q (some (.int (wy (511 ^^^ m) 9 1 (s &&& (511 ^^^ m))))) σ := by
  have ml := m_lawsOf aT_62 σ (vKn_of hv)
  have e : pB (σ.1 62 0) (fun j => σ.1 62 (4 + j)) (fun j => σ.1 62 (20 + j)) (fun j => σ.1 62 (52 + j)) 9 = nI m := hl
  rw [e] at ml
  have e2 := free_i ⟨m, hm⟩
  dsimp only at e2
  have hF : 511 ^^^ m < 512 := Nat.xor_lt_two_pow (n := 9) (by omega) (by omega)
  have hle : s &&& (511 ^^^ m) ≤ s := Nat.and_le_left
  have k := m_way hF (nI s) σ Q 9 1 (s &&& (511 ^^^ m)) (by omega) (by omega)
  simp (disch := first | assumption | omega) only [cl_181, r_181_0, r_181_3, r_181_4, r_181_7, r_181_10, r_181_11, r_181_12, r_181_13, r_181_14, r_181_15, r_181_16, r_181_17, r_181_18, r_181_19, r_181_23, r_181_25, r_181_28, r_181_29, r_181_32, r_181_33, r_181_36, r_181_38, r_181_39, r_181_40, r_181_43, r_181_44, r_181_45, r_181_46, r_181_49, r_181_52, r_181_54, f_and, f_xor, o_bi, o_cge, o_eq, o_get, o_go, o_inc, o_ivs, o_lda, o_ldi, o_pi, o_ri, o_sti, acR_nx, acR_re, acR_ca, acR_no, acR_if, Kc_i, Kc_n, a_lg, a_ls, a_kl, a_pk, a_sw, cw_n, cw_i, cw_l, cw_r, List.length_cons, List.length_nil, List.getElem?_cons_succ, List.getElem?_cons_zero, ↓reduceIte, decide_true, decide_false, Bool.false_eq_true, or_true, true_or, or_false, false_or, or_self, and_true, true_and, not_true_eq_false, not_false_eq_true, Nat.reduceEqDiff, Nat.reduceLT, Nat.reduceLeDiff, Nat.reduceAdd, Nat.reduceSub, Nat.reduceMul, Nat.reduceDiv, Nat.reduceMod, Nat.zero_add, Nat.add_zero, n_z, n_1, n_ltz, n_zlt, n_lt, n_eq, n_cl, n_in, nI_add, pk_mul, n_div, n_sub, nm_mod, ly_61, ml, e2, nx_and]
  exact k
def fM (m : Nat) (c : Nat) : Int32 := wy (511 ^^^ m) 9 1 (2 ^ c &&& (511 ^^^ m))
def fB (m : Nat) : Int32 := wy (511 ^^^ m) 9 1 (7 &&& (511 ^^^ m))
def fSt (m : Nat) : Nat → Int32
  | 0 => nI 0
  | c + 1 => if fM m c = fB m then fSt m c ||| nI 1 <<< (nI c &&& 31) else fSt m c
theorem p2_i : ∀ c : Fin 3, nI 1 <<< (nI c.val &&& 31) = nI (2 ^ c.val) := by decide +kernel
theorem m_fish {N m w : Nat} (hm : m < 512) (hw : w ≤ 1) (σ : a_HP) (hv : vN N (σ.1 62)) (hl : lB (σ.1 62) (fun j => σ.1 62 (20 + j)) = nI m) (Q : Option Value → a_HP → Prop) : Cl 182 [.ref 61, .int (nI w)] σ Q = Q (some (.int (if fB m = 1000000 then -1 else if w = 0 then fB m else fSt m 3))) σ := by
  have w7 := m_wayFrom (s := 7) hm (by omega) σ hv hl
  have key := lp_up (P := fun c => Rn 182 24 [some (.ref 61), some (.int (nI w)), some (.int (fB m)), some (.int (fSt m c)), some (.int (nI c))] [] σ Q) 3 (fun c hc => by
    rw [r_182_24]
    have e := p2_i ⟨c, hc⟩
    dsimp only at e
    have h8 : 2 ^ c < 512 := Nat.lt_of_le_of_lt (Nat.pow_le_pow_right (by omega) (show c ≤ 2 by omega)) (by omega)
    have wc := m_wayFrom (s := 2 ^ c) hm h8 σ hv hl
    have wc' : ∀ Q, Cl 181 [.ref 61, .int (nI 1 <<< (nI c &&& 31))] σ Q = Q (some (.int (fM m c))) σ := fun Q => by rw [e]; exact wc Q
    by_cases q : fM m c = fB m
    · simp (disch := first | assumption | omega) only [r_182_0, r_182_1, r_182_4, r_182_7, r_182_8, r_182_11, r_182_12, r_182_13, r_182_15, r_182_18, r_182_19, r_182_20, r_182_21, r_182_22, r_182_26, r_182_27, r_182_30, r_182_31, r_182_32, r_182_33, r_182_35, r_182_36, r_182_39, r_182_40, r_182_43, r_182_44, r_182_46, r_182_47, r_182_50, r_182_51, r_182_52, r_182_53, r_182_56, r_182_59, r_182_60, r_182_62, r_182_65, r_182_66, r_182_69, r_182_70, r_182_73, r_182_74, r_182_77, r_182_78, f_or, f_shl, o_bi, o_cge, o_cne, o_go, o_inc, o_ivs, o_ivv, o_lda, o_ldi, o_ne, o_pi, o_ri, o_sti, acR_nx, acR_re, acR_ca, acR_no, acR_if, Kc_i, Kc_n, a_lg, a_ls, a_kl, a_pk, a_sw, cw_n, cw_i, cw_l, cw_r, List.length_cons, List.length_nil, List.getElem?_cons_succ, List.getElem?_cons_zero, ↓reduceIte, decide_true, decide_false, Bool.false_eq_true, or_true, true_or, or_false, false_or, or_self, and_true, true_and, not_true_eq_false, not_false_eq_true, Nat.reduceEqDiff, Nat.reduceLT, Nat.reduceLeDiff, Nat.reduceAdd, Nat.reduceSub, Nat.reduceMul, Nat.reduceDiv, Nat.reduceMod, Nat.zero_add, Nat.add_zero, n_z, n_1, n_ltz, n_zlt, n_lt, n_eq, n_cl, n_in, nI_add, pk_mul, n_div, n_sub, nm_mod, ly_61, hc, wc', q, fSt]
    · simp (disch := first | assumption | omega) only [r_182_0, r_182_1, r_182_4, r_182_7, r_182_8, r_182_11, r_182_12, r_182_13, r_182_15, r_182_18, r_182_19, r_182_20, r_182_21, r_182_22, r_182_26, r_182_27, r_182_30, r_182_31, r_182_32, r_182_33, r_182_35, r_182_36, r_182_39, r_182_40, r_182_43, r_182_44, r_182_46, r_182_47, r_182_50, r_182_51, r_182_52, r_182_53, r_182_56, r_182_59, r_182_60, r_182_62, r_182_65, r_182_66, r_182_69, r_182_70, r_182_73, r_182_74, r_182_77, r_182_78, f_or, f_shl, o_bi, o_cge, o_cne, o_go, o_inc, o_ivs, o_ivv, o_lda, o_ldi, o_ne, o_pi, o_ri, o_sti, acR_nx, acR_re, acR_ca, acR_no, acR_if, Kc_i, Kc_n, a_lg, a_ls, a_kl, a_pk, a_sw, cw_n, cw_i, cw_l, cw_r, List.length_cons, List.length_nil, List.getElem?_cons_succ, List.getElem?_cons_zero, ↓reduceIte, decide_true, decide_false, Bool.false_eq_true, or_true, true_or, or_false, false_or, or_self, and_true, true_and, not_true_eq_false, not_false_eq_true, Nat.reduceEqDiff, Nat.reduceLT, Nat.reduceLeDiff, Nat.reduceAdd, Nat.reduceSub, Nat.reduceMul, Nat.reduceDiv, Nat.reduceMod, Nat.zero_add, Nat.add_zero, n_z, n_1, n_ltz, n_zlt, n_lt, n_eq, n_cl, n_in, nI_add, pk_mul, n_div, n_sub, nm_mod, ly_61, hc, wc', q, fSt, or_0])
  have hw' : ¬ (w < 0 ∨ 1 < w) := by omega
  simp (disch := first | assumption | omega) only [cl_182, r_182_0, r_182_1, r_182_4, r_182_7, r_182_8, r_182_11, r_182_12, r_182_13, r_182_15, r_182_18, r_182_19, r_182_20, r_182_21, r_182_22, r_182_26, r_182_27, r_182_30, r_182_31, r_182_32, r_182_33, r_182_35, r_182_36, r_182_39, r_182_40, r_182_43, r_182_44, r_182_46, r_182_47, r_182_50, r_182_51, r_182_52, r_182_53, r_182_56, r_182_59, r_182_60, r_182_62, r_182_65, r_182_66, r_182_69, r_182_70, r_182_73, r_182_74, r_182_77, r_182_78, f_or, f_shl, o_bi, o_cge, o_cne, o_go, o_inc, o_ivs, o_ivv, o_lda, o_ldi, o_ne, o_pi, o_ri, o_sti, acR_nx, acR_re, acR_ca, acR_no, acR_if, Kc_i, Kc_n, a_lg, a_ls, a_kl, a_pk, a_sw, cw_n, cw_i, cw_l, cw_r, List.length_cons, List.length_nil, List.getElem?_cons_succ, List.getElem?_cons_zero, ↓reduceIte, decide_true, decide_false, Bool.false_eq_true, or_true, true_or, or_false, false_or, or_self, and_true, true_and, not_true_eq_false, not_false_eq_true, Nat.reduceEqDiff, Nat.reduceLT, Nat.reduceLeDiff, Nat.reduceAdd, Nat.reduceSub, Nat.reduceMul, Nat.reduceDiv, Nat.reduceMod, Nat.zero_add, Nat.add_zero, n_z, n_1, n_ltz, n_zlt, n_lt, n_eq, n_cl, n_in, nI_add, pk_mul, n_div, n_sub, nm_mod, ly_61, m_isTwo, hw', w7]
  refine Eq.trans key ?_
  rw [r_182_24]
  by_cases q : fB m = 1000000
  · simp (disch := first | assumption | omega) only [r_182_0, r_182_1, r_182_4, r_182_7, r_182_8, r_182_11, r_182_12, r_182_13, r_182_15, r_182_18, r_182_19, r_182_20, r_182_21, r_182_22, r_182_26, r_182_27, r_182_30, r_182_31, r_182_32, r_182_33, r_182_35, r_182_36, r_182_39, r_182_40, r_182_43, r_182_44, r_182_46, r_182_47, r_182_50, r_182_51, r_182_52, r_182_53, r_182_56, r_182_59, r_182_60, r_182_62, r_182_65, r_182_66, r_182_69, r_182_70, r_182_73, r_182_74, r_182_77, r_182_78, f_or, f_shl, o_bi, o_cge, o_cne, o_go, o_inc, o_ivs, o_ivv, o_lda, o_ldi, o_ne, o_pi, o_ri, o_sti, acR_nx, acR_re, acR_ca, acR_no, acR_if, Kc_i, Kc_n, a_lg, a_ls, a_kl, a_pk, a_sw, cw_n, cw_i, cw_l, cw_r, List.length_cons, List.length_nil, List.getElem?_cons_succ, List.getElem?_cons_zero, ↓reduceIte, decide_true, decide_false, Bool.false_eq_true, or_true, true_or, or_false, false_or, or_self, and_true, true_and, not_true_eq_false, not_false_eq_true, Nat.reduceEqDiff, Nat.reduceLT, Nat.reduceLeDiff, Nat.reduceAdd, Nat.reduceSub, Nat.reduceMul, Nat.reduceDiv, Nat.reduceMod, Nat.zero_add, Nat.add_zero, n_z, n_1, n_ltz, n_zlt, n_lt, n_eq, n_cl, n_in, nI_add, pk_mul, n_div, n_sub, nm_mod, q]
  · by_cases w0 : w = 0
    · simp (disch := first | assumption | omega) only [r_182_0, r_182_1, r_182_4, r_182_7, r_182_8, r_182_11, r_182_12, r_182_13, r_182_15, r_182_18, r_182_19, r_182_20, r_182_21, r_182_22, r_182_26, r_182_27, r_182_30, r_182_31, r_182_32, r_182_33, r_182_35, r_182_36, r_182_39, r_182_40, r_182_43, r_182_44, r_182_46, r_182_47, r_182_50, r_182_51, r_182_52, r_182_53, r_182_56, r_182_59, r_182_60, r_182_62, r_182_65, r_182_66, r_182_69, r_182_70, r_182_73, r_182_74, r_182_77, r_182_78, f_or, f_shl, o_bi, o_cge, o_cne, o_go, o_inc, o_ivs, o_ivv, o_lda, o_ldi, o_ne, o_pi, o_ri, o_sti, acR_nx, acR_re, acR_ca, acR_no, acR_if, Kc_i, Kc_n, a_lg, a_ls, a_kl, a_pk, a_sw, cw_n, cw_i, cw_l, cw_r, List.length_cons, List.length_nil, List.getElem?_cons_succ, List.getElem?_cons_zero, ↓reduceIte, decide_true, decide_false, Bool.false_eq_true, or_true, true_or, or_false, false_or, or_self, and_true, true_and, not_true_eq_false, not_false_eq_true, Nat.reduceEqDiff, Nat.reduceLT, Nat.reduceLeDiff, Nat.reduceAdd, Nat.reduceSub, Nat.reduceMul, Nat.reduceDiv, Nat.reduceMod, Nat.zero_add, Nat.add_zero, n_z, n_1, n_ltz, n_zlt, n_lt, n_eq, n_cl, n_in, nI_add, pk_mul, n_div, n_sub, nm_mod, q, w0]
    · simp (disch := first | assumption | omega) only [r_182_0, r_182_1, r_182_4, r_182_7, r_182_8, r_182_11, r_182_12, r_182_13, r_182_15, r_182_18, r_182_19, r_182_20, r_182_21, r_182_22, r_182_26, r_182_27, r_182_30, r_182_31, r_182_32, r_182_33, r_182_35, r_182_36, r_182_39, r_182_40, r_182_43, r_182_44, r_182_46, r_182_47, r_182_50, r_182_51, r_182_52, r_182_53, r_182_56, r_182_59, r_182_60, r_182_62, r_182_65, r_182_66, r_182_69, r_182_70, r_182_73, r_182_74, r_182_77, r_182_78, f_or, f_shl, o_bi, o_cge, o_cne, o_go, o_inc, o_ivs, o_ivv, o_lda, o_ldi, o_ne, o_pi, o_ri, o_sti, acR_nx, acR_re, acR_ca, acR_no, acR_if, Kc_i, Kc_n, a_lg, a_ls, a_kl, a_pk, a_sw, cw_n, cw_i, cw_l, cw_r, List.length_cons, List.length_nil, List.getElem?_cons_succ, List.getElem?_cons_zero, ↓reduceIte, decide_true, decide_false, Bool.false_eq_true, or_true, true_or, or_false, false_or, or_self, and_true, true_and, not_true_eq_false, not_false_eq_true, Nat.reduceEqDiff, Nat.reduceLT, Nat.reduceLeDiff, Nat.reduceAdd, Nat.reduceSub, Nat.reduceMul, Nat.reduceDiv, Nat.reduceMod, Nat.zero_add, Nat.add_zero, n_z, n_1, n_ltz, n_zlt, n_lt, n_eq, n_cl, n_in, nI_add, pk_mul, n_div, n_sub, nm_mod, q, w0]
/-! the class: levels from the lower row on -/
def lv (F : Nat) : Nat → Nat
  | 0 => 0
  | g + 1 => if g = 0 then F &&& 448 else lv F g ||| (bes (lv F g) &&& F)
def wv (F : Nat) : Nat → Nat → Int32
  | 0, _ => -1
  | g + 1, c => if (lv F g).testBit c = true then wv F g c else if (lv F (g + 1)).testBit c = true then nI (g + 1) else -1
theorem lv_le (F : Nat) (hF : F < 512) : ∀ g, lv F g < 512
  | 0 => by simp [lv]
  | g + 1 => by
    simp only [lv]
    by_cases h : g = 0
    · rw [if_pos h]
      have : F &&& 448 ≤ F := Nat.and_le_left
      omega
    · rw [if_neg h]
      have h1 := lv_le F hF g
      have h2 : bes (lv F g) &&& F ≤ F := Nat.and_le_right
      exact Nat.or_lt_two_pow (n := 9) h1 (by omega)
theorem lv_mono (F : Nat) {g c : Nat} (hg : 1 ≤ g) (h : (lv F g).testBit c = true) : (lv F (g + 1)).testBit c = true := by
  simp only [lv]
  rw [if_neg (by omega), Nat.testBit_or, h]
  rfl
theorem wv_none (F : Nat) (c : Nat) : ∀ g, g < 100 → (wv F g c = -1 ↔ ¬ (lv F g).testBit c = true)
  | 0, _ => by simp [wv, lv]
  | g + 1, hg => by
    simp only [wv]
    have hn : ¬ nI (g + 1) = -1 := by rw [n_nm1 (by omega)]; exact id
    by_cases h1 : (lv F g).testBit c = true
    · rw [if_pos h1]
      have h2 : (lv F (g + 1)).testBit c = true := by
        cases g with
        | zero => simp [lv] at h1
        | succ g => exact lv_mono F (by omega) h1
      constructor
      · intro q; exact absurd h1 ((wv_none F c g (by omega)).mp q)
      · intro q; exact absurd h2 q
    · rw [if_neg h1]
      by_cases h2 : (lv F (g + 1)).testBit c = true
      · rw [if_pos h2]
        constructor
        · intro q; exact absurd q hn
        · intro q; exact absurd h2 q
      · rw [if_neg h2]
        exact ⟨fun _ => h2, fun _ => rfl⟩
theorem wv_lt (F : Nat) (c : Nat) : ∀ g, g < 100 → wv F g c = -1 ∨ ∃ d : Nat, d ≤ g ∧ wv F g c = nI d
  | 0, _ => Or.inl rfl
  | g + 1, hg => by
    simp only [wv]
    by_cases h1 : (lv F g).testBit c = true
    · rw [if_pos h1]
      rcases wv_lt F c g (by omega) with q | ⟨d, hd, q⟩
      · exact Or.inl q
      · exact Or.inr ⟨d, by omega, q⟩
    · rw [if_neg h1]
      by_cases h2 : (lv F (g + 1)).testBit c = true
      · rw [if_pos h2]; exact Or.inr ⟨g + 1, by omega, rfl⟩
      · rw [if_neg h2]; exact Or.inl rfl
theorem wv_at (F : Nat) (c g : Nat) (hg : g < 99) : wv F (g + 1) c = nI (g + 1) ↔ (lv F (g + 1)).testBit c = true ∧ ¬ (lv F g).testBit c = true := by
  simp only [wv]
  by_cases h1 : (lv F g).testBit c = true
  · rw [if_pos h1]
    constructor
    · intro q
      exfalso
      rcases wv_lt F c g (by omega) with z | ⟨d, hd, z⟩
      · rw [z] at q
        have := n_m1n (k := g + 1) (by omega)
        rw [q] at this
        simp at this
      · rw [z, n_eq (by omega) (by omega)] at q
        omega
    · rintro ⟨-, q⟩; exact absurd h1 q
  · rw [if_neg h1]
    by_cases h2 : (lv F (g + 1)).testBit c = true
    · rw [if_pos h2]; exact ⟨fun _ => ⟨h2, h1⟩, fun _ => rfl⟩
    · rw [if_neg h2]
      constructor
      · intro q
        exfalso
        have := n_m1n (k := g + 1) (by omega)
        rw [q] at this
        simp at this
      · rintro ⟨q, -⟩; exact absurd q h2
/-- a neighbour c' of c by the picture P -/
def nbr (P : Nat → Bool) (c : Nat) : Bool := (decide (0 < c / 3) && P (c - 3)) || ((decide (c / 3 < 2) && P (c + 3)) || ((decide (0 < c % 3) && P (c - 1)) || (decide (c % 3 < 2) && P (c + 1))))
theorem bes_nbr : ∀ s : Fin 512, ∀ c : Fin 9, (bes s.val).testBit c.val = (s.val.testBit c.val || nbr (fun j => s.val.testBit j) c.val) := by decide +kernel
theorem nbr_mono {P P' : Nat → Bool} (h : ∀ j, P j = true → P' j = true) {c : Nat} (hn : nbr P c = true) : nbr P' c = true := by
  unfold nbr at *
  simp only [Bool.or_eq_true, Bool.and_eq_true] at *
  rcases hn with ⟨a, b⟩ | ⟨a, b⟩ | ⟨a, b⟩ | ⟨a, b⟩
  · exact Or.inl ⟨a, h _ b⟩
  · exact Or.inr (Or.inl ⟨a, h _ b⟩)
  · exact Or.inr (Or.inr (Or.inl ⟨a, h _ b⟩))
  · exact Or.inr (Or.inr (Or.inr ⟨a, h _ b⟩))
theorem nbr_diff {P P' : Nat → Bool} {c : Nat} (hn : nbr P c = true) (h' : ¬ nbr P' c = true) : nbr (fun j => P j && !P' j) c = true := by
  unfold nbr at *
  simp only [Bool.or_eq_true, Bool.and_eq_true, not_or, not_and, Bool.not_eq_true'] at *
  obtain ⟨g1, g2, g3, g4⟩ := h'
  rcases hn with ⟨a, b⟩ | ⟨a, b⟩ | ⟨a, b⟩ | ⟨a, b⟩
  · exact Or.inl ⟨a, b, by simpa using g1 a⟩
  · exact Or.inr (Or.inl ⟨a, b, by simpa using g2 a⟩)
  · exact Or.inr (Or.inr (Or.inl ⟨a, b, by simpa using g3 a⟩))
  · exact Or.inr (Or.inr (Or.inr ⟨a, b, by simpa using g4 a⟩))
/-- the step of the class' search, by levels -/
theorem lv_step {F : Nat} (hF : F < 512) {g c : Nat} (hg : 1 ≤ g) (hc : c < 9) (hn : ¬ (lv F g).testBit c = true) : (F.testBit c = true ∧ nbr (fun j => (lv F g).testBit j && !(lv F (g - 1)).testBit j) c = true) ↔ (lv F (g + 1)).testBit c = true := by
  have b1 := bes_nbr ⟨lv F g, lv_le F hF g⟩ ⟨c, hc⟩
  dsimp only at b1
  have e : (lv F (g + 1)).testBit c = ((lv F g).testBit c || ((bes (lv F g)).testBit c && F.testBit c)) := by
    simp only [lv]
    rw [if_neg (by omega), Nat.testBit_or, Nat.testBit_and]
  have hn' : (lv F g).testBit c = false := by simpa using hn
  rw [e, hn', b1, hn']
  simp only [Bool.false_or, Bool.and_eq_true]
  constructor
  · rintro ⟨h1, h2⟩
    exact ⟨nbr_mono (fun j hj => by simp only [Bool.and_eq_true] at hj; exact hj.1) h2, h1⟩
  · rintro ⟨h1, h2⟩
    refine ⟨h2, nbr_diff h1 ?_⟩
    intro h3
    apply hn
    obtain ⟨g, rfl⟩ : ∃ k, g = k + 1 := ⟨g - 1, by omega⟩
    rw [Nat.add_sub_cancel] at h3
    cases g with
    | zero =>
      exfalso
      have z : (lv F 0).testBit = (fun _ => false) := by funext j; simp [lv]
      rw [z] at h3
      simp [nbr] at h3
    | succ g =>
      have b2 := bes_nbr ⟨lv F (g + 1), lv_le F hF (g + 1)⟩ ⟨c, hc⟩
      dsimp only at b2
      have e2 : (lv F (g + 1 + 1)).testBit c = ((lv F (g + 1)).testBit c || ((bes (lv F (g + 1))).testBit c && F.testBit c)) := by
        show (if g + 1 = 0 then F &&& 448 else lv F (g + 1) ||| (bes (lv F (g + 1)) &&& F)).testBit c = _
        rw [if_neg (by omega), Nat.testBit_or, Nat.testBit_and]
      rw [e2, b2, h3, h2]
      simp
