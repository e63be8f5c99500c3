/-! numbers and tokens, the class -/
def nv (t : Nat → Nat) : Int32 → Nat → Nat → Int32
  | v, _, 0 => v
  | v, p, n + 1 => nv t (nI 10 * v + nI (t p) - nI 48) (p + 1) n
theorem c_numF {z : Nat} {t : Nat → Nat} {σ : a_HP} (ht : tx z t (σ.1 14)) (R : Nat → Int32) (Q : Option Value → a_HP → Prop) : ∀ p, p ≤ z → ∀ (o : Nat → Int32) (v : Int32), o 0 = nI z → o 4 = nI p → o 7 = v → Rn 48 5 [some (.ref 13)] [] (TS σ o R) Q = Rn 48 68 [some (.ref 13)] [] (TS σ (upd (upd o 7 (nv t v p (sE isF z t p - p))) 4 (nI (sE isF z t p))) R) Q := by
  obtain ⟨hz, htt⟩ := ht
  intro p hp
  refine sE_ind (P := isF) (z := z) (t := t) (M := fun p => ∀ (o : Nat → Int32) (v : Int32), o 0 = nI z → o 4 = nI p → o 7 = v → Rn 48 5 [some (.ref 13)] [] (TS σ o R) Q = Rn 48 68 [some (.ref 13)] [] (TS σ (upd (upd o 7 (nv t v p (sE isF z t p - p))) 4 (nI (sE isF z t p))) R) Q) (fun p hp h o v h0 h4 h7 => ?_) (fun p h1 h2 ih o v h0 h4 h7 => ?_) _ p rfl hp
  · rw [sE_stop h, Nat.sub_self]
    simp only [nv]
    rw [ud_id o h7, ud_id o h4, r_48_5]
    by_cases q : p < z
    · obtain ⟨t0, u0⟩ := htt p q
      have b0 : p < 150 := by omega
      have q2 : ¬ isF (t p) = true := fun w => h ⟨q, w⟩
      have q3 : t p < 2147483648 := by omega
      simp (disch := first | assumption | omega) only [r_48_0, r_48_1, r_48_2, r_48_6, r_48_9, r_48_10, r_48_13, r_48_16, r_48_17, r_48_20, r_48_21, r_48_24, r_48_25, r_48_28, r_48_31, r_48_32, r_48_34, r_48_35, r_48_38, r_48_39, r_48_40, r_48_43, r_48_44, r_48_47, r_48_48, r_48_49, r_48_51, r_48_52, r_48_55, r_48_56, r_48_57, r_48_60, r_48_61, r_48_62, r_48_65, r_48_69, r_48_70, r_48_73, r_48_74, r_48_77, r_48_78, r_48_79, r_48_82, r_48_83, r_48_86, r_48_88, r_48_91, f_add, f_mul, f_sub, o_bal, o_bi, o_cge, o_cgt, o_dup, o_eq, o_get, o_go, o_ivs, o_lda, o_pi, o_put, o_rv, acR_nx, acR_re, acR_ca, acR_no, acR_if, Kc_i, Kc_n, a_lg, a_ls, a_kl, a_pk, a_sw, cw_n, cw_i, cw_l, cw_r, List.length_cons, List.length_nil, List.getElem?_cons_succ, List.getElem?_cons_zero, ↓reduceIte, decide_true, decide_false, Bool.false_eq_true, or_true, true_or, or_false, false_or, or_self, and_true, true_and, not_true_eq_false, not_false_eq_true, Nat.reduceEqDiff, Nat.reduceLT, Nat.reduceLeDiff, Nat.reduceAdd, Nat.reduceSub, Nat.reduceMul, Nat.reduceDiv, Nat.reduceMod, Nat.zero_add, Nat.add_zero, n_z, n_1, n_ltz, n_zlt, n_lt, n_eq, n_cl, n_in, nI_add, pk_mul, n_div, n_sub, nm_mod, ly_13, ly_14, TS_13, TS_14, h0, h4, q, t0, b0, c_isF q3, q2]
    · simp (disch := first | assumption | omega) only [r_48_0, r_48_1, r_48_2, r_48_6, r_48_9, r_48_10, r_48_13, r_48_16, r_48_17, r_48_20, r_48_21, r_48_24, r_48_25, r_48_28, r_48_31, r_48_32, r_48_34, r_48_35, r_48_38, r_48_39, r_48_40, r_48_43, r_48_44, r_48_47, r_48_48, r_48_49, r_48_51, r_48_52, r_48_55, r_48_56, r_48_57, r_48_60, r_48_61, r_48_62, r_48_65, r_48_69, r_48_70, r_48_73, r_48_74, r_48_77, r_48_78, r_48_79, r_48_82, r_48_83, r_48_86, r_48_88, r_48_91, f_add, f_mul, f_sub, o_bal, o_bi, o_cge, o_cgt, o_dup, o_eq, o_get, o_go, o_ivs, o_lda, o_pi, o_put, o_rv, o_lda, acR_nx, acR_re, acR_ca, acR_no, acR_if, Kc_i, Kc_n, a_lg, a_ls, a_kl, a_pk, a_sw, cw_n, cw_i, cw_l, cw_r, List.length_cons, List.length_nil, List.getElem?_cons_succ, List.getElem?_cons_zero, ↓reduceIte, decide_true, decide_false, Bool.false_eq_true, or_true, true_or, or_false, false_or, or_self, and_true, true_and, not_true_eq_false, not_false_eq_true, Nat.reduceEqDiff, Nat.reduceLT, Nat.reduceLeDiff, Nat.reduceAdd, Nat.reduceSub, Nat.reduceMul, Nat.reduceDiv, Nat.reduceMod, Nat.zero_add, Nat.add_zero, n_z, n_1, n_ltz, n_zlt, n_lt, n_eq, n_cl, n_in, nI_add, pk_mul, n_div, n_sub, nm_mod, ly_13, ly_14, TS_13, TS_14, h0, h4, q]
  · obtain ⟨t0, u0⟩ := htt p h1
    have b0 : p < 150 := by omega
    have q3 : t p < 2147483648 := by omega
    have g := sE_ge (P := isF) (t := t) (show p + 1 ≤ z by omega)
    have this := ih (upd (upd o 7 (nI 10 * v + nI (t p) - nI 48)) 4 (nI (p + 1))) (nI 10 * v + nI (t p) - nI 48) (by exact h0) (by rw [ud_1, if_pos rfl]) (by rfl)
    rw [ud_sw _ (show (4 : Nat) ≠ 7 by omega), ud_ud, ud_ud] at this
    have e : nv t v p (sE isF z t p - p) = nv t (nI 10 * v + nI (t p) - nI 48) (p + 1) (sE isF z t (p + 1) - (p + 1)) := by
      rw [sE_step h1 h2, show sE isF z t (p + 1) - p = (sE isF z t (p + 1) - (p + 1)) + 1 by omega]
      rfl
    rw [e, sE_step h1 h2, r_48_5]
    have o4 : ∀ w : Int32, upd o 7 w 4 = nI p := fun w => by rw [ud_1, if_neg (by omega)]; exact h4
    simp (disch := first | assumption | omega) only [r_48_0, r_48_1, r_48_2, r_48_6, r_48_9, r_48_10, r_48_13, r_48_16, r_48_17, r_48_20, r_48_21, r_48_24, r_48_25, r_48_28, r_48_31, r_48_32, r_48_34, r_48_35, r_48_38, r_48_39, r_48_40, r_48_43, r_48_44, r_48_47, r_48_48, r_48_49, r_48_51, r_48_52, r_48_55, r_48_56, r_48_57, r_48_60, r_48_61, r_48_62, r_48_65, r_48_69, r_48_70, r_48_73, r_48_74, r_48_77, r_48_78, r_48_79, r_48_82, r_48_83, r_48_86, r_48_88, r_48_91, f_add, f_mul, f_sub, o_bal, o_bi, o_cge, o_cgt, o_dup, o_eq, o_get, o_go, o_ivs, o_lda, o_pi, o_put, o_rv, acR_nx, acR_re, acR_ca, acR_no, acR_if, Kc_i, Kc_n, a_lg, a_ls, a_kl, a_pk, a_sw, cw_n, cw_i, cw_l, cw_r, List.length_cons, List.length_nil, List.getElem?_cons_succ, List.getElem?_cons_zero, ↓reduceIte, decide_true, decide_false, Bool.false_eq_true, or_true, true_or, or_false, false_or, or_self, and_true, true_and, not_true_eq_false, not_false_eq_true, Nat.reduceEqDiff, Nat.reduceLT, Nat.reduceLeDiff, Nat.reduceAdd, Nat.reduceSub, Nat.reduceMul, Nat.reduceDiv, Nat.reduceMod, Nat.zero_add, Nat.add_zero, n_z, n_1, n_lt, n_in, n_cl, nI_add p 1, ly_13, ly_14, TS_13, TS_14, TS_w13, h0, h4, h7, o4, h1, t0, b0, c_isF q3, h2]
    exact this
theorem c_takeNumber {z : Nat} {t : Nat → Nat} {σ : a_HP} (ht : tx z t (σ.1 14)) {o R : Nat → Int32} {s : Nat} (h0 : o 0 = nI z) (h4 : o 4 = nI s) (h6 : o 6 = nI s) (hs : s ≤ z) (Q : Option Value → a_HP → Prop) : Cl 48 [.ref 13] (TS σ o R) Q = Q none (TS σ (upd (upd (upd o 7 (nv t (nI 0) s (sE isF z t s - s))) 4 (nI (sE isF z t s))) 5 (nI (if sE isF z t s - s ≤ 2 then 3 else 6))) R) := by
  have scan := c_numF ht R Q s hs (upd o 7 (nI 0)) (nI 0) (by rw [ud_1, if_neg (by omega)]; exact h0) (by rw [ud_1, if_neg (by omega)]; exact h4) (by rw [ud_1, if_pos rfl])
  rw [ud_ud] at scan
  obtain ⟨e1, e2⟩ := sE_ge (P := isF) (t := t) hs
  have hz := ht.1
  generalize sE isF z t s = e at *
  generalize hv : nv t (nI 0) s (e - s) = v at *
  have g4 : upd (upd o 7 v) 4 (nI e) 4 = nI e := by rw [ud_1, if_pos rfl]
  have g6 : upd (upd o 7 v) 4 (nI e) 6 = nI s := by exact h6
  simp (disch := first | assumption | omega) only [cl_48, r_48_0, r_48_1, r_48_2, r_48_6, r_48_9, r_48_10, r_48_13, r_48_16, r_48_17, r_48_20, r_48_21, r_48_24, r_48_25, r_48_28, r_48_31, r_48_32, r_48_34, r_48_35, r_48_38, r_48_39, r_48_40, r_48_43, r_48_44, r_48_47, r_48_48, r_48_49, r_48_51, r_48_52, r_48_55, r_48_56, r_48_57, r_48_60, r_48_61, r_48_62, r_48_65, r_48_68, r_48_69, r_48_70, r_48_73, r_48_74, r_48_77, r_48_78, r_48_79, r_48_82, r_48_83, r_48_86, r_48_88, r_48_91, f_add, f_mul, f_sub, o_bal, o_bi, o_cge, o_cgt, o_dup, o_eq, o_get, o_go, o_ivs, o_lda, o_pi, o_put, o_rv, acR_nx, acR_re, acR_ca, acR_no, acR_if, Kc_i, Kc_n, a_lg, a_ls, a_kl, a_pk, a_sw, cw_n, cw_i, cw_l, cw_r, List.length_cons, List.length_nil, List.getElem?_cons_succ, List.getElem?_cons_zero, ↓reduceIte, decide_true, decide_false, Bool.false_eq_true, or_true, true_or, or_false, false_or, or_self, and_true, true_and, not_true_eq_false, not_false_eq_true, Nat.reduceEqDiff, Nat.reduceLT, Nat.reduceLeDiff, Nat.reduceAdd, Nat.reduceSub, Nat.reduceMul, Nat.reduceDiv, Nat.reduceMod, Nat.zero_add, Nat.add_zero, ly_13, TS_w13, scan]
  by_cases q : e - s ≤ 2
  · have q' : ¬ 2 < e - s := by omega
    simp (disch := first | assumption | omega) only [r_48_0, r_48_1, r_48_2, r_48_6, r_48_9, r_48_10, r_48_13, r_48_16, r_48_17, r_48_20, r_48_21, r_48_24, r_48_25, r_48_28, r_48_31, r_48_32, r_48_34, r_48_35, r_48_38, r_48_39, r_48_40, r_48_43, r_48_44, r_48_47, r_48_48, r_48_49, r_48_51, r_48_52, r_48_55, r_48_56, r_48_57, r_48_60, r_48_61, r_48_62, r_48_65, r_48_68, r_48_69, r_48_70, r_48_73, r_48_74, r_48_77, r_48_78, r_48_79, r_48_82, r_48_83, r_48_86, r_48_88, r_48_91, f_add, f_mul, f_sub, o_bal, o_bi, o_cge, o_cgt, o_dup, o_eq, o_get, o_go, o_ivs, o_lda, o_pi, o_put, o_rv, acR_nx, acR_re, acR_ca, acR_no, acR_if, Kc_i, Kc_n, a_lg, a_ls, a_kl, a_pk, a_sw, cw_n, cw_i, cw_l, cw_r, List.length_cons, List.length_nil, List.getElem?_cons_succ, List.getElem?_cons_zero, ↓reduceIte, decide_true, decide_false, Bool.false_eq_true, or_true, true_or, or_false, false_or, or_self, and_true, true_and, not_true_eq_false, not_false_eq_true, Nat.reduceEqDiff, Nat.reduceLT, Nat.reduceLeDiff, Nat.reduceAdd, Nat.reduceSub, Nat.reduceMul, Nat.reduceDiv, Nat.reduceMod, Nat.zero_add, Nat.add_zero, n_z, n_1, n_ltz, n_zlt, n_lt, n_eq, n_cl, n_in, nI_add, pk_mul, n_div, n_sub, nm_mod, ly_13, TS_13, TS_w13, g4, g6, q, q']
  · have q' : 2 < e - s := by omega
    simp (disch := first | assumption | omega) only [r_48_0, r_48_1, r_48_2, r_48_6, r_48_9, r_48_10, r_48_13, r_48_16, r_48_17, r_48_20, r_48_21, r_48_24, r_48_25, r_48_28, r_48_31, r_48_32, r_48_34, r_48_35, r_48_38, r_48_39, r_48_40, r_48_43, r_48_44, r_48_47, r_48_48, r_48_49, r_48_51, r_48_52, r_48_55, r_48_56, r_48_57, r_48_60, r_48_61, r_48_62, r_48_65, r_48_68, r_48_69, r_48_70, r_48_73, r_48_74, r_48_77, r_48_78, r_48_79, r_48_82, r_48_83, r_48_86, r_48_88, r_48_91, f_add, f_mul, f_sub, o_bal, o_bi, o_cge, o_cgt, o_dup, o_eq, o_get, o_go, o_ivs, o_lda, o_pi, o_put, o_rv, acR_nx, acR_re, acR_ca, acR_no, acR_if, Kc_i, Kc_n, a_lg, a_ls, a_kl, a_pk, a_sw, cw_n, cw_i, cw_l, cw_r, List.length_cons, List.length_nil, List.getElem?_cons_succ, List.getElem?_cons_zero, ↓reduceIte, decide_true, decide_false, Bool.false_eq_true, or_true, true_or, or_false, false_or, or_self, and_true, true_and, not_true_eq_false, not_false_eq_true, Nat.reduceEqDiff, Nat.reduceLT, Nat.reduceLeDiff, Nat.reduceAdd, Nat.reduceSub, Nat.reduceMul, Nat.reduceDiv, Nat.reduceMod, Nat.zero_add, Nat.add_zero, n_z, n_1, n_ltz, n_zlt, n_lt, n_eq, n_cl, n_in, nI_add, pk_mul, n_div, n_sub, nm_mod, ly_13, TS_13, TS_w13, g4, g6, q, q']
theorem nv_ok {z : Nat} {t : Nat → Nat} {s : Nat} (hs : s ≤ z) (h1 : sE isF z t s - s ≤ 2) (h2 : 1 ≤ sE isF z t s - s) : nv t (nI 0) s (sE isF z t s - s) = nI (tVs z t s) := by
  have inn := sE_in (P := isF) (t := t) hs
  have fig : ∀ j, s ≤ j → j < sE isF z t s → 48 ≤ t j := fun j a b => by have := inn j a b; unfold isF at this; simp at this; omega
  unfold tVs
  by_cases q : sE isF z t s - s = 1
  · have f0 := fig s (by omega) (by omega)
    rw [if_pos q, q]
    simp (disch := omega) only [nv, pk_mul, nI_add, n_sub, Nat.mul_zero, Nat.zero_add]
  · have q2 : sE isF z t s - s = 2 := by omega
    have f0 := fig s (by omega) (by omega)
    have f1 := fig (s + 1) (by omega) (by omega)
    rw [if_neg q, q2]
    simp (disch := omega) only [nv, pk_mul, nI_add, n_sub, Nat.mul_zero, Nat.zero_add]
    congr 1
    omega
/-- what takeToken leaves of the object -/
def tOK (z : Nat) (t : Nat → Nat) (p : Nat) (o o' : Nat → Int32) : Prop := o' 0 = o 0 ∧ o' 1 = o 1 ∧ o' 4 = nI (tE z t p) ∧ o' 5 = nI (tKd z t p) ∧ o' 6 = nI (tS z t p) ∧ (tKd z t p = 3 → o' 7 = nI (tV z t p))
theorem c_takeToken {z : Nat} {t : Nat → Nat} {σ : a_HP} (ht : tx z t (σ.1 14)) {o R : Nat → Int32} {p : Nat} (h0 : o 0 = nI z) (h4 : o 4 = nI p) (hp : p ≤ z) (Q : Option Value → a_HP → Prop) (hQ : ∀ o', tOK z t p o o' → Q none (TS σ o' R)) : Cl 45 [.ref 13] (TS σ o R) Q := by
  have scan := sE_ind (P := isP) (z := z) (t := t) (M := fun p => ∀ o : Nat → Int32, o 0 = nI z → o 4 = nI p → Rn 45 0 [some (.ref 13)] [] (TS σ o R) Q = Rn 45 38 [some (.ref 13)] [] (TS σ (upd o 4 (nI (sE isP z t p))) R) Q) (fun p hp h o h0 h4 => by
    have hz := ht.1
    rw [sE_stop h, ud_id o h4, r_45_0]
    by_cases q : p < z
    · obtain ⟨t0, u0⟩ := ht.2 p q
      have b0 : p < 150 := by omega
      have q2 : ¬ t p = 32 := fun w => h ⟨q, by unfold isP; simp [w]⟩
      simp (disch := first | assumption | omega) only [r_45_1, r_45_4, r_45_5, r_45_8, r_45_11, r_45_12, r_45_15, r_45_16, r_45_19, r_45_20, r_45_22, r_45_25, r_45_26, r_45_27, r_45_30, r_45_31, r_45_32, r_45_35, r_45_39, r_45_40, r_45_43, r_45_46, r_45_47, r_45_50, r_45_51, r_45_54, r_45_57, r_45_58, r_45_59, r_45_62, r_45_65, r_45_66, r_45_69, r_45_70, r_45_73, r_45_74, r_45_77, r_45_80, r_45_81, r_45_84, r_45_87, r_45_88, r_45_91, r_45_92, r_45_95, r_45_96, r_45_99, r_45_102, r_45_103, r_45_106, r_45_109, r_45_110, r_45_111, r_45_114, r_45_115, r_45_118, r_45_119, r_45_121, r_45_124, r_45_125, r_45_128, r_45_130, r_45_133, r_45_134, r_45_135, r_45_138, r_45_139, r_45_140, r_45_143, f_add, o_bal, o_bi, o_cge, o_clt, o_cne, o_dup, o_eq, o_get, o_go, o_ivs, o_ivv, o_lda, o_pi, o_put, o_rv, acR_nx, acR_re, acR_ca, acR_no, acR_if, Kc_i, Kc_n, a_lg, a_ls, a_kl, a_pk, a_sw, cw_n, cw_i, cw_l, cw_r, List.length_cons, List.length_nil, List.getElem?_cons_succ, List.getElem?_cons_zero, ↓reduceIte, decide_true, decide_false, Bool.false_eq_true, or_true, true_or, or_false, false_or, or_self, and_true, true_and, not_true_eq_false, not_false_eq_true, Nat.reduceEqDiff, Nat.reduceLT, Nat.reduceLeDiff, Nat.reduceAdd, Nat.reduceSub, Nat.reduceMul, Nat.reduceDiv, Nat.reduceMod, Nat.zero_add, Nat.add_zero, n_z, n_1, n_ltz, n_zlt, n_lt, n_eq, n_cl, n_in, nI_add, pk_mul, n_div, n_sub, nm_mod, ly_13, ly_14, TS_13, TS_14, h0, h4, q, t0, b0, q2]
    · simp (disch := first | assumption | omega) only [r_45_1, r_45_4, r_45_5, r_45_8, r_45_11, r_45_12, r_45_15, r_45_16, r_45_19, r_45_20, r_45_22, r_45_25, r_45_26, r_45_27, r_45_30, r_45_31, r_45_32, r_45_35, r_45_39, r_45_40, r_45_43, r_45_46, r_45_47, r_45_50, r_45_51, r_45_54, r_45_57, r_45_58, r_45_59, r_45_62, r_45_65, r_45_66, r_45_69, r_45_70, r_45_73, r_45_74, r_45_77, r_45_80, r_45_81, r_45_84, r_45_87, r_45_88, r_45_91, r_45_92, r_45_95, r_45_96, r_45_99, r_45_102, r_45_103, r_45_106, r_45_109, r_45_110, r_45_111, r_45_114, r_45_115, r_45_118, r_45_119, r_45_121, r_45_124, r_45_125, r_45_128, r_45_130, r_45_133, r_45_134, r_45_135, r_45_138, r_45_139, r_45_140, r_45_143, f_add, o_bal, o_bi, o_cge, o_clt, o_cne, o_dup, o_eq, o_get, o_go, o_ivs, o_ivv, o_lda, o_pi, o_put, o_rv, o_lda, acR_nx, acR_re, acR_ca, acR_no, acR_if, Kc_i, Kc_n, a_lg, a_ls, a_kl, a_pk, a_sw, cw_n, cw_i, cw_l, cw_r, List.length_cons, List.length_nil, List.getElem?_cons_succ, List.getElem?_cons_zero, ↓reduceIte, decide_true, decide_false, Bool.false_eq_true, or_true, true_or, or_false, false_or, or_self, and_true, true_and, not_true_eq_false, not_false_eq_true, Nat.reduceEqDiff, Nat.reduceLT, Nat.reduceLeDiff, Nat.reduceAdd, Nat.reduceSub, Nat.reduceMul, Nat.reduceDiv, Nat.reduceMod, Nat.zero_add, Nat.add_zero, n_z, n_1, n_ltz, n_zlt, n_lt, n_eq, n_cl, n_in, nI_add, pk_mul, n_div, n_sub, nm_mod, ly_13, ly_14, TS_13, TS_14, h0, h4, q]) (fun p h1 h2 ih o h0 h4 => by
    have hz := ht.1
    rw [sE_step h1 h2, r_45_0]
    obtain ⟨t0, u0⟩ := ht.2 p h1
    have b0 : p < 150 := by omega
    have q3 : t p = 32 := by unfold isP at h2; simpa using h2
    have := ih (upd o 4 (nI (p + 1))) (by rw [ud_1, if_neg (by omega)]; exact h0) (by rw [ud_1, if_pos rfl])
    rw [ud_ud] at this
    simp (disch := first | assumption | omega) only [r_45_1, r_45_4, r_45_5, r_45_8, r_45_11, r_45_12, r_45_15, r_45_16, r_45_19, r_45_20, r_45_22, r_45_25, r_45_26, r_45_27, r_45_30, r_45_31, r_45_32, r_45_35, r_45_39, r_45_40, r_45_43, r_45_46, r_45_47, r_45_50, r_45_51, r_45_54, r_45_57, r_45_58, r_45_59, r_45_62, r_45_65, r_45_66, r_45_69, r_45_70, r_45_73, r_45_74, r_45_77, r_45_80, r_45_81, r_45_84, r_45_87, r_45_88, r_45_91, r_45_92, r_45_95, r_45_96, r_45_99, r_45_102, r_45_103, r_45_106, r_45_109, r_45_110, r_45_111, r_45_114, r_45_115, r_45_118, r_45_119, r_45_121, r_45_124, r_45_125, r_45_128, r_45_130, r_45_133, r_45_134, r_45_135, r_45_138, r_45_139, r_45_140, r_45_143, f_add, o_bal, o_bi, o_cge, o_clt, o_cne, o_dup, o_eq, o_get, o_go, o_ivs, o_ivv, o_lda, o_pi, o_put, o_rv, acR_nx, acR_re, acR_ca, acR_no, acR_if, Kc_i, Kc_n, a_lg, a_ls, a_kl, a_pk, a_sw, cw_n, cw_i, cw_l, cw_r, List.length_cons, List.length_nil, List.getElem?_cons_succ, List.getElem?_cons_zero, ↓reduceIte, decide_true, decide_false, Bool.false_eq_true, or_true, true_or, or_false, false_or, or_self, and_true, true_and, not_true_eq_false, not_false_eq_true, Nat.reduceEqDiff, Nat.reduceLT, Nat.reduceLeDiff, Nat.reduceAdd, Nat.reduceSub, Nat.reduceMul, Nat.reduceDiv, Nat.reduceMod, Nat.zero_add, Nat.add_zero, n_z, n_1, n_ltz, n_zlt, n_lt, n_eq, n_cl, n_in, nI_add, pk_mul, n_div, n_sub, nm_mod, ly_13, ly_14, TS_13, TS_14, TS_w13, h0, h4, h1, t0, b0, q3]
    exact this) _ p rfl hp o h0 h4
  have e2 := (sE_ge (P := isP) (t := t) hp).2
  have hz := ht.1
  simp (disch := first | assumption | omega) only [cl_45, acR_nx, acR_re, acR_ca, acR_no, acR_if, Kc_i, Kc_n, a_lg, a_ls, a_kl, a_pk, a_sw, cw_n, cw_i, cw_l, cw_r, List.length_cons, List.length_nil, List.getElem?_cons_succ, List.getElem?_cons_zero, ↓reduceIte, decide_true, decide_false, Bool.false_eq_true, or_true, true_or, or_false, false_or, or_self, and_true, true_and, not_true_eq_false, not_false_eq_true, Nat.reduceEqDiff, Nat.reduceLT, Nat.reduceLeDiff, Nat.reduceAdd, Nat.reduceSub, Nat.reduceMul, Nat.reduceDiv, Nat.reduceMod, Nat.zero_add, Nat.add_zero]
  rw [scan]
  have eS : tS z t p = sE isP z t p := rfl
  unfold tOK tE tKd tV at hQ
  rw [eS] at hQ
  generalize sE isP z t p = s at *
  have g0 : upd (upd o 4 (nI s)) 6 (nI s) 0 = nI z := by exact h0
  have g1 : upd (upd o 4 (nI s)) 6 (nI s) 1 = o 1 := by rfl
  have g4 : upd (upd o 4 (nI s)) 6 (nI s) 4 = nI s := by rfl
  have g6 : upd (upd o 4 (nI s)) 6 (nI s) 6 = nI s := by rfl
  have k4 : upd o 4 (nI s) 4 = nI s := by rfl
  rw [h0] at hQ
  simp (disch := first | assumption | omega) only [r_45_1, r_45_4, r_45_5, r_45_8, r_45_11, r_45_12, r_45_15, r_45_16, r_45_19, r_45_20, r_45_22, r_45_25, r_45_26, r_45_27, r_45_30, r_45_31, r_45_32, r_45_35, r_45_38, r_45_39, r_45_40, r_45_43, r_45_47, r_45_50, r_45_51, r_45_54, r_45_57, r_45_58, r_45_59, r_45_62, r_45_65, r_45_66, r_45_69, r_45_70, r_45_73, r_45_74, r_45_77, r_45_80, r_45_81, r_45_84, r_45_87, r_45_88, r_45_91, r_45_92, r_45_95, r_45_96, r_45_99, r_45_102, r_45_103, r_45_106, r_45_109, r_45_110, r_45_111, r_45_114, r_45_115, r_45_118, r_45_119, r_45_121, r_45_124, r_45_125, r_45_128, r_45_130, r_45_133, r_45_134, r_45_135, r_45_138, r_45_139, r_45_140, r_45_143, f_add, o_bal, o_bi, o_cge, o_clt, o_cne, o_dup, o_eq, o_get, o_go, o_ivs, o_ivv, o_lda, o_pi, o_put, o_rv, acR_nx, acR_re, acR_ca, acR_no, acR_if, Kc_i, Kc_n, a_lg, a_ls, a_kl, a_pk, a_sw, cw_n, cw_i, cw_l, cw_r, List.length_cons, List.length_nil, List.getElem?_cons_succ, List.getElem?_cons_zero, ↓reduceIte, decide_true, decide_false, Bool.false_eq_true, or_true, true_or, or_false, false_or, or_self, and_true, true_and, not_true_eq_false, not_false_eq_true, Nat.reduceEqDiff, Nat.reduceLT, Nat.reduceLeDiff, Nat.reduceAdd, Nat.reduceSub, Nat.reduceMul, Nat.reduceDiv, Nat.reduceMod, Nat.zero_add, Nat.add_zero, ly_13, TS_13, TS_w13, k4]
  generalize upd (upd o 4 (nI s)) 6 (nI s) = o1 at *
  unfold tEs tKs at hQ
  by_cases q : s < z
  · obtain ⟨t0, u0⟩ := ht.2 s q
    have b0 : s < 150 := by omega
    have q3 : t s < 2147483648 := by omega
    simp only [q, not_true_eq_false, if_false] at hQ
    by_cases q1 : isL (t s) = true
    · simp only [q1, if_true] at hQ
      simp (disch := first | assumption | omega) only [r_45_1, r_45_4, r_45_5, r_45_8, r_45_11, r_45_12, r_45_15, r_45_16, r_45_19, r_45_20, r_45_22, r_45_25, r_45_26, r_45_27, r_45_30, r_45_31, r_45_32, r_45_35, r_45_38, r_45_39, r_45_40, r_45_43, r_45_46, r_45_47, r_45_50, r_45_51, r_45_54, r_45_57, r_45_58, r_45_59, r_45_62, r_45_65, r_45_66, r_45_69, r_45_70, r_45_73, r_45_74, r_45_77, r_45_80, r_45_81, r_45_84, r_45_87, r_45_88, r_45_91, r_45_92, r_45_95, r_45_96, r_45_99, r_45_102, r_45_103, r_45_106, r_45_109, r_45_110, r_45_111, r_45_114, r_45_115, r_45_118, r_45_119, r_45_121, r_45_124, r_45_125, r_45_128, r_45_130, r_45_133, r_45_134, r_45_135, r_45_138, r_45_139, r_45_140, r_45_143, f_add, o_bal, o_bi, o_cge, o_clt, o_cne, o_dup, o_eq, o_get, o_go, o_ivs, o_ivv, o_lda, o_pi, o_put, o_rv, acR_nx, acR_re, acR_ca, acR_no, acR_if, Kc_i, Kc_n, a_lg, a_ls, a_kl, a_pk, a_sw, cw_n, cw_i, cw_l, cw_r, List.length_cons, List.length_nil, List.getElem?_cons_succ, List.getElem?_cons_zero, ↓reduceIte, decide_true, decide_false, Bool.false_eq_true, or_true, true_or, or_false, false_or, or_self, and_true, true_and, not_true_eq_false, not_false_eq_true, Nat.reduceEqDiff, Nat.reduceLT, Nat.reduceLeDiff, Nat.reduceAdd, Nat.reduceSub, Nat.reduceMul, Nat.reduceDiv, Nat.reduceMod, Nat.zero_add, Nat.add_zero, n_z, n_1, n_ltz, n_zlt, n_lt, n_eq, n_cl, n_in, nI_add, pk_mul, n_div, n_sub, nm_mod, ly_13, ly_14, TS_13, TS_14, g0, g4, q, t0, b0, c_isL q3, q1, c_takeWord ht g0 g4 g6 e2]
      refine hQ _ ⟨?_, ?_, ?_, ?_, ?_, fun w => ?_⟩
      · exact g0
      · exact g1
      · rfl
      · rfl
      · exact g6
      · exfalso
        unfold wk at w
        repeat' split at w
        all_goals omega
    · simp only [q1, Bool.false_eq_true, if_false] at hQ
      by_cases q2 : isF (t s) = true
      · simp only [q2, if_true] at hQ
        simp (disch := first | assumption | omega) only [r_45_1, r_45_4, r_45_5, r_45_8, r_45_11, r_45_12, r_45_15, r_45_16, r_45_19, r_45_20, r_45_22, r_45_25, r_45_26, r_45_27, r_45_30, r_45_31, r_45_32, r_45_35, r_45_38, r_45_39, r_45_40, r_45_43, r_45_46, r_45_47, r_45_50, r_45_51, r_45_54, r_45_57, r_45_58, r_45_59, r_45_62, r_45_65, r_45_66, r_45_69, r_45_70, r_45_73, r_45_74, r_45_77, r_45_80, r_45_81, r_45_84, r_45_87, r_45_88, r_45_91, r_45_92, r_45_95, r_45_96, r_45_99, r_45_102, r_45_103, r_45_106, r_45_109, r_45_110, r_45_111, r_45_114, r_45_115, r_45_118, r_45_119, r_45_121, r_45_124, r_45_125, r_45_128, r_45_130, r_45_133, r_45_134, r_45_135, r_45_138, r_45_139, r_45_140, r_45_143, f_add, o_bal, o_bi, o_cge, o_clt, o_cne, o_dup, o_eq, o_get, o_go, o_ivs, o_ivv, o_lda, o_pi, o_put, o_rv, acR_nx, acR_re, acR_ca, acR_no, acR_if, Kc_i, Kc_n, a_lg, a_ls, a_kl, a_pk, a_sw, cw_n, cw_i, cw_l, cw_r, List.length_cons, List.length_nil, List.getElem?_cons_succ, List.getElem?_cons_zero, ↓reduceIte, decide_true, decide_false, Bool.false_eq_true, or_true, true_or, or_false, false_or, or_self, and_true, true_and, not_true_eq_false, not_false_eq_true, Nat.reduceEqDiff, Nat.reduceLT, Nat.reduceLeDiff, Nat.reduceAdd, Nat.reduceSub, Nat.reduceMul, Nat.reduceDiv, Nat.reduceMod, Nat.zero_add, Nat.add_zero, n_z, n_1, n_ltz, n_zlt, n_lt, n_eq, n_cl, n_in, nI_add, pk_mul, n_div, n_sub, nm_mod, ly_13, ly_14, TS_13, TS_14, g0, g4, q, t0, b0, c_isL q3, q1, c_isF q3, q2, c_takeNumber ht g0 g4 g6 e2]
        refine hQ _ ⟨?_, ?_, ?_, ?_, ?_, fun w => ?_⟩
        · exact g0
        · exact g1
        · rfl
        · rfl
        · exact g6
        · refine nv_ok e2 ?_ ?_
          · by_cases w2 : sE isF z t s - s ≤ 2
            · exact w2
            · rw [if_neg w2] at w; omega
          · have := sE_ge (P := isF) (t := t) (show s + 1 ≤ z by omega)
            rw [sE_step q q2]; omega
      · simp only [q2, Bool.false_eq_true, if_false] at hQ
        by_cases q5 : t s = 59
        · simp only [q5, if_true] at hQ
          have l59 : 59 < 2147483648 := by omega
          have i59 : isL 59 = false := by decide
          have f59 : isF 59 = false := by decide
          simp (disch := first | assumption | omega) only [r_45_1, r_45_4, r_45_5, r_45_8, r_45_11, r_45_12, r_45_15, r_45_16, r_45_19, r_45_20, r_45_22, r_45_25, r_45_26, r_45_27, r_45_30, r_45_31, r_45_32, r_45_35, r_45_38, r_45_39, r_45_40, r_45_43, r_45_46, r_45_47, r_45_50, r_45_51, r_45_54, r_45_57, r_45_58, r_45_59, r_45_62, r_45_65, r_45_66, r_45_69, r_45_70, r_45_73, r_45_74, r_45_77, r_45_80, r_45_81, r_45_84, r_45_87, r_45_88, r_45_91, r_45_92, r_45_95, r_45_96, r_45_99, r_45_102, r_45_103, r_45_106, r_45_109, r_45_110, r_45_111, r_45_114, r_45_115, r_45_118, r_45_119, r_45_121, r_45_124, r_45_125, r_45_128, r_45_130, r_45_133, r_45_134, r_45_135, r_45_138, r_45_139, r_45_140, r_45_143, f_add, o_bal, o_bi, o_cge, o_clt, o_cne, o_dup, o_eq, o_get, o_go, o_ivs, o_ivv, o_lda, o_pi, o_put, o_rv, acR_nx, acR_re, acR_ca, acR_no, acR_if, Kc_i, Kc_n, a_lg, a_ls, a_kl, a_pk, a_sw, cw_n, cw_i, cw_l, cw_r, List.length_cons, List.length_nil, List.getElem?_cons_succ, List.getElem?_cons_zero, ↓reduceIte, decide_true, decide_false, Bool.false_eq_true, or_true, true_or, or_false, false_or, or_self, and_true, true_and, not_true_eq_false, not_false_eq_true, Nat.reduceEqDiff, Nat.reduceLT, Nat.reduceLeDiff, Nat.reduceAdd, Nat.reduceSub, Nat.reduceMul, Nat.reduceDiv, Nat.reduceMod, Nat.zero_add, Nat.add_zero, n_z, n_1, n_ltz, n_zlt, n_lt, n_eq, n_cl, n_in, nI_add, pk_mul, n_div, n_sub, nm_mod, ly_13, ly_14, TS_13, TS_14, TS_w13, ud_1, g0, g4, q, t0, b0, c_isL l59, i59, c_isF l59, f59, q5]
          refine hQ _ ⟨?_, ?_, ?_, ?_, ?_, fun w => by omega⟩
          · exact g0
          · exact g1
          · rfl
          · rfl
          · exact g6
        · simp only [q5, if_false] at hQ
          simp (disch := first | assumption | omega) only [r_45_1, r_45_4, r_45_5, r_45_8, r_45_11, r_45_12, r_45_15, r_45_16, r_45_19, r_45_20, r_45_22, r_45_25, r_45_26, r_45_27, r_45_30, r_45_31, r_45_32, r_45_35, r_45_38, r_45_39, r_45_40, r_45_43, r_45_46, r_45_47, r_45_50, r_45_51, r_45_54, r_45_57, r_45_58, r_45_59, r_45_62, r_45_65, r_45_66, r_45_69, r_45_70, r_45_73, r_45_74, r_45_77, r_45_80, r_45_81, r_45_84, r_45_87, r_45_88, r_45_91, r_45_92, r_45_95, r_45_96, r_45_99, r_45_102, r_45_103, r_45_106, r_45_109, r_45_110, r_45_111, r_45_114, r_45_115, r_45_118, r_45_119, r_45_121, r_45_124, r_45_125, r_45_128, r_45_130, r_45_133, r_45_134, r_45_135, r_45_138, r_45_139, r_45_140, r_45_143, f_add, o_bal, o_bi, o_cge, o_clt, o_cne, o_dup, o_eq, o_get, o_go, o_ivs, o_ivv, o_lda, o_pi, o_put, o_rv, acR_nx, acR_re, acR_ca, acR_no, acR_if, Kc_i, Kc_n, a_lg, a_ls, a_kl, a_pk, a_sw, cw_n, cw_i, cw_l, cw_r, List.length_cons, List.length_nil, List.getElem?_cons_succ, List.getElem?_cons_zero, ↓reduceIte, decide_true, decide_false, Bool.false_eq_true, or_true, true_or, or_false, false_or, or_self, and_true, true_and, not_true_eq_false, not_false_eq_true, Nat.reduceEqDiff, Nat.reduceLT, Nat.reduceLeDiff, Nat.reduceAdd, Nat.reduceSub, Nat.reduceMul, Nat.reduceDiv, Nat.reduceMod, Nat.zero_add, Nat.add_zero, n_z, n_1, n_ltz, n_zlt, n_lt, n_eq, n_cl, n_in, nI_add, pk_mul, n_div, n_sub, nm_mod, ly_13, ly_14, TS_13, TS_14, TS_w13, ud_1, g0, g4, q, t0, b0, c_isL q3, q1, c_isF q3, q2, q5]
          refine hQ _ ⟨?_, ?_, ?_, ?_, ?_, fun w => by omega⟩
          · exact g0
          · exact g1
          · rfl
          · rfl
          · exact g6
  · simp only [q, not_false_eq_true, if_true] at hQ
    simp (disch := first | assumption | omega) only [r_45_1, r_45_4, r_45_5, r_45_8, r_45_11, r_45_12, r_45_15, r_45_16, r_45_19, r_45_20, r_45_22, r_45_25, r_45_26, r_45_27, r_45_30, r_45_31, r_45_32, r_45_35, r_45_38, r_45_39, r_45_40, r_45_43, r_45_46, r_45_47, r_45_50, r_45_51, r_45_54, r_45_57, r_45_58, r_45_59, r_45_62, r_45_65, r_45_66, r_45_69, r_45_70, r_45_73, r_45_74, r_45_77, r_45_80, r_45_81, r_45_84, r_45_87, r_45_88, r_45_91, r_45_92, r_45_95, r_45_96, r_45_99, r_45_102, r_45_103, r_45_106, r_45_109, r_45_110, r_45_111, r_45_114, r_45_115, r_45_118, r_45_119, r_45_121, r_45_124, r_45_125, r_45_128, r_45_130, r_45_133, r_45_134, r_45_135, r_45_138, r_45_139, r_45_140, r_45_143, f_add, o_bal, o_bi, o_cge, o_clt, o_cne, o_dup, o_eq, o_get, o_go, o_ivs, o_ivv, o_lda, o_pi, o_put, o_rv, acR_nx, acR_re, acR_ca, acR_no, acR_if, Kc_i, Kc_n, a_lg, a_ls, a_kl, a_pk, a_sw, cw_n, cw_i, cw_l, cw_r, List.length_cons, List.length_nil, List.getElem?_cons_succ, List.getElem?_cons_zero, ↓reduceIte, decide_true, decide_false, Bool.false_eq_true, or_true, true_or, or_false, false_or, or_self, and_true, true_and, not_true_eq_false, not_false_eq_true, Nat.reduceEqDiff, Nat.reduceLT, Nat.reduceLeDiff, Nat.reduceAdd, Nat.reduceSub, Nat.reduceMul, Nat.reduceDiv, Nat.reduceMod, Nat.zero_add, Nat.add_zero, n_z, n_1, n_ltz, n_zlt, n_lt, n_eq, n_cl, n_in, nI_add, pk_mul, n_div, n_sub, nm_mod, ly_13, ly_14, TS_13, TS_14, TS_w13, g0, g4, q]
    refine hQ _ ⟨?_, ?_, ?_, ?_, ?_, fun w => by omega⟩
    · exact g0
    · exact g1
    · exact g4
    · rfl
    · exact g6
