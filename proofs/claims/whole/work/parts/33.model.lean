/-! the reference: its small methods -/
theorem lc_lt (x y : Int64) : (lg_cmp x y < 0) = (x < y) := by
  apply propext
  unfold lg_cmp
  by_cases h1 : x > y
  · rw [if_pos h1]
    have : ¬ x < y := fun h => absurd (Int64.lt_iff_toInt_lt.mp h) (by have := Int64.lt_iff_toInt_lt.mp h1; omega)
    simp only [this, iff_false]
    decide
  · rw [if_neg h1]
    by_cases h2 : x = y
    · rw [if_pos h2]
      subst h2
      have : ¬ x < x := fun h => absurd (Int64.lt_iff_toInt_lt.mp h) (by omega)
      simp only [this, iff_false]
      decide
    · rw [if_neg h2]
      have : x < y := Int64.lt_iff_toInt_lt.mpr (by
        have h3 : ¬ y.toInt < x.toInt := fun h => h1 (Int64.lt_iff_toInt_lt.mpr h)
        have h4 : ¬ x.toInt = y.toInt := fun h => h2 (Int64.toInt_inj.mp h)
        omega)
      simp only [this, iff_true]
      decide
theorem lc_gt (x y : Int64) : (0 < lg_cmp x y) = (y < x) := by
  apply propext
  unfold lg_cmp
  by_cases h1 : x > y
  · rw [if_pos h1]
    simp only [show y < x from h1, iff_true]
    decide
  · rw [if_neg h1]
    simp only [show ¬ y < x from h1, iff_false]
    by_cases h2 : x = y
    · rw [if_pos h2]; decide
    · rw [if_neg h2]; decide
theorem lc_eq (x y : Int64) : (lg_cmp x y = 0) = (x = y) := by
  apply propext
  unfold lg_cmp
  by_cases h1 : x > y
  · rw [if_pos h1]
    have : ¬ x = y := by
      intro h
      subst h
      exact absurd (Int64.lt_iff_toInt_lt.mp h1) (by omega)
    simp only [this, iff_false]
    decide
  · rw [if_neg h1]
    by_cases h2 : x = y
    · rw [if_pos h2]; simp [h2]
    · rw [if_neg h2]; simp only [h2, iff_false]; decide
theorem l_lt {x : Int32} {k : Nat} (h : k < 2147483648) : (x.toInt64 < lN k) = (x < nI k) := by
  apply propext
  rw [← nI_l (by omega), Int64.lt_iff_toInt_lt, Int32.toInt_toInt64, Int32.toInt_toInt64, Int32.lt_iff_toInt_lt]
theorem l_gt {x : Int32} {k : Nat} (h : k < 2147483648) : (lN k < x.toInt64) = (nI k < x) := by
  apply propext
  rw [← nI_l (by omega), Int64.lt_iff_toInt_lt, Int32.toInt_toInt64, Int32.toInt_toInt64, Int32.lt_iff_toInt_lt]
theorem l_ltm {x : Int32} : (x.toInt64 < -1) = (x < -1) := by
  apply propext
  rw [Int64.lt_iff_toInt_lt, Int32.toInt_toInt64, Int32.lt_iff_toInt_lt]
  exact Iff.rfl
theorem m_in (v lo hi : Int64) (σ : a_HP) (Q : Option Value → a_HP → Prop) : Cl 122 [.long v, .long lo, .long hi] σ Q = if v < lo ∨ hi < v then Q (some (.int (nI 0))) σ else Q (some (.int (nI 1))) σ := by
  simp (disch := omega) only [cl_122, r_122_0, r_122_1, r_122_2, r_122_3, r_122_6, r_122_7, r_122_9, r_122_10, r_122_13, r_122_14, r_122_17, r_122_18, o_go, o_gt, o_lcmp, o_ldl, o_lt, o_pi, o_rz, acR_nx, acR_re, acR_ca, acR_no, acR_if, Kc_i, Kc_n, a_lg, a_ls, a_kl, a_pk, a_sw, cw_n, cw_i, cw_l, cw_r, List.length_cons, List.length_nil, List.getElem?_cons_succ, List.getElem?_cons_zero, ↓reduceIte, decide_true, decide_false, Bool.false_eq_true, or_true, true_or, or_false, false_or, or_self, and_true, true_and, not_true_eq_false, not_false_eq_true, Nat.reduceEqDiff, Nat.reduceLT, Nat.reduceLeDiff, Nat.reduceAdd, Nat.reduceSub, Nat.reduceMul, Nat.reduceDiv, Nat.reduceMod, Nat.zero_add, Nat.add_zero, n_z, n_1, n_ltz, n_zlt, n_lt, n_eq, n_cl, n_in, nI_add, pk_mul, n_div, n_sub, nm_mod, lc_lt, lc_gt, lc_eq]
  by_cases h1 : v < lo
  · simp [h1]
  · by_cases h2 : hi < v
    · simp [h1, h2]
    · simp [h1, h2]
theorem m_isKnot (k : Int32) (σ : a_HP) (Q : Option Value → a_HP → Prop) : Cl 141 [.int k] σ Q = if k < nI 0 ∨ nI 15 < k then Q (some (.int (nI 0))) σ else Q (some (.int (nI 1))) σ := by
  simp (disch := omega) only [cl_141, r_141_0, r_141_1, r_141_2, r_141_3, r_141_6, r_141_9, o_i2l, o_ivs, o_ldi, o_pl, o_rz, m_in, l_lt, l_gt, acR_nx, acR_re, acR_ca, acR_no, acR_if, Kc_i, Kc_n, a_lg, a_ls, a_kl, a_pk, a_sw, cw_n, cw_i, cw_l, cw_r, List.length_cons, List.length_nil, List.getElem?_cons_succ, List.getElem?_cons_zero, ↓reduceIte, decide_true, decide_false, Bool.false_eq_true, or_true, true_or, or_false, false_or, or_self, and_true, true_and, not_true_eq_false, not_false_eq_true, Nat.reduceEqDiff, Nat.reduceLT, Nat.reduceLeDiff, Nat.reduceAdd, Nat.reduceSub, Nat.reduceMul, Nat.reduceDiv, Nat.reduceMod, Nat.zero_add, Nat.add_zero, n_z, n_1, n_ltz, n_zlt, n_lt, n_eq, n_cl, n_in, nI_add, pk_mul, n_div, n_sub, nm_mod]
theorem m_isClause (k : Int32) (σ : a_HP) (Q : Option Value → a_HP → Prop) : Cl 142 [.int k] σ Q = if k < nI 0 ∨ nI 8 < k then Q (some (.int (nI 0))) σ else Q (some (.int (nI 1))) σ := by
  simp (disch := omega) only [cl_142, r_142_0, r_142_1, r_142_2, r_142_3, r_142_6, r_142_9, o_i2l, o_ivs, o_ldi, o_pl, o_rz, m_in, l_lt, l_gt, acR_nx, acR_re, acR_ca, acR_no, acR_if, Kc_i, Kc_n, a_lg, a_ls, a_kl, a_pk, a_sw, cw_n, cw_i, cw_l, cw_r, List.length_cons, List.length_nil, List.getElem?_cons_succ, List.getElem?_cons_zero, ↓reduceIte, decide_true, decide_false, Bool.false_eq_true, or_true, true_or, or_false, false_or, or_self, and_true, true_and, not_true_eq_false, not_false_eq_true, Nat.reduceEqDiff, Nat.reduceLT, Nat.reduceLeDiff, Nat.reduceAdd, Nat.reduceSub, Nat.reduceMul, Nat.reduceDiv, Nat.reduceMod, Nat.zero_add, Nat.add_zero, n_z, n_1, n_ltz, n_zlt, n_lt, n_eq, n_cl, n_in, nI_add, pk_mul, n_div, n_sub, nm_mod]
theorem m_isTwo (k : Int32) (σ : a_HP) (Q : Option Value → a_HP → Prop) : Cl 143 [.int k] σ Q = if k < nI 0 ∨ nI 1 < k then Q (some (.int (nI 0))) σ else Q (some (.int (nI 1))) σ := by
  simp (disch := omega) only [cl_143, r_143_0, r_143_1, r_143_2, r_143_3, r_143_4, r_143_7, o_i2l, o_ivs, o_ldi, o_pl, o_rz, m_in, l_lt, l_gt, acR_nx, acR_re, acR_ca, acR_no, acR_if, Kc_i, Kc_n, a_lg, a_ls, a_kl, a_pk, a_sw, cw_n, cw_i, cw_l, cw_r, List.length_cons, List.length_nil, List.getElem?_cons_succ, List.getElem?_cons_zero, ↓reduceIte, decide_true, decide_false, Bool.false_eq_true, or_true, true_or, or_false, false_or, or_self, and_true, true_and, not_true_eq_false, not_false_eq_true, Nat.reduceEqDiff, Nat.reduceLT, Nat.reduceLeDiff, Nat.reduceAdd, Nat.reduceSub, Nat.reduceMul, Nat.reduceDiv, Nat.reduceMod, Nat.zero_add, Nat.add_zero, n_z, n_1, n_ltz, n_zlt, n_lt, n_eq, n_cl, n_in, nI_add, pk_mul, n_div, n_sub, nm_mod]
theorem m_mayTie (k d s v : Int32) (σ : a_HP) (Q : Option Value → a_HP → Prop) : Cl 151 [.int k, .int d, .int s, .int v] σ Q = if (k < nI 0 ∨ nI 15 < k) ∨ (d < nI 0 ∨ nI 5 < d) ∨ (s < nI 1 ∨ nI 9 < s) ∨ (v < nI 0 ∨ nI 2 < v) then Q (some (.int (nI 0))) σ else Q (some (.int (nI 1))) σ := by
  simp (disch := omega) only [cl_151, r_151_0, r_151_1, r_151_4, r_151_7, r_151_8, r_151_9, r_151_10, r_151_13, r_151_16, r_151_19, r_151_20, r_151_21, r_151_22, r_151_25, r_151_28, r_151_31, r_151_32, r_151_33, r_151_34, r_151_37, r_151_40, r_151_43, r_151_44, r_151_47, r_151_48, o_eq, o_go, o_i2l, o_ivs, o_ldi, o_pi, o_pl, o_rz, m_in, m_isKnot, l_lt, l_gt, acR_nx, acR_re, acR_ca, acR_no, acR_if, Kc_i, Kc_n, a_lg, a_ls, a_kl, a_pk, a_sw, cw_n, cw_i, cw_l, cw_r, List.length_cons, List.length_nil, List.getElem?_cons_succ, List.getElem?_cons_zero, ↓reduceIte, decide_true, decide_false, Bool.false_eq_true, or_true, true_or, or_false, false_or, or_self, and_true, true_and, not_true_eq_false, not_false_eq_true, Nat.reduceEqDiff, Nat.reduceLT, Nat.reduceLeDiff, Nat.reduceAdd, Nat.reduceSub, Nat.reduceMul, Nat.reduceDiv, Nat.reduceMod, Nat.zero_add, Nat.add_zero, n_z, n_1, n_ltz, n_zlt, n_lt, n_eq, n_cl, n_in, nI_add, pk_mul, n_div, n_sub, nm_mod]
  by_cases h1 : k < nI 0 ∨ nI 15 < k <;> by_cases h2 : d < nI 0 ∨ nI 5 < d <;> by_cases h3 : s < nI 1 ∨ nI 9 < s <;> by_cases h4 : v < nI 0 ∨ nI 2 < v <;> simp only [h1, h2, h3, h4, acR_nx, acR_re, acR_ca, acR_no, acR_if, Kc_i, Kc_n, a_lg, a_ls, a_kl, a_pk, a_sw, cw_n, cw_i, cw_l, cw_r, List.length_cons, List.length_nil, List.getElem?_cons_succ, List.getElem?_cons_zero, ↓reduceIte, decide_true, decide_false, Bool.false_eq_true, or_true, true_or, or_false, false_or, or_self, and_true, true_and, not_true_eq_false, not_false_eq_true, Nat.reduceEqDiff, Nat.reduceLT, Nat.reduceLeDiff, Nat.reduceAdd, Nat.reduceSub, Nat.reduceMul, Nat.reduceDiv, Nat.reduceMod, Nat.zero_add, Nat.add_zero]
/-- what a knot holds, as the reference reckons -/
def mK (kind s rain right : Int32) : Int32 := if s = 0 then nI 0 else if kind = nI 0 then s - rain else if kind = nI 1 then s else if kind = nI 2 then nI 2 * (s - rain) else if kind = nI 3 then (s + nI 1) / nI 2 else if kind = nI 4 then nI 2 * (s - rain) + nI 3 - nI 3 * rain else (s - rain) + right / nI 2
theorem m_holding (kind s rain right : Int32) (σ : a_HP) (Q : Option Value → a_HP → Prop) : Cl 133 [.int kind, .int s, .int rain, .int right] σ Q = Q (some (.int (mK kind s rain right))) σ := by
  simp (disch := omega) only [cl_133, r_133_0, r_133_1, r_133_4, r_133_5, r_133_6, r_133_7, r_133_8, r_133_9, r_133_11, r_133_12, r_133_48, r_133_50, r_133_51, r_133_52, r_133_53, r_133_54, r_133_56, r_133_57, r_133_58, r_133_59, r_133_60, r_133_61, r_133_62, r_133_63, r_133_64, r_133_65, r_133_67, r_133_68, r_133_69, r_133_70, r_133_71, r_133_72, r_133_73, r_133_74, r_133_75, r_133_77, r_133_78, r_133_79, r_133_80, r_133_81, f_add, f_div, f_mul, f_sub, o_bd, o_bi, o_ldi, o_ne, o_pi, o_ri, o_sti, o_sw, acR_nx, acR_re, acR_ca, acR_no, acR_if, Kc_i, Kc_n, a_lg, a_ls, a_kl, a_pk, a_sw, cw_n, cw_i, cw_l, cw_r, List.length_cons, List.length_nil, List.getElem?_cons_succ, List.getElem?_cons_zero, ↓reduceIte, decide_true, decide_false, Bool.false_eq_true, or_true, true_or, or_false, false_or, or_self, and_true, true_and, not_true_eq_false, not_false_eq_true, Nat.reduceEqDiff, Nat.reduceLT, Nat.reduceLeDiff, Nat.reduceAdd, Nat.reduceSub, Nat.reduceMul, Nat.reduceDiv, Nat.reduceMod, Nat.zero_add, Nat.add_zero, n_z, n_1, n_ltz, n_zlt, n_lt, n_eq, n_cl, n_in, nI_add, pk_mul, n_div, n_sub, nm_mod]
  simp only [mK, q_if]
theorem mK_kH {kind s rain right : Int32} (hd : ∃ d : Nat, d ≤ 5 ∧ kind = nI d) (hs : ∃ d : Nat, d ≤ 9 ∧ s = nI d) (hr : rain = nI 0 ∨ rain = nI 1) (ht : ∃ d : Nat, d ≤ 9 ∧ right = nI d) : mK kind s rain right = kH kind s rain right := by
  obtain ⟨d, hd, rfl⟩ := hd
  obtain ⟨e, he, rfl⟩ := hs
  obtain ⟨t, ht, rfl⟩ := ht
  have key : ∀ d : Fin 6, ∀ e : Fin 10, ∀ r : Fin 2, ∀ t : Fin 10, mK (nI d.val) (nI e.val) (nI r.val) (nI t.val) = kH (nI d.val) (nI e.val) (nI r.val) (nI t.val) := by decide +kernel
  rcases hr with rfl | rfl
  · exact key ⟨d, by omega⟩ ⟨e, by omega⟩ 0 ⟨t, by omega⟩
  · exact key ⟨d, by omega⟩ ⟨e, by omega⟩ 1 ⟨t, by omega⟩
/-- a net's numbers are as told: kinds, strengths, rain -/
def vKn (rain : Int32) (kd st : Nat → Int32) : Prop := (rain = nI 0 ∨ rain = nI 1) ∧ ∀ k, k < 16 → (∃ d : Nat, d ≤ 5 ∧ kd k = nI d) ∧ ∃ d : Nat, d ≤ 9 ∧ st k = nI d
theorem kRt_ok {rain : Int32} {kd st : Nat → Int32} (h : vKn rain kd st) {k : Nat} (hk : k < 16) : ∃ d : Nat, d ≤ 9 ∧ kRt st k = nI d := by
  unfold kRt
  by_cases h3 : k % 4 < 3
  · rw [if_pos h3]
    exact (h.2 (k + 1) (by omega)).2
  · rw [if_neg h3]
    exact ⟨0, by omega, rfl⟩
/-- a row of the reference's nets -/
def aT (a : Nat) : Prop := a_lay a = some (.inl (0, 481))
theorem m_rightOf {a : Nat} (ha : aT a) {k : Nat} (hk : k < 16) (σ : a_HP) (Q : Option Value → a_HP → Prop) : Cl 132 [.ref a, .int (nI k)] σ Q = Q (some (.int (kRt (fun j => σ.1 a (20 + j)) k))) σ := by
  unfold aT at ha
  unfold kRt
  by_cases h : k % 4 < 3
  · have h3 : ¬ k % 4 = 3 := by omega
    have e : 20 + (k + 1) < 481 := by omega
    simp (disch := omega) only [cl_132, r_132_0, r_132_1, r_132_2, r_132_3, r_132_4, r_132_7, r_132_8, r_132_11, r_132_12, r_132_14, r_132_15, r_132_16, r_132_17, r_132_18, r_132_19, f_add, f_rem, o_bd, o_bi, o_cne, o_go, o_ial, o_lda, o_ldi, o_pi, o_ri, acR_nx, acR_re, acR_ca, acR_no, acR_if, Kc_i, Kc_n, a_lg, a_ls, a_kl, a_pk, a_sw, cw_n, cw_i, cw_l, cw_r, List.length_cons, List.length_nil, List.getElem?_cons_succ, List.getElem?_cons_zero, ↓reduceIte, decide_true, decide_false, Bool.false_eq_true, or_true, true_or, or_false, false_or, or_self, and_true, true_and, not_true_eq_false, not_false_eq_true, Nat.reduceEqDiff, Nat.reduceLT, Nat.reduceLeDiff, Nat.reduceAdd, Nat.reduceSub, Nat.reduceMul, Nat.reduceDiv, Nat.reduceMod, Nat.zero_add, Nat.add_zero, n_z, n_1, n_ltz, n_zlt, n_lt, n_eq, n_cl, n_in, nI_add, pk_mul, n_div, n_sub, nm_mod, ha, h, h3, e, Nat.add_assoc]
  · have h3 : k % 4 = 3 := by omega
    simp (disch := omega) only [cl_132, r_132_0, r_132_1, r_132_2, r_132_3, r_132_4, r_132_7, r_132_8, r_132_11, r_132_12, r_132_14, r_132_15, r_132_16, r_132_17, r_132_18, r_132_19, f_add, f_rem, o_bd, o_bi, o_cne, o_go, o_ial, o_lda, o_ldi, o_pi, o_ri, acR_nx, acR_re, acR_ca, acR_no, acR_if, Kc_i, Kc_n, a_lg, a_ls, a_kl, a_pk, a_sw, cw_n, cw_i, cw_l, cw_r, List.length_cons, List.length_nil, List.getElem?_cons_succ, List.getElem?_cons_zero, ↓reduceIte, decide_true, decide_false, Bool.false_eq_true, or_true, true_or, or_false, false_or, or_self, and_true, true_and, not_true_eq_false, not_false_eq_true, Nat.reduceEqDiff, Nat.reduceLT, Nat.reduceLeDiff, Nat.reduceAdd, Nat.reduceSub, Nat.reduceMul, Nat.reduceDiv, Nat.reduceMod, Nat.zero_add, Nat.add_zero, n_z, n_1, n_ltz, n_zlt, n_lt, n_eq, n_cl, n_in, nI_add, pk_mul, n_div, n_sub, nm_mod, ha, h, h3]
theorem m_holds {a : Nat} (ha : aT a) {k : Nat} (hk : k < 16) (σ : a_HP) (hv : vKn (σ.1 a 0) (fun j => σ.1 a (4 + j)) (fun j => σ.1 a (20 + j))) (Q : Option Value → a_HP → Prop) : Cl 134 [.ref a, .int (nI k)] σ Q = Q (some (.int (pH (σ.1 a 0) (fun j => σ.1 a (4 + j)) (fun j => σ.1 a (20 + j)) k))) σ := by
  have ha' := ha
  unfold aT at ha
  have e1 : 4 + k < 481 := by omega
  have e2 : 20 + k < 481 := by omega
  simp (disch := first | assumption | omega) only [cl_134, r_134_0, r_134_1, r_134_2, r_134_3, r_134_4, r_134_5, r_134_6, r_134_8, r_134_9, r_134_10, r_134_11, r_134_12, r_134_13, r_134_14, r_134_15, r_134_16, r_134_19, r_134_22, f_add, o_bi, o_ial, o_ivs, o_lda, o_ldi, o_pi, o_ri, acR_nx, acR_re, acR_ca, acR_no, acR_if, Kc_i, Kc_n, a_lg, a_ls, a_kl, a_pk, a_sw, cw_n, cw_i, cw_l, cw_r, List.length_cons, List.length_nil, List.getElem?_cons_succ, List.getElem?_cons_zero, ↓reduceIte, decide_true, decide_false, Bool.false_eq_true, or_true, true_or, or_false, false_or, or_self, and_true, true_and, not_true_eq_false, not_false_eq_true, Nat.reduceEqDiff, Nat.reduceLT, Nat.reduceLeDiff, Nat.reduceAdd, Nat.reduceSub, Nat.reduceMul, Nat.reduceDiv, Nat.reduceMod, Nat.zero_add, Nat.add_zero, n_z, n_1, n_ltz, n_zlt, n_lt, n_eq, n_cl, n_in, nI_add, pk_mul, n_div, n_sub, nm_mod, ha, e1, e2, m_rightOf, m_holding]
  unfold pH
  rw [mK_kH (hv.2 k hk).1 (hv.2 k hk).2 hv.1 (kRt_ok hv hk)]
theorem m_corner {c i : Nat} (hc : c < 9) (hi : i < 4) (σ : a_HP) (Q : Option Value → a_HP → Prop) : Cl 136 [.int (nI c), .int (nI i)] σ Q = Q (some (.int (nI (kA c i)))) σ := by
  have e : 4 * (c / 3 + i / 2) + c % 3 + i % 2 = kA c i := by unfold kA; omega
  simp (disch := omega) only [cl_136, r_136_0, r_136_1, r_136_2, r_136_3, r_136_4, r_136_5, r_136_6, r_136_7, r_136_8, r_136_9, r_136_10, r_136_11, r_136_12, r_136_13, r_136_14, r_136_15, r_136_16, r_136_17, f_add, f_div, f_mul, f_rem, o_bd, o_bi, o_ldi, o_pi, o_ri, acR_nx, acR_re, acR_ca, acR_no, acR_if, Kc_i, Kc_n, a_lg, a_ls, a_kl, a_pk, a_sw, cw_n, cw_i, cw_l, cw_r, List.length_cons, List.length_nil, List.getElem?_cons_succ, List.getElem?_cons_zero, ↓reduceIte, decide_true, decide_false, Bool.false_eq_true, or_true, true_or, or_false, false_or, or_self, and_true, true_and, not_true_eq_false, not_false_eq_true, Nat.reduceEqDiff, Nat.reduceLT, Nat.reduceLeDiff, Nat.reduceAdd, Nat.reduceSub, Nat.reduceMul, Nat.reduceDiv, Nat.reduceMod, Nat.zero_add, Nat.add_zero, n_z, n_1, n_ltz, n_zlt, n_lt, n_eq, n_cl, n_in, nI_add, pk_mul, n_div, n_sub, nm_mod, e]
theorem m_heldBy {a : Nat} (ha : aT a) {c : Nat} (hc : c < 9) (σ : a_HP) (hv : vKn (σ.1 a 0) (fun j => σ.1 a (4 + j)) (fun j => σ.1 a (20 + j))) (Q : Option Value → a_HP → Prop) : Cl 138 [.ref a, .int (nI c)] σ Q = Q (some (.int (pC (σ.1 a 0) (fun j => σ.1 a (4 + j)) (fun j => σ.1 a (20 + j)) c))) σ := by
  have e0 := kA_lt hc (i := 0) (by omega)
  have e1 := kA_lt hc (i := 1) (by omega)
  have e2 := kA_lt hc (i := 2) (by omega)
  have e3 := kA_lt hc (i := 3) (by omega)
  simp (disch := first | assumption | omega) only [cl_138, r_138_0, r_138_1, r_138_2, r_138_3, r_138_4, r_138_5, r_138_6, r_138_9, r_138_10, r_138_11, r_138_12, r_138_13, r_138_16, r_138_19, r_138_20, r_138_21, r_138_24, r_138_27, r_138_28, f_add, o_bi, o_cge, o_go, o_inc, o_ivs, o_lda, o_ldi, o_pi, o_ri, o_sti, acR_nx, acR_re, acR_ca, acR_no, acR_if, Kc_i, Kc_n, a_lg, a_ls, a_kl, a_pk, a_sw, cw_n, cw_i, cw_l, cw_r, List.length_cons, List.length_nil, List.getElem?_cons_succ, List.getElem?_cons_zero, ↓reduceIte, decide_true, decide_false, Bool.false_eq_true, or_true, true_or, or_false, false_or, or_self, and_true, true_and, not_true_eq_false, not_false_eq_true, Nat.reduceEqDiff, Nat.reduceLT, Nat.reduceLeDiff, Nat.reduceAdd, Nat.reduceSub, Nat.reduceMul, Nat.reduceDiv, Nat.reduceMod, Nat.zero_add, Nat.add_zero, n_z, n_1, n_ltz, n_zlt, n_lt, n_eq, n_cl, n_in, nI_add, pk_mul, n_div, n_sub, nm_mod, m_corner, m_holds, pC]
theorem m_isLaw {a : Nat} (ha : aT a) {c : Nat} (hc : c < 9) (σ : a_HP) (hv : vKn (σ.1 a 0) (fun j => σ.1 a (4 + j)) (fun j => σ.1 a (20 + j))) (Q : Option Value → a_HP → Prop) : Cl 139 [.ref a, .int (nI c)] σ Q = if pC (σ.1 a 0) (fun j => σ.1 a (4 + j)) (fun j => σ.1 a (20 + j)) c < σ.1 a (52 + c) then Q (some (.int (nI 0))) σ else Q (some (.int (nI 1))) σ := by
  have ha' := ha
  unfold aT at ha
  have e : 52 + c < 481 := by omega
  simp (disch := first | assumption | omega) only [cl_139, r_139_0, r_139_1, r_139_2, r_139_5, r_139_6, r_139_8, r_139_9, r_139_10, r_139_11, r_139_14, r_139_15, r_139_18, r_139_19, f_add, o_bi, o_clt, o_go, o_ial, o_ivs, o_lda, o_ldi, o_pi, o_rz, acR_nx, acR_re, acR_ca, acR_no, acR_if, Kc_i, Kc_n, a_lg, a_ls, a_kl, a_pk, a_sw, cw_n, cw_i, cw_l, cw_r, List.length_cons, List.length_nil, List.getElem?_cons_succ, List.getElem?_cons_zero, ↓reduceIte, decide_true, decide_false, Bool.false_eq_true, or_true, true_or, or_false, false_or, or_self, and_true, true_and, not_true_eq_false, not_false_eq_true, Nat.reduceEqDiff, Nat.reduceLT, Nat.reduceLeDiff, Nat.reduceAdd, Nat.reduceSub, Nat.reduceMul, Nat.reduceDiv, Nat.reduceMod, Nat.zero_add, Nat.add_zero, n_z, n_1, n_ltz, n_zlt, n_lt, n_eq, n_cl, n_in, nI_add, pk_mul, n_div, n_sub, nm_mod, ha, e, m_heldBy]
theorem or_0 (x : Int32) : x ||| nI 0 = x := by
  rw [show nI 0 = 0 from nI_0]
  exact Int32.or_zero
theorem m_lawsOf {a : Nat} (ha : aT a) (σ : a_HP) (hv : vKn (σ.1 a 0) (fun j => σ.1 a (4 + j)) (fun j => σ.1 a (20 + j))) (Q : Option Value → a_HP → Prop) : Cl 140 [.ref a] σ Q = Q (some (.int (pB (σ.1 a 0) (fun j => σ.1 a (4 + j)) (fun j => σ.1 a (20 + j)) (fun j => σ.1 a (52 + j)) 9))) σ := by
  have key := lp_up (P := fun i => Rn 140 4 [some (.ref a), some (.int (pB (σ.1 a 0) (fun j => σ.1 a (4 + j)) (fun j => σ.1 a (20 + j)) (fun j => σ.1 a (52 + j)) i)), some (.int (nI i))] [] σ Q) 9 (fun i hi => by
    rw [r_140_4]
    simp (disch := first | assumption | omega) only [r_140_0, r_140_1, r_140_2, r_140_3, r_140_5, r_140_7, r_140_10, r_140_11, r_140_12, r_140_13, r_140_16, r_140_19, r_140_20, r_140_21, r_140_22, r_140_25, r_140_26, r_140_27, r_140_28, r_140_31, r_140_34, r_140_35, f_or, f_shl, o_bi, o_cge, o_eq, o_go, o_inc, o_ivs, o_lda, o_ldi, o_pi, o_ri, o_sti, acR_nx, acR_re, acR_ca, acR_no, acR_if, Kc_i, Kc_n, a_lg, a_ls, a_kl, a_pk, a_sw, cw_n, cw_i, cw_l, cw_r, List.length_cons, List.length_nil, List.getElem?_cons_succ, List.getElem?_cons_zero, ↓reduceIte, decide_true, decide_false, Bool.false_eq_true, or_true, true_or, or_false, false_or, or_self, and_true, true_and, not_true_eq_false, not_false_eq_true, Nat.reduceEqDiff, Nat.reduceLT, Nat.reduceLeDiff, Nat.reduceAdd, Nat.reduceSub, Nat.reduceMul, Nat.reduceDiv, Nat.reduceMod, Nat.zero_add, Nat.add_zero, n_z, n_1, n_ltz, n_zlt, n_lt, n_eq, n_cl, n_in, nI_add, pk_mul, n_div, n_sub, nm_mod, hi, m_isLaw, pB, or_0]
    split <;> rfl)
  simp (disch := first | assumption | omega) only [cl_140, r_140_0, r_140_1, r_140_2, r_140_3, r_140_5, r_140_7, r_140_10, r_140_11, r_140_12, r_140_13, r_140_16, r_140_19, r_140_20, r_140_21, r_140_22, r_140_25, r_140_26, r_140_27, r_140_28, r_140_31, r_140_34, r_140_35, f_or, f_shl, o_bi, o_cge, o_eq, o_go, o_inc, o_ivs, o_lda, o_ldi, o_pi, o_ri, o_sti, acR_nx, acR_re, acR_ca, acR_no, acR_if, Kc_i, Kc_n, a_lg, a_ls, a_kl, a_pk, a_sw, cw_n, cw_i, cw_l, cw_r, List.length_cons, List.length_nil, List.getElem?_cons_succ, List.getElem?_cons_zero, ↓reduceIte, decide_true, decide_false, Bool.false_eq_true, or_true, true_or, or_false, false_or, or_self, and_true, true_and, not_true_eq_false, not_false_eq_true, Nat.reduceEqDiff, Nat.reduceLT, Nat.reduceLeDiff, Nat.reduceAdd, Nat.reduceSub, Nat.reduceMul, Nat.reduceDiv, Nat.reduceMod, Nat.zero_add, Nat.add_zero, n_z, n_1, n_ltz, n_zlt, n_lt, n_eq, n_cl, n_in, nI_add, pk_mul, n_div, n_sub, nm_mod]
  refine Eq.trans key ?_
  rw [r_140_4]
  simp (disch := first | assumption | omega) only [r_140_0, r_140_1, r_140_2, r_140_3, r_140_5, r_140_7, r_140_10, r_140_11, r_140_12, r_140_13, r_140_16, r_140_19, r_140_20, r_140_21, r_140_22, r_140_25, r_140_26, r_140_27, r_140_28, r_140_31, r_140_34, r_140_35, f_or, f_shl, o_bi, o_cge, o_eq, o_go, o_inc, o_ivs, o_lda, o_ldi, o_pi, o_ri, o_sti, acR_nx, acR_re, acR_ca, acR_no, acR_if, Kc_i, Kc_n, a_lg, a_ls, a_kl, a_pk, a_sw, cw_n, cw_i, cw_l, cw_r, List.length_cons, List.length_nil, List.getElem?_cons_succ, List.getElem?_cons_zero, ↓reduceIte, decide_true, decide_false, Bool.false_eq_true, or_true, true_or, or_false, false_or, or_self, and_true, true_and, not_true_eq_false, not_false_eq_true, Nat.reduceEqDiff, Nat.reduceLT, Nat.reduceLeDiff, Nat.reduceAdd, Nat.reduceSub, Nat.reduceMul, Nat.reduceDiv, Nat.reduceMod, Nat.zero_add, Nat.add_zero, n_z, n_1, n_ltz, n_zlt, n_lt, n_eq, n_cl, n_in, nI_add, pk_mul, n_div, n_sub, nm_mod]
theorem m_knots {a : Nat} (ha : aT a) (σ : a_HP) (hv : vKn (σ.1 a 0) (fun j => σ.1 a (4 + j)) (fun j => σ.1 a (20 + j))) (Q : Option Value → a_HP → Prop) : Cl 131 [.ref a] σ Q = Q (some (.int (tK (fun j => σ.1 a (20 + j)) 16))) σ := by
  have ha' := ha
  unfold aT at ha
  have key := lp_up (P := fun i => Rn 131 4 [some (.ref a), some (.int (tK (fun j => σ.1 a (20 + j)) i)), some (.int (nI i))] [] σ Q) 16 (fun i hi => by
    rw [r_131_4]
    have e : 20 + i < 481 := by omega
    obtain ⟨d, hd, es⟩ := (hv.2 i hi).2
    have c1 : (0 < σ.1 a (20 + i)) = ¬ (σ.1 a (20 + i) = 0) := by
      dsimp only at es
      rw [es, n_z (by omega), n_zlt (by omega)]
      exact propext ⟨fun h => by omega, fun h => by omega⟩
    simp (disch := first | assumption | omega) only [r_131_0, r_131_1, r_131_2, r_131_3, r_131_5, r_131_7, r_131_10, r_131_11, r_131_12, r_131_14, r_131_15, r_131_16, r_131_17, r_131_20, r_131_21, r_131_24, r_131_25, r_131_26, r_131_27, r_131_30, r_131_33, r_131_34, f_add, o_bi, o_cge, o_go, o_ial, o_inc, o_lda, o_ldi, o_le, o_pi, o_ri, o_sti, acR_nx, acR_re, acR_ca, acR_no, acR_if, Kc_i, Kc_n, a_lg, a_ls, a_kl, a_pk, a_sw, cw_n, cw_i, cw_l, cw_r, List.length_cons, List.length_nil, List.getElem?_cons_succ, List.getElem?_cons_zero, ↓reduceIte, decide_true, decide_false, Bool.false_eq_true, or_true, true_or, or_false, false_or, or_self, and_true, true_and, not_true_eq_false, not_false_eq_true, Nat.reduceEqDiff, Nat.reduceLT, Nat.reduceLeDiff, Nat.reduceAdd, Nat.reduceSub, Nat.reduceMul, Nat.reduceDiv, Nat.reduceMod, Nat.zero_add, Nat.add_zero, n_z, n_1, n_ltz, n_zlt, n_lt, n_eq, n_cl, n_in, nI_add, pk_mul, n_div, n_sub, nm_mod, ha, hi, e, tK]
    by_cases h0 : σ.1 a (20 + i) = 0
    · rw [if_neg (by rw [c1]; exact fun h => h h0), if_pos h0]
    · rw [if_pos (by rw [c1]; exact h0), if_neg h0])
  simp (disch := first | assumption | omega) only [cl_131, r_131_0, r_131_1, r_131_2, r_131_3, r_131_5, r_131_7, r_131_10, r_131_11, r_131_12, r_131_14, r_131_15, r_131_16, r_131_17, r_131_20, r_131_21, r_131_24, r_131_25, r_131_26, r_131_27, r_131_30, r_131_33, r_131_34, f_add, o_bi, o_cge, o_go, o_ial, o_inc, o_lda, o_ldi, o_le, o_pi, o_ri, o_sti, acR_nx, acR_re, acR_ca, acR_no, acR_if, Kc_i, Kc_n, a_lg, a_ls, a_kl, a_pk, a_sw, cw_n, cw_i, cw_l, cw_r, List.length_cons, List.length_nil, List.getElem?_cons_succ, List.getElem?_cons_zero, ↓reduceIte, decide_true, decide_false, Bool.false_eq_true, or_true, true_or, or_false, false_or, or_self, and_true, true_and, not_true_eq_false, not_false_eq_true, Nat.reduceEqDiff, Nat.reduceLT, Nat.reduceLeDiff, Nat.reduceAdd, Nat.reduceSub, Nat.reduceMul, Nat.reduceDiv, Nat.reduceMod, Nat.zero_add, Nat.add_zero, n_z, n_1, n_ltz, n_zlt, n_lt, n_eq, n_cl, n_in, nI_add, pk_mul, n_div, n_sub, nm_mod]
  refine Eq.trans key ?_
  rw [r_131_4]
  simp (disch := first | assumption | omega) only [r_131_0, r_131_1, r_131_2, r_131_3, r_131_5, r_131_7, r_131_10, r_131_11, r_131_12, r_131_14, r_131_15, r_131_16, r_131_17, r_131_20, r_131_21, r_131_24, r_131_25, r_131_26, r_131_27, r_131_30, r_131_33, r_131_34, f_add, o_bi, o_cge, o_go, o_ial, o_inc, o_lda, o_ldi, o_le, o_pi, o_ri, o_sti, acR_nx, acR_re, acR_ca, acR_no, acR_if, Kc_i, Kc_n, a_lg, a_ls, a_kl, a_pk, a_sw, cw_n, cw_i, cw_l, cw_r, List.length_cons, List.length_nil, List.getElem?_cons_succ, List.getElem?_cons_zero, ↓reduceIte, decide_true, decide_false, Bool.false_eq_true, or_true, true_or, or_false, false_or, or_self, and_true, true_and, not_true_eq_false, not_false_eq_true, Nat.reduceEqDiff, Nat.reduceLT, Nat.reduceLeDiff, Nat.reduceAdd, Nat.reduceSub, Nat.reduceMul, Nat.reduceDiv, Nat.reduceMod, Nat.zero_add, Nat.add_zero, n_z, n_1, n_ltz, n_zlt, n_lt, n_eq, n_cl, n_in, nI_add, pk_mul, n_div, n_sub, nm_mod]
