/-! public calls, class and reference side by side -/
def Pair (N yc ym : Nat) (as : List Value) (σ : a_HP) : Prop := Cl yc (.ref 0 :: as) σ (fun v σ1 => Cl ym (.ref 61 :: as) σ1 (fun v' σ2 => (∃ r : Int32, v = some (.int r) ∧ v' = some (.int r)) ∧ Inv (N + 1) σ2))
def PairL (N yc ym : Nat) (as : List Value) (σ : a_HP) : Prop := Cl yc (.ref 0 :: as) σ (fun v σ1 => Cl ym (.ref 61 :: as) σ1 (fun v' σ2 => (∃ r : Int64, v = some (.long r) ∧ v' = some (.long r)) ∧ Inv (N + 1) σ2))
theorem rng {x : Int32} {l k : Nat} (hl : l < 2147483648) (hk : k < 2147483648) (h : ¬ (x < nI l ∨ nI k < x)) : ∃ d : Nat, l ≤ d ∧ d ≤ k ∧ x = nI d := by
  have h1 : ¬ x < nI l := fun q => h (Or.inl q)
  have h2 : ¬ nI k < x := fun q => h (Or.inr q)
  have h0 : ¬ x < 0 := by
    intro q
    apply h1
    have a := Int32.lt_iff_toInt_lt.mp q
    rw [Int32.lt_iff_toInt_lt, nI_toInt (by omega)]
    simp at a
    omega
  obtain ⟨d, hd, rfl⟩ := nI_of h0
  rw [n_lt (by omega) (by omega)] at h2
  rw [n_lt (by omega) (by omega)] at h1
  exact ⟨d, by omega, by omega, rfl⟩
/-! congruences of the pictures -/
theorem tK_c {f g : Nat → Int32} : ∀ n : Nat, (∀ k, k < n → f k = g k) → tK f n = tK g n
  | 0, _ => rfl
  | n + 1, h => by
    simp only [tK]
    rw [tK_c n (fun k hk => h k (by omega)), h n (by omega)]
theorem kRt_c {s s' : Nat → Int32} (h : ∀ k, k < 16 → s k = s' k) {k : Nat} (hk : k < 16) : kRt s k = kRt s' k := by
  unfold kRt
  by_cases h3 : k % 4 < 3
  · rw [if_pos h3, if_pos h3, h _ (by omega)]
  · rw [if_neg h3, if_neg h3]
theorem pH_c {r r' : Int32} {kd kd' st st' : Nat → Int32} (hr : r = r') (hk : ∀ k, k < 16 → kd k = kd' k) (hs : ∀ k, k < 16 → st k = st' k) {k : Nat} (h : k < 16) : pH r kd st k = pH r' kd' st' k := by
  unfold pH
  rw [hr, hk k h, hs k h, kRt_c hs h]
theorem pC_c {r r' : Int32} {kd kd' st st' : Nat → Int32} (hr : r = r') (hk : ∀ k, k < 16 → kd k = kd' k) (hs : ∀ k, k < 16 → st k = st' k) {c : Nat} (h : c < 9) : pC r kd st c = pC r' kd' st' c := by
  unfold pC
  rw [pH_c hr hk hs (kA_lt h (i := 0) (by omega)), pH_c hr hk hs (kA_lt h (i := 1) (by omega)), pH_c hr hk hs (kA_lt h (i := 2) (by omega)), pH_c hr hk hs (kA_lt h (i := 3) (by omega))]
theorem pB_c {r r' : Int32} {kd kd' st st' wd wd' : Nat → Int32} (hr : r = r') (hk : ∀ k, k < 16 → kd k = kd' k) (hs : ∀ k, k < 16 → st k = st' k) (hw : ∀ c, c < 9 → wd c = wd' c) : ∀ n : Nat, n ≤ 9 → pB r kd st wd n = pB r' kd' st' wd' n
  | 0, _ => rfl
  | n + 1, h => by
    simp only [pB]
    rw [pB_c hr hk hs hw n (by omega), pC_c hr hk hs (by omega), hw n (by omega)]
theorem pN_c {h h' n n' : Int32} {kd kd' st st' : Nat → Int32} (hh : h = h') (hn : n = n') (hk : ∀ k, k < 16 → kd k = kd' k) (hs : ∀ k, k < 16 → st k = st' k) {k : Nat} (hk2 : k < 16) : pN h n kd st k = pN h' n' kd' st' k := by
  unfold pN
  rw [hh, hn, hk k hk2, hs k hk2]
theorem pNh_c {h h' n n' : Int32} {kd kd' st st' : Nat → Int32} (hh : h = h') (hn : n = n') (hk : ∀ k, k < 16 → kd k = kd' k) (hs : ∀ k, k < 16 → st k = st' k) : ∀ i : Nat, i ≤ 16 → pNh h n kd st i = pNh h' n' kd' st' i
  | 0, _ => rfl
  | i + 1, hi => by
    simp only [pNh]
    rw [pNh_c hh hn hk hs i (by omega), pN_c hh hn hk hs (by omega), hh, hs i (by omega)]
theorem vKn_of {N : Nat} {f : Nat → Int32} (h : vN N f) : vKn (f 0) (fun j => f (4 + j)) (fun j => f (20 + j)) := ⟨h.1, fun k hk => ⟨(h.2.2.2.2.1 k hk).1, (h.2.2.2.2.1 k hk).2.1⟩⟩
theorem aN_1 : aN 1 := ⟨rfl, rfl, rfl, rfl, rfl⟩
theorem aN_18 : aN 18 := ⟨rfl, rfl, rfl, rfl, rfl⟩
theorem aN_38 : aN 38 := ⟨rfl, rfl, rfl, rfl, rfl⟩
theorem aN_50 : aN 50 := ⟨rfl, rfl, rfl, rfl, rfl⟩
theorem aT_62 : aT 62 := rfl
theorem aT_63 : aT 63 := rfl
theorem aT_64 : aT 64 := rfl
/-! rain, twine, hands, wide -/
theorem c_rain (x : Int32) (σ : a_HP) (Q : Option Value → a_HP → Prop) : Cl 52 [.ref 0, .int x] σ Q = if x < nI 0 ∨ nI 1 < x then Q (some (.int (-2))) (a_wi σ 17 0 (σ.1 17 0 + nI 1)) else Q (some (.int (σ.1 1 0))) (a_wi σ 1 0 x) := by
  simp (disch := first | assumption | omega) only [cl_52, r_52_0, r_52_1, r_52_2, r_52_3, r_52_6, r_52_9, r_52_10, r_52_13, r_52_14, r_52_15, r_52_18, r_52_21, r_52_22, r_52_23, r_52_26, r_52_27, r_52_30, r_52_31, o_get, o_ivs, o_ivv, o_lda, o_ldi, o_ne, o_pi, o_put, o_ri, o_sti, acR_nx, acR_re, acR_ca, acR_no, acR_if, Kc_i, Kc_n, a_lg, a_ls, a_kl, a_pk, a_sw, cw_n, cw_i, cw_l, cw_r, List.length_cons, List.length_nil, List.getElem?_cons_succ, List.getElem?_cons_zero, ↓reduceIte, decide_true, decide_false, Bool.false_eq_true, or_true, true_or, or_false, false_or, or_self, and_true, true_and, not_true_eq_false, not_false_eq_true, Nat.reduceEqDiff, Nat.reduceLT, Nat.reduceLeDiff, Nat.reduceAdd, Nat.reduceSub, Nat.reduceMul, Nat.reduceDiv, Nat.reduceMod, Nat.zero_add, Nat.add_zero, n_z, n_1, n_ltz, n_zlt, n_lt, n_eq, n_cl, n_in, nI_add, pk_mul, n_div, n_sub, nm_mod, ly_0, ly_1, c_within, c_bad]
theorem m_rain (x : Int32) (σ : a_HP) (Q : Option Value → a_HP → Prop) : Cl 146 [.ref 61, .int x] σ Q = if x < nI 0 ∨ nI 1 < x then Q (some (.int (-2))) (a_wi σ 68 0 (σ.1 68 0 + nI 1)) else Q (some (.int (σ.1 62 0))) (a_wi σ 62 0 x) := by
  simp (disch := first | assumption | omega) only [cl_146, r_146_0, r_146_1, r_146_4, r_146_7, r_146_8, r_146_9, r_146_10, r_146_13, r_146_16, r_146_17, r_146_20, o_eq, o_go, o_ivs, o_ivv, o_lda, o_ldi, o_pi, o_ri, acR_nx, acR_re, acR_ca, acR_no, acR_if, Kc_i, Kc_n, a_lg, a_ls, a_kl, a_pk, a_sw, cw_n, cw_i, cw_l, cw_r, List.length_cons, List.length_nil, List.getElem?_cons_succ, List.getElem?_cons_zero, ↓reduceIte, decide_true, decide_false, Bool.false_eq_true, or_true, true_or, or_false, false_or, or_self, and_true, true_and, not_true_eq_false, not_false_eq_true, Nat.reduceEqDiff, Nat.reduceLT, Nat.reduceLeDiff, Nat.reduceAdd, Nat.reduceSub, Nat.reduceMul, Nat.reduceDiv, Nat.reduceMod, Nat.zero_add, Nat.add_zero, n_z, n_1, n_ltz, n_zlt, n_lt, n_eq, n_cl, n_in, nI_add, pk_mul, n_div, n_sub, nm_mod, ly_61, m_isTwo, m_bad, m_becomes]
theorem c_twine (x : Int32) (σ : a_HP) (Q : Option Value → a_HP → Prop) : Cl 53 [.ref 0, .int x] σ Q = if x < nI 0 ∨ nI 99 < x then Q (some (.int (-2))) (a_wi σ 17 0 (σ.1 17 0 + nI 1)) else Q (some (.int (σ.1 1 1))) (a_wi σ 1 1 x) := by
  simp (disch := first | assumption | omega) only [cl_53, r_53_0, r_53_1, r_53_2, r_53_4, r_53_7, r_53_10, r_53_11, r_53_14, r_53_15, r_53_16, r_53_19, r_53_22, r_53_23, r_53_24, r_53_27, r_53_28, r_53_31, r_53_32, o_get, o_ivs, o_ivv, o_lda, o_ldi, o_ne, o_pi, o_put, o_ri, o_sti, acR_nx, acR_re, acR_ca, acR_no, acR_if, Kc_i, Kc_n, a_lg, a_ls, a_kl, a_pk, a_sw, cw_n, cw_i, cw_l, cw_r, List.length_cons, List.length_nil, List.getElem?_cons_succ, List.getElem?_cons_zero, ↓reduceIte, decide_true, decide_false, Bool.false_eq_true, or_true, true_or, or_false, false_or, or_self, and_true, true_and, not_true_eq_false, not_false_eq_true, Nat.reduceEqDiff, Nat.reduceLT, Nat.reduceLeDiff, Nat.reduceAdd, Nat.reduceSub, Nat.reduceMul, Nat.reduceDiv, Nat.reduceMod, Nat.zero_add, Nat.add_zero, n_z, n_1, n_ltz, n_zlt, n_lt, n_eq, n_cl, n_in, nI_add, pk_mul, n_div, n_sub, nm_mod, ly_0, ly_1, c_within, c_bad]
theorem m_twine (x : Int32) (σ : a_HP) (Q : Option Value → a_HP → Prop) : Cl 147 [.ref 61, .int x] σ Q = if x < nI 0 ∨ nI 99 < x then Q (some (.int (-2))) (a_wi σ 68 0 (σ.1 68 0 + nI 1)) else Q (some (.int (σ.1 62 1))) (a_wi σ 62 1 x) := by
  simp (disch := first | assumption | omega) only [cl_147, r_147_0, r_147_1, r_147_2, r_147_3, r_147_6, r_147_9, r_147_12, r_147_13, r_147_14, r_147_15, r_147_18, r_147_21, r_147_22, r_147_25, o_eq, o_go, o_i2l, o_ivs, o_ivv, o_lda, o_ldi, o_pi, o_pl, o_ri, acR_nx, acR_re, acR_ca, acR_no, acR_if, Kc_i, Kc_n, a_lg, a_ls, a_kl, a_pk, a_sw, cw_n, cw_i, cw_l, cw_r, List.length_cons, List.length_nil, List.getElem?_cons_succ, List.getElem?_cons_zero, ↓reduceIte, decide_true, decide_false, Bool.false_eq_true, or_true, true_or, or_false, false_or, or_self, and_true, true_and, not_true_eq_false, not_false_eq_true, Nat.reduceEqDiff, Nat.reduceLT, Nat.reduceLeDiff, Nat.reduceAdd, Nat.reduceSub, Nat.reduceMul, Nat.reduceDiv, Nat.reduceMod, Nat.zero_add, Nat.add_zero, n_z, n_1, n_ltz, n_zlt, n_lt, n_eq, n_cl, n_in, nI_add, pk_mul, n_div, n_sub, nm_mod, ly_61, m_in, l_lt, l_gt, m_bad, m_becomes]
theorem c_hands (x : Int32) (σ : a_HP) (Q : Option Value → a_HP → Prop) : Cl 54 [.ref 0, .int x] σ Q = if x < nI 0 ∨ nI 65535 < x then Q (some (.int (-2))) (a_wi σ 17 0 (σ.1 17 0 + nI 1)) else Q (some (.int (σ.1 1 2))) (a_wi σ 1 2 x) := by
  simp (disch := first | assumption | omega) only [cl_54, r_54_0, r_54_1, r_54_2, r_54_4, r_54_7, r_54_10, r_54_11, r_54_14, r_54_15, r_54_16, r_54_19, r_54_22, r_54_23, r_54_24, r_54_27, r_54_28, r_54_31, r_54_32, o_get, o_ivs, o_ivv, o_lda, o_ldi, o_ne, o_pi, o_put, o_ri, o_sti, acR_nx, acR_re, acR_ca, acR_no, acR_if, Kc_i, Kc_n, a_lg, a_ls, a_kl, a_pk, a_sw, cw_n, cw_i, cw_l, cw_r, List.length_cons, List.length_nil, List.getElem?_cons_succ, List.getElem?_cons_zero, ↓reduceIte, decide_true, decide_false, Bool.false_eq_true, or_true, true_or, or_false, false_or, or_self, and_true, true_and, not_true_eq_false, not_false_eq_true, Nat.reduceEqDiff, Nat.reduceLT, Nat.reduceLeDiff, Nat.reduceAdd, Nat.reduceSub, Nat.reduceMul, Nat.reduceDiv, Nat.reduceMod, Nat.zero_add, Nat.add_zero, n_z, n_1, n_ltz, n_zlt, n_lt, n_eq, n_cl, n_in, nI_add, pk_mul, n_div, n_sub, nm_mod, ly_0, ly_1, c_within, c_bad]
theorem m_hands (x : Int32) (σ : a_HP) (Q : Option Value → a_HP → Prop) : Cl 148 [.ref 61, .int x] σ Q = if x < nI 0 ∨ nI 65535 < x then Q (some (.int (-2))) (a_wi σ 68 0 (σ.1 68 0 + nI 1)) else Q (some (.int (σ.1 62 2))) (a_wi σ 62 2 x) := by
  simp (disch := first | assumption | omega) only [cl_148, r_148_0, r_148_1, r_148_2, r_148_3, r_148_6, r_148_9, r_148_12, r_148_13, r_148_14, r_148_15, r_148_18, r_148_21, r_148_22, r_148_25, o_eq, o_go, o_i2l, o_ivs, o_ivv, o_lda, o_ldi, o_pi, o_pl, o_ri, acR_nx, acR_re, acR_ca, acR_no, acR_if, Kc_i, Kc_n, a_lg, a_ls, a_kl, a_pk, a_sw, cw_n, cw_i, cw_l, cw_r, List.length_cons, List.length_nil, List.getElem?_cons_succ, List.getElem?_cons_zero, ↓reduceIte, decide_true, decide_false, Bool.false_eq_true, or_true, true_or, or_false, false_or, or_self, and_true, true_and, not_true_eq_false, not_false_eq_true, Nat.reduceEqDiff, Nat.reduceLT, Nat.reduceLeDiff, Nat.reduceAdd, Nat.reduceSub, Nat.reduceMul, Nat.reduceDiv, Nat.reduceMod, Nat.zero_add, Nat.add_zero, n_z, n_1, n_ltz, n_zlt, n_lt, n_eq, n_cl, n_in, nI_add, pk_mul, n_div, n_sub, nm_mod, ly_61, m_in, l_lt, l_gt, m_bad, m_becomes]
/-- one of the four numbers of the net is told -/
theorem iS_o {N : Nat} {σ : a_HP} (h : iS N σ 1 6 8 (σ.1 62)) {j : Nat} (hj : j < 3) {x : Int32} (h0 : j = 0 → x = nI 0 ∨ x = nI 1) (h1 : j = 1 → ∃ d : Nat, d ≤ 99 ∧ x = nI d) (h2 : j = 2 → ∃ d : Nat, d ≤ 65535 ∧ x = nI d) : iS N (a_wi (a_wi σ 1 j x) 62 j x) 1 6 8 ((a_wi (a_wi σ 1 j x) 62 j x).1 62) := by
  obtain ⟨e, v, hp, hr⟩ := h
  have ef : (a_wi (a_wi σ 1 j x) 62 j x).1 62 = upd (σ.1 62) j x := by simp only [wi_sc, sc_1, Nat.reduceEqDiff, if_true, if_false]
  have eo : (a_wi (a_wi σ 1 j x) 62 j x).1 1 = upd (σ.1 1) j x := by simp only [wi_sc, sc_1, Nat.reduceEqDiff, if_true, if_false]
  rw [ef]
  refine ⟨?_, ?_, pP_f hp (fun k hk => by rw [ud_1, if_neg (by omega)]), pR_f hr (fun k hk _ => by rw [ud_1, if_neg (by omega)])⟩
  · rw [eo]
    refine ⟨fun k hk => ?_, fun k hk => ?_, fun c hc => ?_⟩
    · simp only [ud_1]
      by_cases q : k = j
      · rw [if_pos q, if_pos q]
      · rw [if_neg q, if_neg q]; exact e.1 k hk
    · simp only [ud_1]
      rw [if_neg (by omega), if_neg (by omega), if_neg (by omega)]
      exact e.2.1 k hk
    · simp only [ud_1]
      rw [if_neg (by omega)]
      exact e.2.2 c hc
  · obtain ⟨g0, g1, g2, g3, g4, g5⟩ := v
    refine ⟨?_, ?_, ?_, ?_, fun k hk => ?_, fun c hc => ?_⟩
    · simp only [ud_1]
      by_cases q : 0 = j
      · rw [if_pos q]; exact h0 q.symm
      · rw [if_neg q]; exact g0
    · simp only [ud_1]
      by_cases q : 1 = j
      · rw [if_pos q]; exact h1 q.symm
      · rw [if_neg q]; exact g1
    · simp only [ud_1]
      by_cases q : 2 = j
      · rw [if_pos q]; exact h2 q.symm
      · rw [if_neg q]; exact g2
    · simp only [ud_1]
      rw [if_neg (by omega)]
      exact g3
    · simp only [ud_1]
      rw [if_neg (by omega), if_neg (by omega), if_neg (by omega)]
      exact g4 k hk
    · simp only [ud_1]
      rw [if_neg (by omega)]
      exact g5 c hc
theorem Inv_o {N : Nat} {σ : a_HP} (h : Inv N σ) {j : Nat} (hj : j < 3) {x : Int32} (h0 : j = 0 → x = nI 0 ∨ x = nI 1) (h1 : j = 1 → ∃ d : Nat, d ≤ 99 ∧ x = nI d) (h2 : j = 2 → ∃ d : Nat, d ≤ 65535 ∧ x = nI d) : Inv (N + 1) (a_wi (a_wi σ 1 j x) 62 j x) := by
  obtain ⟨a1, a2, a3, a4, a5, a6⟩ := Inv_N (Nat.le_succ N) h
  exact ⟨iS_o a1 hj h0 h1 h2, a2, a3, a4, a5, a6⟩
theorem pr_rain {N : Nat} {σ : a_HP} (h : Inv N σ) (x : Int32) : Pair N 52 146 [.int x] σ := by
  unfold Pair
  rw [c_rain]
  by_cases hc : x < nI 0 ∨ nI 1 < x
  · rw [if_pos hc, m_rain, if_pos hc]
    exact ⟨⟨_, rfl, rfl⟩, Inv_ref h (by omega)⟩
  · rw [if_neg hc, m_rain, if_neg hc]
    obtain ⟨d, h1, h2, rfl⟩ := rng (by omega) (by omega) hc
    refine ⟨⟨_, rfl, ?_⟩, Inv_o h (by omega) (fun _ => ?_) (fun q => by omega) (fun q => by omega)⟩
    · exact congrArg (fun z => some (Value.int z)) (h.1.1.1 0 (by omega)).symm
    · rcases (show d = 0 ∨ d = 1 by omega) with rfl | rfl
      · exact Or.inl rfl
      · exact Or.inr rfl
theorem pr_twine {N : Nat} {σ : a_HP} (h : Inv N σ) (x : Int32) : Pair N 53 147 [.int x] σ := by
  unfold Pair
  rw [c_twine]
  by_cases hc : x < nI 0 ∨ nI 99 < x
  · rw [if_pos hc, m_twine, if_pos hc]
    exact ⟨⟨_, rfl, rfl⟩, Inv_ref h (by omega)⟩
  · rw [if_neg hc, m_twine, if_neg hc]
    obtain ⟨d, h1, h2, rfl⟩ := rng (by omega) (by omega) hc
    refine ⟨⟨_, rfl, ?_⟩, Inv_o h (by omega) (fun q => by omega) (fun _ => ⟨d, h2, rfl⟩) (fun q => by omega)⟩
    exact congrArg (fun z => some (Value.int z)) (h.1.1.1 1 (by omega)).symm
theorem pr_hands {N : Nat} {σ : a_HP} (h : Inv N σ) (x : Int32) : Pair N 54 148 [.int x] σ := by
  unfold Pair
  rw [c_hands]
  by_cases hc : x < nI 0 ∨ nI 65535 < x
  · rw [if_pos hc, m_hands, if_pos hc]
    exact ⟨⟨_, rfl, rfl⟩, Inv_ref h (by omega)⟩
  · rw [if_neg hc, m_hands, if_neg hc]
    obtain ⟨d, h1, h2, rfl⟩ := rng (by omega) (by omega) hc
    refine ⟨⟨_, rfl, ?_⟩, Inv_o h (by omega) (fun q => by omega) (fun q => by omega) (fun _ => ⟨d, h2, rfl⟩)⟩
    exact congrArg (fun z => some (Value.int z)) (h.1.1.1 2 (by omega)).symm
