/-! least: the reference's table -/
def KL (a b k : Nat) : List Nat := (List.range k).filter (fun j => hK a j || hK b j)
theorem KL_s (a b k : Nat) : KL a b (k + 1) = if (hK a k || hK b k) = true then KL a b k ++ [k] else KL a b k := by
  unfold KL
  rw [List.range_succ, List.filter_append]
  by_cases h : (hK a k || hK b k) = true
  · rw [if_pos h]
    simp only [List.filter_cons, List.filter_nil, h, if_true]
  · rw [if_neg h]
    simp only [List.filter_cons, List.filter_nil, h, List.append_nil]
    simp
theorem KL_8 : ∀ a b : Fin 9, ∀ k : Fin 17, (KL a.val b.val k.val).length ≤ 8 ∧ ((hK a.val k.val || hK b.val k.val) = true → (KL a.val b.val k.val).length < 8) := by decide +kernel
theorem KL_asc (a b k : Nat) : (KL a b k).Pairwise (· < ·) := List.Pairwise.filter _ List.pairwise_lt_range
theorem KL_mem {a b n k : Nat} (h : k ∈ KL a b n) : k < n ∧ (hK a k || hK b k) = true := by
  unfold KL at h
  rw [List.mem_filter, List.mem_range] at h
  exact h
theorem m_layKnots {a b : Nat} (ha : a < 9) (hb : b < 9) (σ : a_HP) (Q : Option Value → a_HP → Prop) (hQ : ∀ G : Nat → Int32, (∀ j, j < (KL a b 16).length → G j = nI ((KL a b 16).getD j 0)) → Q (some (.int (nI (KL a b 16).length))) (a_sc σ 70 G)) : Cl 175 [.ref 61, .int (nI a), .int (nI b)] σ Q := by
  have key := lp_dn (C := fun k => ∀ G : Nat → Int32, (∀ j, j < (KL a b k).length → G j = nI ((KL a b k).getD j 0)) → Rn 175 5 [some (.ref 61), some (.int (nI a)), some (.int (nI b)), some (.int (nI (KL a b k).length)), some (.int (nI k))] [] (a_sc σ 70 G) Q) 16 (fun G hG => by
    rw [r_175_5]
    simp (disch := first | assumption | omega) only [r_175_0, r_175_1, r_175_2, r_175_3, r_175_7, r_175_9, r_175_12, r_175_13, r_175_15, r_175_18, r_175_21, r_175_22, r_175_24, r_175_27, r_175_30, r_175_31, r_175_34, r_175_35, r_175_37, r_175_38, r_175_41, r_175_44, r_175_47, r_175_48, o_cge, o_eq, o_get, o_go, o_ias, o_inc, o_ivs, o_lda, o_ldi, o_ne, o_pi, o_ri, o_sti, acR_nx, acR_re, acR_ca, acR_no, acR_if, Kc_i, Kc_n, a_lg, a_ls, a_kl, a_pk, a_sw, cw_n, cw_i, cw_l, cw_r, List.length_cons, List.length_nil, List.getElem?_cons_succ, List.getElem?_cons_zero, ↓reduceIte, decide_true, decide_false, Bool.false_eq_true, or_true, true_or, or_false, false_or, or_self, and_true, true_and, not_true_eq_false, not_false_eq_true, Nat.reduceEqDiff, Nat.reduceLT, Nat.reduceLeDiff, Nat.reduceAdd, Nat.reduceSub, Nat.reduceMul, Nat.reduceDiv, Nat.reduceMod, Nat.zero_add, Nat.add_zero, n_z, n_1, n_ltz, n_zlt, n_lt, n_eq, n_cl, n_in, nI_add, pk_mul, n_div, n_sub, nm_mod]
    exact hQ G hG) (fun k hk ih G hG => by
    rw [r_175_5]
    have k31 : k < 2147483648 := by omega
    obtain ⟨l1, l2⟩ := KL_8 ⟨a, ha⟩ ⟨b, hb⟩ ⟨k, by omega⟩
    dsimp only at l1 l2
    rw [KL_s] at ih
    have yes : (hK a k || hK b k) = true → Rn 175 30 [some (.ref 61), some (.int (nI a)), some (.int (nI b)), some (.int (nI (KL a b k).length)), some (.int (nI k))] [] (a_sc σ 70 G) Q := by
      intro q
      have l8 := l2 q
      rw [if_pos q, List.length_append, List.length_singleton] at ih
      simp (disch := first | assumption | omega) only [r_175_0, r_175_1, r_175_2, r_175_3, r_175_7, r_175_9, r_175_12, r_175_13, r_175_15, r_175_18, r_175_21, r_175_22, r_175_24, r_175_27, r_175_30, r_175_31, r_175_34, r_175_35, r_175_37, r_175_38, r_175_41, r_175_44, r_175_47, r_175_48, o_cge, o_eq, o_get, o_go, o_ias, o_inc, o_ivs, o_lda, o_ldi, o_ne, o_pi, o_ri, o_sti, acR_nx, acR_re, acR_ca, acR_no, acR_if, Kc_i, Kc_n, a_lg, a_ls, a_kl, a_pk, a_sw, cw_n, cw_i, cw_l, cw_r, List.length_cons, List.length_nil, List.getElem?_cons_succ, List.getElem?_cons_zero, ↓reduceIte, decide_true, decide_false, Bool.false_eq_true, or_true, true_or, or_false, false_or, or_self, and_true, true_and, not_true_eq_false, not_false_eq_true, Nat.reduceEqDiff, Nat.reduceLT, Nat.reduceLeDiff, Nat.reduceAdd, Nat.reduceSub, Nat.reduceMul, Nat.reduceDiv, Nat.reduceMod, Nat.zero_add, Nat.add_zero, n_z, n_1, n_ltz, n_zlt, n_lt, n_eq, n_cl, n_in, nI_add, pk_mul, n_div, n_sub, nm_mod, ly_61, ly_70, l8, wi_sc, sc_1, sc_sc]
      refine ih _ (fun j hj => ?_)
      rw [ud_1]
      by_cases e : j = (KL a b k).length
      · rw [if_pos e, e]
        simp
      · rw [if_neg e, hG j (by omega)]
        have jl : j < (KL a b k).length := by omega
        rw [List.getD_eq_getElem?_getD, List.getD_eq_getElem?_getD, List.getElem?_append_left jl]
    cases q1 : hK a k with
    | true =>
      simp (disch := first | assumption | omega) only [r_175_0, r_175_1, r_175_2, r_175_3, r_175_7, r_175_9, r_175_12, r_175_13, r_175_15, r_175_18, r_175_21, r_175_22, r_175_24, r_175_27, r_175_31, r_175_34, r_175_35, r_175_37, r_175_38, r_175_41, r_175_44, r_175_47, r_175_48, o_cge, o_eq, o_get, o_go, o_ias, o_inc, o_ivs, o_ldi, o_ne, o_pi, o_ri, o_sti, acR_nx, acR_re, acR_ca, acR_no, acR_if, Kc_i, Kc_n, a_lg, a_ls, a_kl, a_pk, a_sw, cw_n, cw_i, cw_l, cw_r, List.length_cons, List.length_nil, List.getElem?_cons_succ, List.getElem?_cons_zero, ↓reduceIte, decide_true, decide_false, Bool.false_eq_true, or_true, true_or, or_false, false_or, or_self, and_true, true_and, not_true_eq_false, not_false_eq_true, Nat.reduceEqDiff, Nat.reduceLT, Nat.reduceLeDiff, Nat.reduceAdd, Nat.reduceSub, Nat.reduceMul, Nat.reduceDiv, Nat.reduceMod, Nat.zero_add, Nat.add_zero, n_z, n_1, n_ltz, n_zlt, n_lt, n_eq, n_cl, n_in, nI_add, pk_mul, n_div, n_sub, nm_mod, hk, m_isAt ha k31, q1]
      exact yes (by rw [q1]; rfl)
    | false =>
      cases q2 : hK b k with
      | true =>
        simp (disch := first | assumption | omega) only [r_175_0, r_175_1, r_175_2, r_175_3, r_175_7, r_175_9, r_175_12, r_175_13, r_175_15, r_175_18, r_175_21, r_175_22, r_175_24, r_175_27, r_175_31, r_175_34, r_175_35, r_175_37, r_175_38, r_175_41, r_175_44, r_175_47, r_175_48, o_cge, o_eq, o_get, o_go, o_ias, o_inc, o_ivs, o_ldi, o_ne, o_pi, o_ri, o_sti, acR_nx, acR_re, acR_ca, acR_no, acR_if, Kc_i, Kc_n, a_lg, a_ls, a_kl, a_pk, a_sw, cw_n, cw_i, cw_l, cw_r, List.length_cons, List.length_nil, List.getElem?_cons_succ, List.getElem?_cons_zero, ↓reduceIte, decide_true, decide_false, Bool.false_eq_true, or_true, true_or, or_false, false_or, or_self, and_true, true_and, not_true_eq_false, not_false_eq_true, Nat.reduceEqDiff, Nat.reduceLT, Nat.reduceLeDiff, Nat.reduceAdd, Nat.reduceSub, Nat.reduceMul, Nat.reduceDiv, Nat.reduceMod, Nat.zero_add, Nat.add_zero, n_z, n_1, n_ltz, n_zlt, n_lt, n_eq, n_cl, n_in, nI_add, pk_mul, n_div, n_sub, nm_mod, hk, m_isAt ha k31, m_isAt hb k31, q1, q2]
        exact yes (by rw [q1, q2]; rfl)
      | false =>
        rw [if_neg (by rw [q1, q2]; decide)] at ih
        simp (disch := first | assumption | omega) only [r_175_0, r_175_1, r_175_2, r_175_3, r_175_7, r_175_9, r_175_12, r_175_13, r_175_15, r_175_18, r_175_21, r_175_22, r_175_24, r_175_27, r_175_31, r_175_34, r_175_35, r_175_37, r_175_38, r_175_41, r_175_44, r_175_47, r_175_48, o_cge, o_eq, o_get, o_go, o_ias, o_inc, o_ivs, o_ldi, o_ne, o_pi, o_ri, o_sti, acR_nx, acR_re, acR_ca, acR_no, acR_if, Kc_i, Kc_n, a_lg, a_ls, a_kl, a_pk, a_sw, cw_n, cw_i, cw_l, cw_r, List.length_cons, List.length_nil, List.getElem?_cons_succ, List.getElem?_cons_zero, ↓reduceIte, decide_true, decide_false, Bool.false_eq_true, or_true, true_or, or_false, false_or, or_self, and_true, true_and, not_true_eq_false, not_false_eq_true, Nat.reduceEqDiff, Nat.reduceLT, Nat.reduceLeDiff, Nat.reduceAdd, Nat.reduceSub, Nat.reduceMul, Nat.reduceDiv, Nat.reduceMod, Nat.zero_add, Nat.add_zero, n_z, n_1, n_ltz, n_zlt, n_lt, n_eq, n_cl, n_in, nI_add, pk_mul, n_div, n_sub, nm_mod, hk, m_isAt ha k31, m_isAt hb k31, q1, q2]
        exact ih G hG)
  have k0 := key (σ.1 70) (fun j hj => by simp [KL] at hj)
  rw [sc_id] at k0
  simp (disch := first | assumption | omega) only [cl_175, r_175_0, r_175_1, r_175_2, r_175_3, r_175_7, r_175_9, r_175_12, r_175_13, r_175_15, r_175_18, r_175_21, r_175_22, r_175_24, r_175_27, r_175_30, r_175_31, r_175_34, r_175_35, r_175_37, r_175_38, r_175_41, r_175_44, r_175_47, r_175_48, o_cge, o_eq, o_get, o_go, o_ias, o_inc, o_ivs, o_lda, o_ldi, o_ne, o_pi, o_ri, o_sti, acR_nx, acR_re, acR_ca, acR_no, acR_if, Kc_i, Kc_n, a_lg, a_ls, a_kl, a_pk, a_sw, cw_n, cw_i, cw_l, cw_r, List.length_cons, List.length_nil, List.getElem?_cons_succ, List.getElem?_cons_zero, ↓reduceIte, decide_true, decide_false, Bool.false_eq_true, or_true, true_or, or_false, false_or, or_self, and_true, true_and, not_true_eq_false, not_false_eq_true, Nat.reduceEqDiff, Nat.reduceLT, Nat.reduceLeDiff, Nat.reduceAdd, Nat.reduceSub, Nat.reduceMul, Nat.reduceDiv, Nat.reduceMod, Nat.zero_add, Nat.add_zero, n_z, n_1, n_ltz, n_zlt, n_lt, n_eq, n_cl, n_in, nI_add, pk_mul, n_div, n_sub, nm_mod]
  exact k0
/-! what a knot holds, with twine -/
def sN (f : Nat → Int32) (k : Nat) : Nat := (f (20 + k)).toNatClampNeg
def moN (f : Nat → Int32) (k : Nat) : Nat := if sN f k = 0 then 0 else 9 - sN f k
def byI (f : Nat → Int32) (k tw : Nat) : Int32 := mK (f (4 + k)) (nI (if sN f k = 0 then 0 else sN f k + tw)) (f 0) (kRt (fun j => f (20 + j)) k)
def byN (f : Nat → Int32) (k tw : Nat) : Nat := (byI f k tw).toNatClampNeg
theorem sN_ok {N : Nat} {f : Nat → Int32} (hv : vN N f) {k : Nat} (hk : k < 16) : f (20 + k) = nI (sN f k) ∧ sN f k ≤ 9 := by
  obtain ⟨d, hd, e⟩ := (hv.2.2.2.2.1 k hk).2.1
  unfold sN
  rw [e, n_cl (by omega)]
  exact ⟨rfl, hd⟩
theorem mK_N : ∀ d : Fin 6, ∀ e : Fin 10, ∀ r : Fin 2, ∀ t : Fin 10, mK (nI d.val) (nI e.val) (nI r.val) (nI t.val) = nI (mK (nI d.val) (nI e.val) (nI r.val) (nI t.val)).toNatClampNeg ∧ (mK (nI d.val) (nI e.val) (nI r.val) (nI t.val)).toNatClampNeg ≤ 21 := by decide +kernel
theorem hb_ok {N : Nat} {f : Nat → Int32} (hv : vN N f) {k tw : Nat} (hk : k < 16) (ht : tw ≤ moN f k) : byI f k tw = nI (byN f k tw) ∧ byN f k tw ≤ 21 := by
  obtain ⟨d, hd, e1⟩ := (hv.2.2.2.2.1 k hk).1
  obtain ⟨rt, hrt, e2⟩ := kRt_ok (vKn_of hv) hk
  have hs := (sN_ok hv hk).2
  unfold byN byI
  rw [e1, e2]
  unfold moN at ht
  have hr : ∃ r : Fin 2, f 0 = nI r.val := by
    rcases hv.1 with e | e
    · exact ⟨0, e⟩
    · exact ⟨1, e⟩
  obtain ⟨r, er⟩ := hr
  rw [er]
  have bound : (if sN f k = 0 then 0 else sN f k + tw) < 10 := by
    by_cases q : sN f k = 0
    · rw [if_pos q]; omega
    · rw [if_neg q] at ht ⊢; omega
  exact mK_N ⟨d, by omega⟩ ⟨_, bound⟩ r ⟨rt, by omega⟩
theorem m_less {x y : Nat} (hx : x < 2147483648) (hy : y < 2147483648) (σ : a_HP) (Q : Option Value → a_HP → Prop) : Cl 174 [.int (nI x), .int (nI y)] σ Q = Q (some (.int (nI (x - y)))) σ := by
  by_cases h : y < x
  · have h' : ¬ x ≤ y := by omega
    simp (disch := first | assumption | omega) only [cl_174, r_174_0, r_174_1, r_174_2, r_174_5, r_174_6, r_174_7, r_174_8, r_174_11, r_174_12, f_sub, o_bi, o_cle, o_go, o_ldi, o_pi, o_ri, acR_nx, acR_re, acR_ca, acR_no, acR_if, Kc_i, Kc_n, a_lg, a_ls, a_kl, a_pk, a_sw, cw_n, cw_i, cw_l, cw_r, List.length_cons, List.length_nil, List.getElem?_cons_succ, List.getElem?_cons_zero, ↓reduceIte, decide_true, decide_false, Bool.false_eq_true, or_true, true_or, or_false, false_or, or_self, and_true, true_and, not_true_eq_false, not_false_eq_true, Nat.reduceEqDiff, Nat.reduceLT, Nat.reduceLeDiff, Nat.reduceAdd, Nat.reduceSub, Nat.reduceMul, Nat.reduceDiv, Nat.reduceMod, Nat.zero_add, Nat.add_zero, n_z, n_1, n_ltz, n_zlt, n_lt, n_eq, n_cl, n_in, nI_add, pk_mul, n_div, n_sub, nm_mod, h]
  · simp (disch := first | assumption | omega) only [cl_174, r_174_0, r_174_1, r_174_2, r_174_5, r_174_6, r_174_7, r_174_8, r_174_11, r_174_12, f_sub, o_bi, o_cle, o_go, o_ldi, o_pi, o_ri, acR_nx, acR_re, acR_ca, acR_no, acR_if, Kc_i, Kc_n, a_lg, a_ls, a_kl, a_pk, a_sw, cw_n, cw_i, cw_l, cw_r, List.length_cons, List.length_nil, List.getElem?_cons_succ, List.getElem?_cons_zero, ↓reduceIte, decide_true, decide_false, Bool.false_eq_true, or_true, true_or, or_false, false_or, or_self, and_true, true_and, not_true_eq_false, not_false_eq_true, Nat.reduceEqDiff, Nat.reduceLT, Nat.reduceLeDiff, Nat.reduceAdd, Nat.reduceSub, Nat.reduceMul, Nat.reduceDiv, Nat.reduceMod, Nat.zero_add, Nat.add_zero, n_z, n_1, n_ltz, n_zlt, n_lt, n_eq, n_cl, n_in, nI_add, pk_mul, n_div, n_sub, nm_mod, h]
    rw [show x - y = 0 by omega]
theorem m_place (i x y : Nat) (σ : a_HP) (Q : Option Value → a_HP → Prop) : Cl 173 [.int (nI i), .int (nI x), .int (nI y)] σ Q = Q (some (.int (nI (961 * i + 31 * x + y)))) σ := by
  simp (disch := first | assumption | omega) only [cl_173, r_173_0, r_173_3, r_173_4, r_173_5, r_173_7, r_173_8, r_173_9, r_173_10, r_173_11, r_173_12, f_add, f_mul, o_bi, o_ldi, o_pi, o_ri, acR_nx, acR_re, acR_ca, acR_no, acR_if, Kc_i, Kc_n, a_lg, a_ls, a_kl, a_pk, a_sw, cw_n, cw_i, cw_l, cw_r, List.length_cons, List.length_nil, List.getElem?_cons_succ, List.getElem?_cons_zero, ↓reduceIte, decide_true, decide_false, Bool.false_eq_true, or_true, true_or, or_false, false_or, or_self, and_true, true_and, not_true_eq_false, not_false_eq_true, Nat.reduceEqDiff, Nat.reduceLT, Nat.reduceLeDiff, Nat.reduceAdd, Nat.reduceSub, Nat.reduceMul, Nat.reduceDiv, Nat.reduceMod, Nat.zero_add, Nat.add_zero, n_z, n_1, n_ltz, n_zlt, n_lt, n_eq, n_cl, n_in, nI_add, pk_mul, n_div, n_sub, nm_mod]
theorem m_mostFor {N : Nat} {σ : a_HP} (hv : vN N (σ.1 62)) {k : Nat} (hk : k < 16) (Q : Option Value → a_HP → Prop) : Cl 176 [.ref 61, .int (nI k)] σ Q = Q (some (.int (nI (moN (σ.1 62) k)))) σ := by
  obtain ⟨e, hs⟩ := sN_ok hv hk
  have e20 : 20 + k < 481 := by omega
  unfold moN
  by_cases q : sN (σ.1 62) k = 0
  · simp (disch := first | assumption | omega) only [cl_176, r_176_0, r_176_1, r_176_4, r_176_6, r_176_7, r_176_8, r_176_9, r_176_12, r_176_13, r_176_16, r_176_18, r_176_19, r_176_22, r_176_24, r_176_25, r_176_26, r_176_27, r_176_28, f_add, f_sub, o_bi, o_get, o_go, o_ial, o_lda, o_ldi, o_ne, o_pi, o_ri, acR_nx, acR_re, acR_ca, acR_no, acR_if, Kc_i, Kc_n, a_lg, a_ls, a_kl, a_pk, a_sw, cw_n, cw_i, cw_l, cw_r, List.length_cons, List.length_nil, List.getElem?_cons_succ, List.getElem?_cons_zero, ↓reduceIte, decide_true, decide_false, Bool.false_eq_true, or_true, true_or, or_false, false_or, or_self, and_true, true_and, not_true_eq_false, not_false_eq_true, Nat.reduceEqDiff, Nat.reduceLT, Nat.reduceLeDiff, Nat.reduceAdd, Nat.reduceSub, Nat.reduceMul, Nat.reduceDiv, Nat.reduceMod, Nat.zero_add, Nat.add_zero, n_z, n_1, n_ltz, n_zlt, n_lt, n_eq, n_cl, n_in, nI_add, pk_mul, n_div, n_sub, nm_mod, ly_61, ly_62, e20, e, q]
  · simp (disch := first | assumption | omega) only [cl_176, r_176_0, r_176_1, r_176_4, r_176_6, r_176_7, r_176_8, r_176_9, r_176_12, r_176_13, r_176_16, r_176_18, r_176_19, r_176_22, r_176_24, r_176_25, r_176_26, r_176_27, r_176_28, f_add, f_sub, o_bi, o_get, o_go, o_ial, o_lda, o_ldi, o_ne, o_pi, o_ri, acR_nx, acR_re, acR_ca, acR_no, acR_if, Kc_i, Kc_n, a_lg, a_ls, a_kl, a_pk, a_sw, cw_n, cw_i, cw_l, cw_r, List.length_cons, List.length_nil, List.getElem?_cons_succ, List.getElem?_cons_zero, ↓reduceIte, decide_true, decide_false, Bool.false_eq_true, or_true, true_or, or_false, false_or, or_self, and_true, true_and, not_true_eq_false, not_false_eq_true, Nat.reduceEqDiff, Nat.reduceLT, Nat.reduceLeDiff, Nat.reduceAdd, Nat.reduceSub, Nat.reduceMul, Nat.reduceDiv, Nat.reduceMod, Nat.zero_add, Nat.add_zero, n_z, n_1, n_ltz, n_zlt, n_lt, n_eq, n_cl, n_in, nI_add, pk_mul, n_div, n_sub, nm_mod, ly_61, ly_62, e20, e, q]
def stM (f : Nat → Int32) (a b k tw : Nat) (s : Nat × Nat) : Nat × Nat := (if hK a k = true then s.1 - byN f k tw else s.1, if hK b k = true then s.2 - byN f k tw else s.2)
def okM (s : Nat × Nat) : Bool := decide (s.1 + s.2 = 0)
theorem m_leastBy {N : Nat} {σ : a_HP} (hv : vN N (σ.1 62)) {a b i k x y tw c : Nat} (ha : a < 9) (hb : b < 9) (hi : i < 8) (hk : k < 16) (hx : x < 31) (hy : y < 31) (ht : tw ≤ moN (σ.1 62) k) (h70 : σ.1 70 i = nI k) (hT : σ.1 71 (961 * (i + 1) + 31 * (stM (σ.1 62) a b k tw (x, y)).1 + (stM (σ.1 62) a b k tw (x, y)).2) = nI c) (Q : Option Value → a_HP → Prop) : Cl 177 [.ref 61, .int (nI a), .int (nI b), .int (nI i), .int (nI x), .int (nI y), .int (nI tw)] σ Q = Q (some (.int (nI (tw + c)))) σ := by
  obtain ⟨es, hs⟩ := sN_ok hv hk
  obtain ⟨eb, hb21⟩ := hb_ok hv hk ht
  unfold byI at eb
  have k31 : k < 2147483648 := by omega
  have e20 : 20 + k < 481 := by omega
  have e4 : 4 + k < 481 := by omega
  unfold stM at hT
  have hm : ∀ s, s = (if sN (σ.1 62) k = 0 then 0 else sN (σ.1 62) k + tw) → mK (σ.1 62 (4 + k)) (nI s) (σ.1 62 0) (kRt (fun j => σ.1 62 (20 + j)) k) = nI (byN (σ.1 62) k tw) := fun s h => by rw [h]; exact eb
  generalize byN (σ.1 62) k tw = by' at *
  by_cases q : sN (σ.1 62) k = 0
  · have hm0 := hm 0 (by rw [if_pos q])
    rw [q] at es
    cases qa : hK a k <;> cases qb : hK b k
    all_goals simp only [qa, qb, Bool.false_eq_true, if_true, if_false] at hT
    all_goals simp (disch := first | assumption | omega) only [cl_177, r_177_0, r_177_1, r_177_4, r_177_5, r_177_6, r_177_8, r_177_9, r_177_12, r_177_14, r_177_16, r_177_17, r_177_18, r_177_20, r_177_21, r_177_24, r_177_25, r_177_27, r_177_28, r_177_29, r_177_31, r_177_34, r_177_35, r_177_38, r_177_40, r_177_42, r_177_43, r_177_44, r_177_47, r_177_48, r_177_49, r_177_50, r_177_53, r_177_55, r_177_58, r_177_61, r_177_63, r_177_65, r_177_66, r_177_69, r_177_70, r_177_71, r_177_72, r_177_73, r_177_75, r_177_78, r_177_81, r_177_83, r_177_85, r_177_88, r_177_91, r_177_93, r_177_94, r_177_96, r_177_99, r_177_102, r_177_104, r_177_106, r_177_109, r_177_112, r_177_114, r_177_117, r_177_118, r_177_119, f_add, o_bi, o_eq, o_get, o_go, o_ial, o_ivs, o_lda, o_ldi, o_ne, o_pi, o_ri, o_sti, acR_nx, acR_re, acR_ca, acR_no, acR_if, Kc_i, Kc_n, a_lg, a_ls, a_kl, a_pk, a_sw, cw_n, cw_i, cw_l, cw_r, List.length_cons, List.length_nil, List.getElem?_cons_succ, List.getElem?_cons_zero, ↓reduceIte, decide_true, decide_false, Bool.false_eq_true, or_true, true_or, or_false, false_or, or_self, and_true, true_and, not_true_eq_false, not_false_eq_true, Nat.reduceEqDiff, Nat.reduceLT, Nat.reduceLeDiff, Nat.reduceAdd, Nat.reduceSub, Nat.reduceMul, Nat.reduceDiv, Nat.reduceMod, Nat.zero_add, Nat.add_zero, n_z, n_1, n_ltz, n_zlt, n_lt, n_eq, n_cl, n_in, nI_add, pk_mul, n_div, n_sub, nm_mod, ly_61, ly_62, ly_70, ly_71, hi, h70, e20, e4, es, m_rightOf aT_62 hk, m_holding, hm0, m_isAt ha k31, m_isAt hb k31, qa, qb, m_less, m_place, hT]
    all_goals rw [if_pos (decide_eq_true (by omega))]
  · have hm0 := hm (sN (σ.1 62) k + tw) (by rw [if_neg q])
    cases qa : hK a k <;> cases qb : hK b k
    all_goals simp only [qa, qb, Bool.false_eq_true, if_true, if_false] at hT
    all_goals simp (disch := first | assumption | omega) only [cl_177, r_177_0, r_177_1, r_177_4, r_177_5, r_177_6, r_177_8, r_177_9, r_177_12, r_177_14, r_177_16, r_177_17, r_177_18, r_177_20, r_177_21, r_177_24, r_177_25, r_177_27, r_177_28, r_177_29, r_177_31, r_177_34, r_177_35, r_177_38, r_177_40, r_177_42, r_177_43, r_177_44, r_177_47, r_177_48, r_177_49, r_177_50, r_177_53, r_177_55, r_177_58, r_177_61, r_177_63, r_177_65, r_177_66, r_177_69, r_177_70, r_177_71, r_177_72, r_177_73, r_177_75, r_177_78, r_177_81, r_177_83, r_177_85, r_177_88, r_177_91, r_177_93, r_177_94, r_177_96, r_177_99, r_177_102, r_177_104, r_177_106, r_177_109, r_177_112, r_177_114, r_177_117, r_177_118, r_177_119, f_add, o_bi, o_eq, o_get, o_go, o_ial, o_ivs, o_lda, o_ldi, o_ne, o_pi, o_ri, o_sti, acR_nx, acR_re, acR_ca, acR_no, acR_if, Kc_i, Kc_n, a_lg, a_ls, a_kl, a_pk, a_sw, cw_n, cw_i, cw_l, cw_r, List.length_cons, List.length_nil, List.getElem?_cons_succ, List.getElem?_cons_zero, ↓reduceIte, decide_true, decide_false, Bool.false_eq_true, or_true, true_or, or_false, false_or, or_self, and_true, true_and, not_true_eq_false, not_false_eq_true, Nat.reduceEqDiff, Nat.reduceLT, Nat.reduceLeDiff, Nat.reduceAdd, Nat.reduceSub, Nat.reduceMul, Nat.reduceDiv, Nat.reduceMod, Nat.zero_add, Nat.add_zero, n_z, n_1, n_ltz, n_zlt, n_lt, n_eq, n_cl, n_in, nI_add, pk_mul, n_div, n_sub, nm_mod, ly_61, ly_62, ly_70, ly_71, hi, h70, e20, e4, es, q, m_rightOf aT_62 hk, m_holding, hm0, m_isAt ha k31, m_isAt hb k31, qa, qb, m_less, m_place, hT]
    all_goals rw [if_pos (decide_eq_true (by omega))]
