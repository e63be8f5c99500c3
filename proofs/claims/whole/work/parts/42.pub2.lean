/-! wide, net, tie, mend, drop, night, undo -/
theorem c_wide_bad {c n : Int32} (h : (c < nI 0 ∨ nI 8 < c) ∨ (n < nI 0 ∨ nI 30 < n)) (σ : a_HP) (Q : Option Value → a_HP → Prop) : Cl 55 [.ref 0, .int c, .int n] σ Q = Q (some (.int (-2))) (a_wi σ 17 0 (σ.1 17 0 + nI 1)) := by
  simp (disch := first | assumption | omega) only [cl_55, r_55_0, r_55_1, r_55_2, r_55_5, r_55_8, r_55_9, r_55_12, r_55_13, r_55_14, r_55_17, r_55_20, r_55_21, r_55_22, r_55_23, r_55_24, r_55_27, r_55_30, r_55_31, r_55_32, r_55_33, r_55_34, o_get, o_ial, o_ias, o_ivs, o_ivv, o_lda, o_ldi, o_ne, o_ri, o_sti, acR_nx, acR_re, acR_ca, acR_no, acR_if, Kc_i, Kc_n, a_lg, a_ls, a_kl, a_pk, a_sw, cw_n, cw_i, cw_l, cw_r, List.length_cons, List.length_nil, List.getElem?_cons_succ, List.getElem?_cons_zero, ↓reduceIte, decide_true, decide_false, Bool.false_eq_true, or_true, true_or, or_false, false_or, or_self, and_true, true_and, not_true_eq_false, not_false_eq_true, Nat.reduceEqDiff, Nat.reduceLT, Nat.reduceLeDiff, Nat.reduceAdd, Nat.reduceSub, Nat.reduceMul, Nat.reduceDiv, Nat.reduceMod, Nat.zero_add, Nat.add_zero, n_z, n_1, n_ltz, n_zlt, n_lt, n_eq, n_cl, n_in, nI_add, pk_mul, n_div, n_sub, nm_mod, ly_0, ly_1, c_wideFits, h, c_bad]
theorem c_wide {c : Nat} (hc : c < 9) {n : Int32} (h : ¬ ((nI c < nI 0 ∨ nI 8 < nI c) ∨ (n < nI 0 ∨ nI 30 < n))) (σ : a_HP) (Q : Option Value → a_HP → Prop) : Cl 55 [.ref 0, .int (nI c), .int n] σ Q = Q (some (.int (σ.1 5 c))) (a_wi σ 5 c n) := by
  simp (disch := first | assumption | omega) only [cl_55, r_55_0, r_55_1, r_55_2, r_55_5, r_55_8, r_55_9, r_55_12, r_55_13, r_55_14, r_55_17, r_55_20, r_55_21, r_55_22, r_55_23, r_55_24, r_55_27, r_55_30, r_55_31, r_55_32, r_55_33, r_55_34, o_get, o_ial, o_ias, o_ivs, o_ivv, o_lda, o_ldi, o_ne, o_ri, o_sti, acR_nx, acR_re, acR_ca, acR_no, acR_if, Kc_i, Kc_n, a_lg, a_ls, a_kl, a_pk, a_sw, cw_n, cw_i, cw_l, cw_r, List.length_cons, List.length_nil, List.getElem?_cons_succ, List.getElem?_cons_zero, ↓reduceIte, decide_true, decide_false, Bool.false_eq_true, or_true, true_or, or_false, false_or, or_self, and_true, true_and, not_true_eq_false, not_false_eq_true, Nat.reduceEqDiff, Nat.reduceLT, Nat.reduceLeDiff, Nat.reduceAdd, Nat.reduceSub, Nat.reduceMul, Nat.reduceDiv, Nat.reduceMod, Nat.zero_add, Nat.add_zero, n_z, n_1, n_cl, n_in, ly_0, ly_1, ly_5, c_wideFits, h, hc]
theorem m_wide_bad {c n : Int32} (h : (c < nI 0 ∨ nI 8 < c) ∨ (n < nI 0 ∨ nI 30 < n)) (σ : a_HP) (Q : Option Value → a_HP → Prop) : Cl 149 [.ref 61, .int c, .int n] σ Q = Q (some (.int (-2))) (a_wi σ 68 0 (σ.1 68 0 + nI 1)) := by
  simp (disch := first | assumption | omega) only [cl_149, r_149_0, r_149_1, r_149_4, r_149_7, r_149_8, r_149_9, r_149_10, r_149_13, r_149_16, r_149_19, r_149_20, r_149_22, r_149_23, r_149_24, r_149_25, r_149_28, r_149_31, r_149_32, r_149_35, f_add, o_bi, o_eq, o_go, o_i2l, o_ivs, o_ivv, o_lda, o_ldi, o_pi, o_pl, o_ri, acR_nx, acR_re, acR_ca, acR_no, acR_if, Kc_i, Kc_n, a_lg, a_ls, a_kl, a_pk, a_sw, cw_n, cw_i, cw_l, cw_r, List.length_cons, List.length_nil, List.getElem?_cons_succ, List.getElem?_cons_zero, ↓reduceIte, decide_true, decide_false, Bool.false_eq_true, or_true, true_or, or_false, false_or, or_self, and_true, true_and, not_true_eq_false, not_false_eq_true, Nat.reduceEqDiff, Nat.reduceLT, Nat.reduceLeDiff, Nat.reduceAdd, Nat.reduceSub, Nat.reduceMul, Nat.reduceDiv, Nat.reduceMod, Nat.zero_add, Nat.add_zero, n_z, n_1, n_ltz, n_zlt, n_lt, n_eq, n_cl, n_in, nI_add, pk_mul, n_div, n_sub, nm_mod, ly_61, m_isClause, m_in, l_lt, l_gt, m_bad]
  by_cases h1 : c < nI 0 ∨ nI 8 < c
  · rw [if_pos h1]
  · rw [if_neg h1, if_pos (h.resolve_left h1)]
theorem m_wide {c : Nat} (hc : c < 9) {n : Int32} (h : ¬ (n < nI 0 ∨ nI 30 < n)) (σ : a_HP) (Q : Option Value → a_HP → Prop) : Cl 149 [.ref 61, .int (nI c), .int n] σ Q = Q (some (.int (σ.1 62 (52 + c)))) (a_wi σ 62 (52 + c) n) := by
  have h1 : ¬ (nI c < nI 0 ∨ nI 8 < nI c) := by rw [n_lt (by omega) (by omega), n_lt (by omega) (by omega)]; omega
  simp (disch := first | assumption | omega) only [cl_149, r_149_0, r_149_1, r_149_4, r_149_7, r_149_8, r_149_9, r_149_10, r_149_13, r_149_16, r_149_19, r_149_20, r_149_22, r_149_23, r_149_24, r_149_25, r_149_28, r_149_31, r_149_32, r_149_35, f_add, o_bi, o_eq, o_go, o_i2l, o_ivs, o_ivv, o_lda, o_ldi, o_pi, o_pl, o_ri, acR_nx, acR_re, acR_ca, acR_no, acR_if, Kc_i, Kc_n, a_lg, a_ls, a_kl, a_pk, a_sw, cw_n, cw_i, cw_l, cw_r, List.length_cons, List.length_nil, List.getElem?_cons_succ, List.getElem?_cons_zero, ↓reduceIte, decide_true, decide_false, Bool.false_eq_true, or_true, true_or, or_false, false_or, or_self, and_true, true_and, not_true_eq_false, not_false_eq_true, Nat.reduceEqDiff, Nat.reduceLT, Nat.reduceLeDiff, Nat.reduceAdd, Nat.reduceSub, Nat.reduceMul, Nat.reduceDiv, Nat.reduceMod, Nat.zero_add, Nat.add_zero, n_z, n_1, n_cl, n_in, nI_add, ly_61, m_isClause, h1, m_in, l_lt, l_gt, h, m_becomes]
theorem pr_wide {N : Nat} {σ : a_HP} (h : Inv N σ) (c n : Int32) : Pair N 55 149 [.int c, .int n] σ := by
  unfold Pair
  by_cases hc : (c < nI 0 ∨ nI 8 < c) ∨ (n < nI 0 ∨ nI 30 < n)
  · rw [c_wide_bad hc, m_wide_bad hc]
    exact ⟨⟨_, rfl, rfl⟩, Inv_ref h (by omega)⟩
  · obtain ⟨d, -, h2, rfl⟩ := rng (by omega) (by omega) (fun q => hc (Or.inl q))
    obtain ⟨w, -, h4, rfl⟩ := rng (by omega) (by omega) (fun q => hc (Or.inr q))
    rw [c_wide (by omega) hc, m_wide (by omega) (fun q => hc (Or.inr q))]
    obtain ⟨⟨⟨e1, e2, e3⟩, v, hp, hr⟩, a2, a3, a4, a5, a6⟩ := Inv_N (Nat.le_succ N) h
    refine ⟨⟨_, rfl, ?_⟩, ⟨⟨fun j hj => ?_, fun k hk => ?_, fun c hc => ?_⟩, ?_, pP_f hp (fun j hj => ?_), pR_f hr (fun j hj hj2 => ?_)⟩, a2, a3, a4, a5, a6⟩
    · exact congrArg (fun z => some (Value.int z)) (e3 d (by omega)).symm
    · show σ.1 1 j = upd (σ.1 62) (52 + d) (nI w) j
      rw [ud_1, if_neg (by omega)]; exact e1 j hj
    · show σ.1 2 k = upd (σ.1 62) (52 + d) (nI w) (4 + k) ∧ σ.1 3 k = upd (σ.1 62) (52 + d) (nI w) (20 + k) ∧ σ.1 4 k = upd (σ.1 62) (52 + d) (nI w) (36 + k)
      rw [ud_1, if_neg (by omega), ud_1, if_neg (by omega), ud_1, if_neg (by omega)]; exact e2 k hk
    · show upd (σ.1 5) d (nI w) c = upd (σ.1 62) (52 + d) (nI w) (52 + c)
      simp only [ud_1]
      by_cases q : c = d
      · rw [if_pos q, if_pos (by omega)]
      · rw [if_neg q, if_neg (by omega)]; exact e3 c hc
    · obtain ⟨g0, g1, g2, g3, g4, g5⟩ := v
      show vN (N + 1) (upd (σ.1 62) (52 + d) (nI w))
      refine ⟨?_, ?_, ?_, ?_, fun k hk => ?_, fun c hc => ?_⟩
      · rw [ud_1, if_neg (by omega)]; exact g0
      · rw [ud_1, if_neg (by omega)]; exact g1
      · rw [ud_1, if_neg (by omega)]; exact g2
      · rw [ud_1, if_neg (by omega)]; exact g3
      · rw [ud_1, if_neg (by omega), ud_1, if_neg (by omega), ud_1, if_neg (by omega)]; exact g4 k hk
      · rw [ud_1]
        by_cases q : 52 + c = 52 + d
        · rw [if_pos q]; exact ⟨w, h4, rfl⟩
        · rw [if_neg q]; exact g5 c hc
    · show upd (σ.1 62) (52 + d) (nI w) j = σ.1 62 j
      rw [ud_1, if_neg (by omega)]
    · show upd (σ.1 62) (52 + d) (nI w) j = σ.1 62 j
      rw [ud_1, if_neg (by omega)]
/-! net -/
theorem c_net {r t : Int32} (σ : a_HP) (Q : Option Value → a_HP → Prop) : Cl 51 [.ref 0, .int r, .int t] σ Q = if (r < nI 0 ∨ nI 1 < r) ∨ (t < nI 0 ∨ nI 99 < t) then Q (some (.int (-2))) (a_wi σ 17 0 (σ.1 17 0 + nI 1)) else Q (some (.int (tK (σ.1 3) 16))) (a_wi (a_wi (hNew σ r t) 6 0 (nI 0)) 8 0 (nI 0)) := by
  simp (disch := first | assumption | omega) only [cl_51, r_51_0, r_51_1, r_51_2, r_51_5, r_51_8, r_51_9, r_51_12, r_51_13, r_51_14, r_51_17, r_51_20, r_51_21, r_51_22, r_51_23, r_51_24, r_51_27, r_51_28, o_get, o_ivs, o_ivv, o_lda, o_ldi, o_ne, o_ri, o_sti, acR_nx, acR_re, acR_ca, acR_no, acR_if, Kc_i, Kc_n, a_lg, a_ls, a_kl, a_pk, a_sw, cw_n, cw_i, cw_l, cw_r, List.length_cons, List.length_nil, List.getElem?_cons_succ, List.getElem?_cons_zero, ↓reduceIte, decide_true, decide_false, Bool.false_eq_true, or_true, true_or, or_false, false_or, or_self, and_true, true_and, not_true_eq_false, not_false_eq_true, Nat.reduceEqDiff, Nat.reduceLT, Nat.reduceLeDiff, Nat.reduceAdd, Nat.reduceSub, Nat.reduceMul, Nat.reduceDiv, Nat.reduceMod, Nat.zero_add, Nat.add_zero, n_z, n_1, n_ltz, n_zlt, n_lt, n_eq, n_cl, n_in, nI_add, pk_mul, n_div, n_sub, nm_mod, ly_0, ly_1, c_netFits, c_bad, c_tied aN_1, c_tellAnew]
theorem m_net {N : Nat} {r t : Int32} (σ : a_HP) (hv : vN N (σ.1 62)) (Q : Option Value → a_HP → Prop) : Cl 144 [.ref 61, .int r, .int t] σ Q = if (r < nI 0 ∨ nI 1 < r) ∨ (t < nI 0 ∨ nI 99 < t) then Q (some (.int (-2))) (a_wi σ 68 0 (σ.1 68 0 + nI 1)) else Q (some (.int (tK (fun j => σ.1 62 (20 + j)) 16))) (a_sc σ 62 (fun j => if j < 481 then pBg r t j else σ.1 62 j)) := by
  have hv' := vKn_of hv
  simp (disch := first | assumption | omega) only [cl_144, r_144_0, r_144_1, r_144_4, r_144_7, r_144_8, r_144_9, r_144_10, r_144_13, r_144_16, r_144_19, r_144_20, r_144_23, r_144_24, r_144_25, r_144_28, r_144_31, r_144_32, r_144_33, r_144_36, r_144_37, r_144_38, r_144_41, r_144_42, o_eq, o_get, o_i2l, o_ivs, o_ivv, o_lda, o_ldi, o_ne, o_pl, o_ri, o_sti, acR_nx, acR_re, acR_ca, acR_no, acR_if, Kc_i, Kc_n, a_lg, a_ls, a_kl, a_pk, a_sw, cw_n, cw_i, cw_l, cw_r, List.length_cons, List.length_nil, List.getElem?_cons_succ, List.getElem?_cons_zero, ↓reduceIte, decide_true, decide_false, Bool.false_eq_true, or_true, true_or, or_false, false_or, or_self, and_true, true_and, not_true_eq_false, not_false_eq_true, Nat.reduceEqDiff, Nat.reduceLT, Nat.reduceLeDiff, Nat.reduceAdd, Nat.reduceSub, Nat.reduceMul, Nat.reduceDiv, Nat.reduceMod, Nat.zero_add, Nat.add_zero, n_z, n_1, n_ltz, n_zlt, n_lt, n_eq, n_cl, n_in, nI_add, pk_mul, n_div, n_sub, nm_mod, ly_61, m_isTwo, m_in, l_lt, l_gt, m_bad, m_knots aT_62, m_begins aT_62]
  by_cases h1 : r < nI 0 ∨ nI 1 < r
  · rw [if_pos h1, if_pos (Or.inl h1)]
  · rw [if_neg h1]
    by_cases h2 : t < nI 0 ∨ nI 99 < t
    · rw [if_pos h2, if_pos (Or.inr h2)]
    · rw [if_neg h2, if_neg (by rintro (q | q); exact h1 q; exact h2 q)]
theorem n_0 : nI 0 = 0 := nI_0
theorem pr_net {N : Nat} {σ : a_HP} (h : Inv N σ) (r t : Int32) : Pair N 51 144 [.int r, .int t] σ := by
  unfold Pair
  obtain ⟨⟨⟨e1, e2, e3⟩, v, hp, hr⟩, a2, a3, a4, a5, a6⟩ := Inv_N (Nat.le_succ N) h
  rw [c_net]
  by_cases hc : (r < nI 0 ∨ nI 1 < r) ∨ (t < nI 0 ∨ nI 99 < t)
  · rw [if_pos hc, m_net (N := N + 1) (a_wi σ 17 0 (σ.1 17 0 + nI 1)) v, if_pos hc]
    exact ⟨⟨_, rfl, rfl⟩, Inv_ref h (by omega)⟩
  · rw [if_neg hc, m_net (N := N + 1) (a_wi (a_wi (hNew σ r t) 6 0 (nI 0)) 8 0 (nI 0)) v, if_neg hc]
    obtain ⟨d, -, h2, rfl⟩ := rng (by omega) (by omega) (fun q => hc (Or.inl q))
    obtain ⟨w, -, h4, rfl⟩ := rng (by omega) (by omega) (fun q => hc (Or.inr q))
    refine ⟨⟨_, rfl, ?_⟩, ⟨⟨fun j hj => ?_, fun k hk => ?_, fun c hc => ?_⟩, ?_, ⟨0, by omega, rfl, rfl, fun j hj => by omega, fun i hi => by omega⟩, ⟨0, by omega, rfl, rfl, fun i hi => by omega⟩⟩, a2, a3, a4, a5, a6⟩
    · exact congrArg (fun z => some (Value.int z)) (tK_c 16 (fun k hk => (e2 k hk).2.1.symm))
    · show upd (upd (upd (upd (σ.1 1) 0 (nI d)) 1 (nI w)) 2 (nI 0)) 3 (nI 0) j = if j < 481 then pBg (nI d) (nI w) j else σ.1 62 j
      rcases (show j = 0 ∨ j = 1 ∨ j = 2 ∨ j = 3 by omega) with rfl | rfl | rfl | rfl <;> rfl
    · show (if k < 16 then nI 0 else σ.1 2 k) = (if 4 + k < 481 then pBg (nI d) (nI w) (4 + k) else σ.1 62 (4 + k)) ∧ (if k < 16 then nI 0 else σ.1 3 k) = (if 20 + k < 481 then pBg (nI d) (nI w) (20 + k) else σ.1 62 (20 + k)) ∧ (if k < 16 then nI 0 else σ.1 4 k) = (if 36 + k < 481 then pBg (nI d) (nI w) (36 + k) else σ.1 62 (36 + k))
      unfold pBg
      refine ⟨?_, ?_, ?_⟩ <;> rw [if_pos hk, if_pos (by omega), if_neg (by omega), if_neg (by omega), if_neg (by omega)]
    · show (if c < 9 then nI 9 else σ.1 5 c) = (if 52 + c < 481 then pBg (nI d) (nI w) (52 + c) else σ.1 62 (52 + c))
      unfold pBg
      rw [if_pos hc, if_pos (by omega), if_neg (by omega), if_neg (by omega), if_pos (by omega)]
    · show vN (N + 1) (fun j => if j < 481 then pBg (nI d) (nI w) j else σ.1 62 j)
      refine ⟨?_, ⟨w, h4, rfl⟩, ⟨0, by omega, rfl⟩, ⟨0, by omega, rfl⟩, fun k hk => ?_, fun c hc => ?_⟩
      · show nI d = nI 0 ∨ nI d = nI 1
        rcases (show d = 0 ∨ d = 1 by omega) with rfl | rfl
        · exact Or.inl rfl
        · exact Or.inr rfl
      · have z : ∀ j, 4 ≤ j → j < 52 → (if j < 481 then pBg (nI d) (nI w) j else σ.1 62 j) = nI 0 := by
          intro j hj hj2
          unfold pBg
          rw [if_pos (by omega), if_neg (by omega), if_neg (by omega), if_neg (by omega)]
        dsimp only
        rw [z (4 + k) (by omega) (by omega), z (20 + k) (by omega) (by omega), z (36 + k) (by omega) (by omega)]
        exact ⟨⟨0, by omega, rfl⟩, ⟨0, by omega, rfl⟩, ⟨0, by omega, rfl⟩⟩
      · dsimp only
        unfold pBg
        rw [if_pos (by omega), if_neg (by omega), if_neg (by omega), if_pos (by omega)]
        exact ⟨9, by omega, rfl⟩
/-! what is kept ahead of an act -/
theorem keep_ex {N : Nat} {σ : a_HP} (h : Inv N σ) : ∃ (pr' f' : Nat → Int32) (m : Nat), (∀ Q, Cl 29 [.ref 6, .ref 1] σ Q = Q none (a_wi (a_sc σ 7 pr') 6 0 (nI m))) ∧ (∀ σ' : a_HP, σ'.1 62 = σ.1 62 → ∀ Q, Cl 150 [.ref 61] σ' Q = Q none (a_sc σ' 62 f')) ∧ (∀ j, j < 80 → f' j = σ.1 62 j) ∧ pP N (upd (σ.1 6) 0 (nI m)) pr' f' := by
  obtain ⟨⟨⟨e1, e2, e3⟩, v, ⟨n, hn, hf, ho, hrow, hvr⟩, hr⟩, -⟩ := h
  obtain ⟨g0, g1, g2, g3, g4, g5⟩ := v
  have row : ∀ j, j < 50 → kRow (σ.1 1) (σ.1 2) (σ.1 3) (σ.1 4) j = (if j < 48 then σ.1 62 (4 + j) else if j = 48 then σ.1 62 1 else σ.1 62 3) := by
    intro j hj
    unfold kRow
    by_cases h1 : j < 16
    · rw [if_pos h1, if_pos (by omega)]; exact (e2 j h1).1
    · by_cases h2 : j < 32
      · rw [if_neg h1, if_pos h2, if_pos (by omega), (e2 (j - 16) (by omega)).2.1, show 20 + (j - 16) = 4 + j by omega]
      · by_cases h3 : j < 48
        · rw [if_neg h1, if_neg h2, if_pos h3, if_pos h3, (e2 (j - 32) (by omega)).2.2, show 36 + (j - 32) = 4 + j by omega]
        · rw [if_neg h1, if_neg h2, if_neg h3, if_neg h3, e1 1 (by omega), e1 3 (by omega)]
  have vrow : vRow N (fun j => if j < 48 then σ.1 62 (4 + j) else if j = 48 then σ.1 62 1 else σ.1 62 3) := by
    refine ⟨fun k hk => ?_, ?_, ?_⟩
    · dsimp only
      rw [if_pos (by omega), if_pos (by omega), if_pos (by omega)]
      have := g4 k hk
      rw [show 4 + (16 + k) = 20 + k by omega, show 4 + (32 + k) = 36 + k by omega]
      exact this
    · exact g1
    · exact g3
  by_cases h8 : n = 8
  · subst h8
    refine ⟨kpF (kRow (σ.1 1) (σ.1 2) (σ.1 3) (σ.1 4)) (fun j => if j < 350 then σ.1 7 (j + 50) else σ.1 7 j) 7, rmF (shF (σ.1 62)) 7, 8, fun Q => c_keep8 σ ho Q, fun σ' e Q => by rw [← e]; exact m_remember8 σ' (by rw [e]; exact hf) Q, fun j hj => ?_, 8, by omega, rfl, rfl, fun j hj => ?_, fun i hi => ?_⟩
    · unfold rmF shF
      rw [if_neg (by omega), if_neg (by omega), if_neg (by omega), if_neg (by omega)]
    · unfold kpF rmF
      by_cases q : 50 * 7 ≤ j ∧ j < 50 * 7 + 50
      · rw [if_pos q, if_neg (by omega), if_pos (by omega), row _ (by omega), show 81 + j - (81 + 50 * 7) = j - 50 * 7 by omega]
        unfold shF
        by_cases q1 : j - 50 * 7 < 48
        · rw [if_pos q1, if_pos q1, if_neg (by omega), if_neg (by omega)]
        · rw [if_neg q1, if_neg q1]
          rfl
      · rw [if_neg q, if_neg (by omega), if_neg (by omega)]
        unfold shF
        dsimp only
        rw [if_pos (by omega), if_neg (by omega), if_pos (by omega), show 81 + j + 50 = 81 + (j + 50) by omega]
        exact hrow (j + 50) (by omega)
    · by_cases q : i = 7
      · subst q
        have : (fun j => rmF (shF (σ.1 62)) 7 (81 + 50 * 7 + j)) = (fun j => if j < 50 then (if j < 48 then σ.1 62 (4 + j) else if j = 48 then σ.1 62 1 else σ.1 62 3) else rmF (shF (σ.1 62)) 7 (81 + 50 * 7 + j)) := by
          funext j
          by_cases hj : j < 50
          · rw [if_pos hj]
            unfold rmF shF
            rw [if_neg (by omega), if_pos (by omega), show 81 + 50 * 7 + j - (81 + 50 * 7) = j by omega]
            by_cases q1 : j < 48
            · rw [if_pos q1, if_pos q1, if_neg (by omega), if_neg (by omega)]
            · rw [if_neg q1, if_neg q1]
              rfl
          · rw [if_neg hj]
        rw [this]
        refine ⟨fun k hk => ?_, vrow.2.1, vrow.2.2⟩
        have := vrow.1 k hk
        dsimp only at this ⊢
        rw [if_pos (show k < 50 by omega), if_pos (show 16 + k < 50 by omega), if_pos (show 32 + k < 50 by omega)]
        exact this
      · have hv := hvr (i + 1) (by omega)
        have e : ∀ j, j < 50 → rmF (shF (σ.1 62)) 7 (81 + 50 * i + j) = σ.1 62 (81 + 50 * (i + 1) + j) := by
          intro j hj
          unfold rmF shF
          rw [if_neg (by omega), if_neg (by omega), if_neg (by omega), if_pos (by omega), show 81 + 50 * i + j + 50 = 81 + 50 * (i + 1) + j by omega]
        refine ⟨fun k hk => ?_, ?_, ?_⟩
        · have := hv.1 k hk
          dsimp only at this ⊢
          rw [e k (by omega), e (16 + k) (by omega), e (32 + k) (by omega)]
          exact this
        · have := hv.2.1
          dsimp only at this ⊢
          rw [e 48 (by omega)]
          exact this
        · have := hv.2.2
          dsimp only at this ⊢
          rw [e 49 (by omega)]
          exact this
  · have hn8 : n < 8 := by omega
    refine ⟨kpF (kRow (σ.1 1) (σ.1 2) (σ.1 3) (σ.1 4)) (σ.1 7) n, rmF (σ.1 62) n, n + 1, fun Q => c_keep hn8 σ ho Q, fun σ' e Q => by rw [← e]; exact m_remember hn8 σ' (by rw [e]; exact hf) Q, fun j hj => ?_, n + 1, by omega, rfl, rfl, fun j hj => ?_, fun i hi => ?_⟩
    · unfold rmF
      rw [if_neg (by omega), if_neg (by omega)]
    · unfold kpF rmF
      by_cases q : 50 * n ≤ j ∧ j < 50 * n + 50
      · rw [if_pos q, if_neg (by omega), if_pos (by omega), row _ (by omega), show 81 + j - (81 + 50 * n) = j - 50 * n by omega]
      · rw [if_neg q, if_neg (by omega), if_neg (by omega)]
        exact hrow j (by omega)
    · have e : ∀ j, j < 50 → rmF (σ.1 62) n (81 + 50 * i + j) = if i = n then (if j < 48 then σ.1 62 (4 + j) else if j = 48 then σ.1 62 1 else σ.1 62 3) else σ.1 62 (81 + 50 * i + j) := by
        intro j hj
        unfold rmF
        by_cases q : i = n
        · subst q
          rw [if_pos rfl, if_neg (by omega), if_pos (by omega), show 81 + 50 * i + j - (81 + 50 * i) = j by omega]
        · rw [if_neg q, if_neg (by omega), if_neg (by omega)]
      have hv : vRow N (fun j => if i = n then (if j < 48 then σ.1 62 (4 + j) else if j = 48 then σ.1 62 1 else σ.1 62 3) else σ.1 62 (81 + 50 * i + j)) := by
        by_cases q : i = n
        · simp only [q, if_true]
          exact vrow
        · simp only [q, if_false]
          exact hvr i (by omega)
      refine ⟨fun k hk => ?_, ?_, ?_⟩
      · have := hv.1 k hk
        dsimp only at this ⊢
        rw [e k (by omega), e (16 + k) (by omega), e (32 + k) (by omega)]
        exact this
      · have := hv.2.1
        dsimp only at this ⊢
        rw [e 48 (by omega)]
        exact this
      · have := hv.2.2
        dsimp only at this ⊢
        rw [e 49 (by omega)]
        exact this
