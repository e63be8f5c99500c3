/-! image, from -/
theorem vRow_c {N : Nat} {g g' : Nat → Int32} (h : vRow N g) (he : ∀ j, j < 50 → g' j = g j) : vRow N g' := by
  obtain ⟨h1, h2, h3⟩ := h
  refine ⟨fun k hk => ?_, ?_, ?_⟩
  · rw [he k (by omega), he (16 + k) (by omega), he (32 + k) (by omega)]; exact h1 k hk
  · rw [he 48 (by omega)]; exact h2
  · rw [he 49 (by omega)]; exact h3
theorem pP_g {N : Nat} {o rw o' rw' f f' : Nat → Int32} (h : pP N o rw f) (h0 : o' 0 = o 0) (h1 : ∀ n, o 0 = nI n → n ≤ 8 → ∀ j, j < 50 * n → rw' j = rw j) (he : ∀ j, 80 ≤ j → j < 481 → f' j = f j) : pP N o' rw' f' := by
  obtain ⟨n, g1, g2, g3, g4, g5⟩ := h
  refine ⟨n, g1, by rw [he 80 (by omega) (by omega)]; exact g2, by rw [h0]; exact g3, fun j hj => by rw [he _ (by omega) (by omega), h1 n g3 g1 j hj]; exact g4 j hj, fun i hi => vRow_c (g5 i hi) (fun j hj => he _ (by omega) (by omega))⟩
theorem pR_g {o s r h o' s' r' h' f f' : Nat → Int32} (hp : pR o s r h f) (h0 : o' 0 = o 0) (h1 : ∀ n, o 0 = nI n → n ≤ 6 → ∀ j, j < n → s' j = s j ∧ r' j = r j ∧ h' j = h j) (he : ∀ j, 61 ≤ j → j < 80 → f' j = f j) : pR o' s' r' h' f' := by
  obtain ⟨n, g1, g2, g3, g4⟩ := hp
  refine ⟨n, g1, by rw [he 61 (by omega) (by omega)]; exact g2, by rw [h0]; exact g3, fun i hi => ?_⟩
  rw [he (62 + 3 * i) (by omega) (by omega), he (63 + 3 * i) (by omega) (by omega), he (64 + 3 * i) (by omega) (by omega), (h1 n g3 g1 i hi).1, (h1 n g3 g1 i hi).2.1, (h1 n g3 g1 i hi).2.2]
  exact g4 i hi
theorem eN_g {o kd st vl wd o' kd' st' vl' wd' f f' : Nat → Int32} (h : eN o kd st vl wd f) (h0 : ∀ j, j < 4 → o' j = o j) (h1 : ∀ k, k < 16 → kd' k = kd k ∧ st' k = st k ∧ vl' k = vl k) (h2 : ∀ c, c < 9 → wd' c = wd c) (he : ∀ j, j < 61 → f' j = f j) : eN o' kd' st' vl' wd' f' := by
  have h' := eN_f h he
  refine ⟨fun j hj => by rw [h0 j hj]; exact h'.1 j hj, fun k hk => ?_, fun c hc => by rw [h2 c hc]; exact h'.2.2 c hc⟩
  rw [(h1 k hk).1, (h1 k hk).2.1, (h1 k hk).2.2]
  exact h'.2.1 k hk
theorem iS_f {N : Nat} {σ : a_HP} {q p r : Nat} {f f' : Nat → Int32} (h : iS N σ q p r f) (he : ∀ j, j < 481 → f' j = f j) : iS N σ q p r f' :=
  ⟨eN_f h.1 (fun j hj => he j (by omega)), vN_f h.2.1 (fun j hj => he j (by omega)), pP_g h.2.2.1 rfl (fun _ _ _ _ _ => rfl) (fun j _ hj => he j hj), pR_f h.2.2.2 (fun j _ hj => he j (by omega))⟩
theorem im_bad {N : Nat} {σ : a_HP} (h : Inv N σ) {i : Int32} (hc : i < nI 0 ∨ nI 1 < i) : Pair N 81 200 [.int i] σ := by
  unfold Pair
  simp (disch := first | assumption | omega) only [cl_81, r_81_0, r_81_1, r_81_4, r_81_7, r_81_8, r_81_11, r_81_12, r_81_13, r_81_16, r_81_17, r_81_18, r_81_19, r_81_22, r_81_23, r_81_26, r_81_27, r_81_28, r_81_31, r_81_32, r_81_35, r_81_38, r_81_39, r_81_42, r_81_43, r_81_44, r_81_47, r_81_48, r_81_51, r_81_54, r_81_55, r_81_58, r_81_59, r_81_60, r_81_63, r_81_64, r_81_67, r_81_70, r_81_71, o_aal, o_get, o_ivs, o_ivv, o_lda, o_ldi, o_ne, o_pi, o_putz, o_ri, cl_200, r_200_0, r_200_1, r_200_4, r_200_7, r_200_8, r_200_11, r_200_12, r_200_13, r_200_16, r_200_17, r_200_18, r_200_21, r_200_24, r_200_25, r_200_26, r_200_29, r_200_32, r_200_33, r_200_36, r_200_37, r_200_38, r_200_39, r_200_40, f_mul, o_bas, o_bi, o_get, o_ivs, o_ivv, o_lda, o_ldi, o_ne, o_pi, o_ri, acR_nx, acR_re, acR_ca, acR_no, acR_if, Kc_i, Kc_n, a_lg, a_ls, a_kl, a_pk, a_sw, cw_n, cw_i, cw_l, cw_r, List.length_cons, List.length_nil, List.getElem?_cons_succ, List.getElem?_cons_zero, ↓reduceIte, decide_true, decide_false, Bool.false_eq_true, or_true, true_or, or_false, false_or, or_self, and_true, true_and, not_true_eq_false, not_false_eq_true, Nat.reduceEqDiff, Nat.reduceLT, Nat.reduceLeDiff, Nat.reduceAdd, Nat.reduceSub, Nat.reduceMul, Nat.reduceDiv, Nat.reduceMod, Nat.zero_add, Nat.add_zero, n_z, n_1, ly_0, ly_61, c_isImage, m_isTwo, hc, c_bad, m_bad]
  exact ⟨⟨_, rfl, rfl⟩, Inv_ref h (by omega)⟩
theorem fr_bad {N : Nat} {σ : a_HP} (h : Inv N σ) {i : Int32} (hc : i < nI 0 ∨ nI 1 < i) : Pair N 82 201 [.int i] σ := by
  unfold Pair
  simp (disch := first | assumption | omega) only [cl_82, r_82_0, r_82_1, r_82_4, r_82_7, r_82_8, r_82_11, r_82_12, r_82_13, r_82_16, r_82_17, r_82_18, r_82_21, r_82_24, r_82_25, r_82_28, r_82_29, r_82_30, r_82_33, r_82_34, r_82_37, r_82_38, r_82_39, r_82_42, r_82_45, r_82_46, r_82_49, r_82_50, r_82_53, r_82_54, r_82_55, r_82_58, r_82_61, r_82_62, r_82_65, r_82_66, r_82_69, r_82_70, r_82_71, r_82_74, r_82_77, r_82_78, o_aal, o_get, o_ivs, o_ivv, o_lda, o_ldi, o_ne, o_pi, o_ri, cl_201, r_201_0, r_201_1, r_201_4, r_201_7, r_201_8, r_201_11, r_201_12, r_201_13, r_201_16, r_201_17, r_201_18, r_201_21, r_201_22, r_201_24, r_201_27, r_201_28, r_201_29, r_201_32, r_201_35, r_201_36, r_201_37, r_201_38, r_201_41, r_201_42, r_201_45, r_201_48, r_201_49, f_mul, o_bal, o_bi, o_get, o_ivs, o_ivv, o_lda, o_ldi, o_ne, o_pi, o_ri, acR_nx, acR_re, acR_ca, acR_no, acR_if, Kc_i, Kc_n, a_lg, a_ls, a_kl, a_pk, a_sw, cw_n, cw_i, cw_l, cw_r, List.length_cons, List.length_nil, List.getElem?_cons_succ, List.getElem?_cons_zero, ↓reduceIte, decide_true, decide_false, Bool.false_eq_true, or_true, true_or, or_false, false_or, or_self, and_true, true_and, not_true_eq_false, not_false_eq_true, Nat.reduceEqDiff, Nat.reduceLT, Nat.reduceLeDiff, Nat.reduceAdd, Nat.reduceSub, Nat.reduceMul, Nat.reduceDiv, Nat.reduceMod, Nat.zero_add, Nat.add_zero, n_z, n_1, ly_0, ly_61, c_isImage, m_isTwo, hc, c_bad, m_bad]
  exact ⟨⟨_, rfl, rfl⟩, Inv_ref h (by omega)⟩
theorem c_image_0 {n r : Nat} (hn : n ≤ 8) (hr : r ≤ 6) (σ : a_HP) (h1 : σ.1 6 0 = nI n) (h2 : σ.1 8 0 = nI r) (Q : Option Value → a_HP → Prop) : Cl 81 [.ref 0, .int (nI 0)] σ Q = Q (some (.int (nI 1))) (hRead (hPast (hTake (a_wi σ 37 0 (nI 1)) 38 1) 43 6 n) 45 8 r) := by
  have g1 : (hTake (a_wi σ 37 0 (nI 1)) 38 1).1 6 0 = nI n := h1
  have g2 : (hPast (hTake (a_wi σ 37 0 (nI 1)) 38 1) 43 6 n).1 8 0 = nI r := h2
  simp (disch := first | assumption | omega) only [cl_81, r_81_0, r_81_1, r_81_4, r_81_7, r_81_8, r_81_11, r_81_12, r_81_13, r_81_16, r_81_17, r_81_18, r_81_19, r_81_22, r_81_23, r_81_26, r_81_27, r_81_28, r_81_31, r_81_32, r_81_35, r_81_38, r_81_39, r_81_42, r_81_43, r_81_44, r_81_47, r_81_48, r_81_51, r_81_54, r_81_55, r_81_58, r_81_59, r_81_60, r_81_63, r_81_64, r_81_67, r_81_70, r_81_71, o_aal, o_get, o_ivs, o_ivv, o_lda, o_ldi, o_ne, o_pi, o_putz, o_ri, acR_nx, acR_re, acR_ca, acR_no, acR_if, Kc_i, Kc_n, a_lg, a_ls, a_kl, a_pk, a_sw, cw_n, cw_i, cw_l, cw_r, List.length_cons, List.length_nil, List.getElem?_cons_succ, List.getElem?_cons_zero, ↓reduceIte, decide_true, decide_false, Bool.false_eq_true, or_true, true_or, or_false, false_or, or_self, and_true, true_and, not_true_eq_false, not_false_eq_true, Nat.reduceEqDiff, Nat.reduceLT, Nat.reduceLeDiff, Nat.reduceAdd, Nat.reduceSub, Nat.reduceMul, Nat.reduceDiv, Nat.reduceMod, Nat.zero_add, Nat.add_zero, n_z, n_1, n_in, n_cl, n_lt, ly_0, ly_1, ly_6, ly_8, ly_12, ly_37, ly_38, ly_43, ly_45, c_isImage, List.getD_cons_zero, List.getD_cons_succ, c_take_38_1, c_ptake_43_6 hn _ g1, c_rtake_45_8 hr _ g2]
theorem m_image_0 (σ : a_HP) (Q : Option Value → a_HP → Prop) : Cl 200 [.ref 61, .int (nI 0)] σ Q = Q (some (.int (nI 1))) (a_wi (a_sc σ 65 (va_cpy (σ.1 62) (σ.1 65) 0 0 481)) 66 0 (nI 1)) := by
  simp (disch := first | assumption | omega | decide) only [cl_200, r_200_0, r_200_1, r_200_4, r_200_7, r_200_8, r_200_11, r_200_12, r_200_13, r_200_16, r_200_17, r_200_18, r_200_21, r_200_24, r_200_25, r_200_26, r_200_29, r_200_32, r_200_33, r_200_36, r_200_37, r_200_38, r_200_39, r_200_40, f_mul, o_bas, o_bi, o_get, o_ivs, o_ivv, o_lda, o_ldi, o_ne, o_pi, o_ri, acR_nx, acR_re, acR_ca, acR_no, acR_if, Kc_i, Kc_n, a_lg, a_ls, a_kl, a_pk, a_sw, cw_n, cw_i, cw_l, cw_r, List.length_cons, List.length_nil, List.getElem?_cons_succ, List.getElem?_cons_zero, ↓reduceIte, decide_true, decide_false, Bool.false_eq_true, or_true, true_or, or_false, false_or, or_self, and_true, true_and, not_true_eq_false, not_false_eq_true, Nat.reduceEqDiff, Nat.reduceLT, Nat.reduceLeDiff, Nat.reduceAdd, Nat.reduceSub, Nat.reduceMul, Nat.reduceDiv, Nat.reduceMod, Nat.zero_add, Nat.add_zero, n_z, n_1, n_in, n_cl, n_lt, pk_mul, ly_61, ly_66, m_isTwo, m_copies ly_62 ly_65]
theorem pr_image_0 {N : Nat} {σ : a_HP} (h : Inv N σ) : Pair N 81 200 [.int (nI 0)] σ := by
  unfold Pair
  have hI := Inv_N (Nat.le_succ N) h
  obtain ⟨⟨e, w, hp, hr⟩, a2, a3, a4, a5, a6⟩ := hI
  obtain ⟨n, n1, n2, n3, -⟩ := id hp
  obtain ⟨r, r1, r2, r3, -⟩ := id hr
  rw [c_image_0 n1 r1 σ n3 r3, m_image_0]
  have hf : ∀ j, j < 481 → va_cpy (σ.1 62) (σ.1 65) 0 0 481 (0 + j) = σ.1 62 j := by
    intro j hj
    unfold va_cpy
    rw [if_pos (by omega), show 0 + (0 + j - 0) = j by omega]
  have new : iS (N + 1) (a_wi (a_sc (hRead (hPast (hTake (a_wi σ 37 0 (nI 1)) 38 1) 43 6 n) 45 8 r) 65 (va_cpy (σ.1 62) (σ.1 65) 0 0 481)) 66 0 (nI 1)) 38 43 45 (fun j => va_cpy (σ.1 62) (σ.1 65) 0 0 481 (0 + j)) := by
    refine ⟨eN_g e (fun j hj => ?_) (fun k hk => ?_) (fun c hc => ?_) (fun j hj => hf j (by omega)), vN_f w (fun j hj => hf j (by omega)), pP_g hp n3.symm (fun n' q1 q2 j hj => ?_) (fun j _ hj => hf j hj), pR_g hr r3.symm (fun n' q1 q2 j hj => ?_) (fun j _ hj => hf j (by omega))⟩
    · show (if j < 4 then σ.1 1 j else σ.1 38 j) = σ.1 1 j
      rw [if_pos hj]
    · show (if k < 16 then σ.1 2 k else σ.1 39 k) = σ.1 2 k ∧ (if k < 16 then σ.1 3 k else σ.1 40 k) = σ.1 3 k ∧ (if k < 16 then σ.1 4 k else σ.1 41 k) = σ.1 4 k
      rw [if_pos hk, if_pos hk, if_pos hk]
      exact ⟨rfl, rfl, rfl⟩
    · show (if c < 9 then σ.1 5 c else σ.1 42 c) = σ.1 5 c
      rw [if_pos hc]
    · show (if j < n * 50 then σ.1 7 j else σ.1 44 j) = σ.1 7 j
      rw [n3, n_eq (by omega) (by omega)] at q1
      rw [if_pos (by omega)]
    · show (if j < r then σ.1 9 j else σ.1 46 j) = σ.1 9 j ∧ (if j < r then σ.1 10 j else σ.1 47 j) = σ.1 10 j ∧ (if j < r then σ.1 11 j else σ.1 48 j) = σ.1 11 j
      rw [r3, n_eq (by omega) (by omega)] at q1
      rw [if_pos (by omega), if_pos (by omega), if_pos (by omega)]
      exact ⟨rfl, rfl, rfl⟩
  have this : iI (N + 1) (a_wi (a_sc (hRead (hPast (hTake (a_wi σ 37 0 (nI 1)) 38 1) 43 6 n) 45 8 r) 65 (va_cpy (σ.1 62) (σ.1 65) 0 0 481)) 66 0 (nI 1)) 0 37 := ⟨rfl, Or.inr rfl, fun _ => new⟩
  refine ⟨⟨_, rfl, rfl⟩, ⟨e, w, hp, hr⟩, this, ⟨a3.1, a3.2.1, fun q => ?_⟩, a4, a5, a6⟩
  have := a3.2.2 q
  refine iS_f this (fun j hj => ?_)
  show va_cpy (σ.1 62) (σ.1 65) 0 0 481 (481 * 1 + j) = σ.1 65 (481 * 1 + j)
  unfold va_cpy
  rw [if_neg (by omega)]
theorem c_from_no_0 (σ : a_HP) (h : σ.1 37 0 = nI 0) (Q : Option Value → a_HP → Prop) : Cl 82 [.ref 0, .int (nI 0)] σ Q = Q (some (.int (-3))) (a_wi σ 17 1 (σ.1 17 1 + nI 1)) := by
  simp (disch := first | assumption | omega) only [cl_82, r_82_0, r_82_1, r_82_4, r_82_7, r_82_8, r_82_11, r_82_12, r_82_13, r_82_16, r_82_17, r_82_18, r_82_21, r_82_24, r_82_25, r_82_28, r_82_29, r_82_30, r_82_33, r_82_34, r_82_37, r_82_38, r_82_39, r_82_42, r_82_45, r_82_46, r_82_49, r_82_50, r_82_53, r_82_54, r_82_55, r_82_58, r_82_61, r_82_62, r_82_65, r_82_66, r_82_69, r_82_70, r_82_71, r_82_74, r_82_77, r_82_78, o_aal, o_get, o_ivs, o_ivv, o_lda, o_ldi, o_ne, o_pi, o_ri, acR_nx, acR_re, acR_ca, acR_no, acR_if, Kc_i, Kc_n, a_lg, a_ls, a_kl, a_pk, a_sw, cw_n, cw_i, cw_l, cw_r, List.length_cons, List.length_nil, List.getElem?_cons_succ, List.getElem?_cons_zero, ↓reduceIte, decide_true, decide_false, Bool.false_eq_true, or_true, true_or, or_false, false_or, or_self, and_true, true_and, not_true_eq_false, not_false_eq_true, Nat.reduceEqDiff, Nat.reduceLT, Nat.reduceLeDiff, Nat.reduceAdd, Nat.reduceSub, Nat.reduceMul, Nat.reduceDiv, Nat.reduceMod, Nat.zero_add, Nat.add_zero, n_z, n_1, n_in, n_cl, n_lt, ly_0, ly_12, ly_37, c_isImage, List.getD_cons_zero, List.getD_cons_succ, h, c_no]
theorem m_from_no_0 (σ : a_HP) (h : σ.1 66 0 = nI 0) (Q : Option Value → a_HP → Prop) : Cl 201 [.ref 61, .int (nI 0)] σ Q = Q (some (.int (-3))) (a_wi σ 68 1 (σ.1 68 1 + nI 1)) := by
  simp (disch := first | assumption | omega) only [cl_201, r_201_0, r_201_1, r_201_4, r_201_7, r_201_8, r_201_11, r_201_12, r_201_13, r_201_16, r_201_17, r_201_18, r_201_21, r_201_22, r_201_24, r_201_27, r_201_28, r_201_29, r_201_32, r_201_35, r_201_36, r_201_37, r_201_38, r_201_41, r_201_42, r_201_45, r_201_48, r_201_49, f_mul, o_bal, o_bi, o_get, o_ivs, o_ivv, o_lda, o_ldi, o_ne, o_pi, o_ri, acR_nx, acR_re, acR_ca, acR_no, acR_if, Kc_i, Kc_n, a_lg, a_ls, a_kl, a_pk, a_sw, cw_n, cw_i, cw_l, cw_r, List.length_cons, List.length_nil, List.getElem?_cons_succ, List.getElem?_cons_zero, ↓reduceIte, decide_true, decide_false, Bool.false_eq_true, or_true, true_or, or_false, false_or, or_self, and_true, true_and, not_true_eq_false, not_false_eq_true, Nat.reduceEqDiff, Nat.reduceLT, Nat.reduceLeDiff, Nat.reduceAdd, Nat.reduceSub, Nat.reduceMul, Nat.reduceDiv, Nat.reduceMod, Nat.zero_add, Nat.add_zero, n_z, n_1, n_in, n_cl, n_lt, ly_61, ly_66, m_isTwo, h, m_noAs]
theorem c_from_0 {n r : Nat} (hn : n ≤ 8) (hr : r ≤ 6) (σ : a_HP) (hk : σ.1 37 0 = nI 1) (h1 : σ.1 43 0 = nI n) (h2 : σ.1 45 0 = nI r) (Q : Option Value → a_HP → Prop) : Cl 82 [.ref 0, .int (nI 0)] σ Q = Q (some (.int (nI 1))) (hRead (hPast (hTake σ 1 38) 6 43 n) 8 45 r) := by
  have g1 : (hTake σ 1 38).1 43 0 = nI n := h1
  have g2 : (hPast (hTake σ 1 38) 6 43 n).1 45 0 = nI r := h2
  simp (disch := first | assumption | omega) only [cl_82, r_82_0, r_82_1, r_82_4, r_82_7, r_82_8, r_82_11, r_82_12, r_82_13, r_82_16, r_82_17, r_82_18, r_82_21, r_82_24, r_82_25, r_82_28, r_82_29, r_82_30, r_82_33, r_82_34, r_82_37, r_82_38, r_82_39, r_82_42, r_82_45, r_82_46, r_82_49, r_82_50, r_82_53, r_82_54, r_82_55, r_82_58, r_82_61, r_82_62, r_82_65, r_82_66, r_82_69, r_82_70, r_82_71, r_82_74, r_82_77, r_82_78, o_aal, o_get, o_ivs, o_ivv, o_lda, o_ldi, o_ne, o_pi, o_ri, acR_nx, acR_re, acR_ca, acR_no, acR_if, Kc_i, Kc_n, a_lg, a_ls, a_kl, a_pk, a_sw, cw_n, cw_i, cw_l, cw_r, List.length_cons, List.length_nil, List.getElem?_cons_succ, List.getElem?_cons_zero, ↓reduceIte, decide_true, decide_false, Bool.false_eq_true, or_true, true_or, or_false, false_or, or_self, and_true, true_and, not_true_eq_false, not_false_eq_true, Nat.reduceEqDiff, Nat.reduceLT, Nat.reduceLeDiff, Nat.reduceAdd, Nat.reduceSub, Nat.reduceMul, Nat.reduceDiv, Nat.reduceMod, Nat.zero_add, Nat.add_zero, n_z, n_1, n_in, n_cl, n_lt, ly_0, ly_1, ly_6, ly_8, ly_12, ly_37, ly_38, ly_43, ly_45, c_isImage, List.getD_cons_zero, List.getD_cons_succ, hk, c_take_1_38, c_ptake_6_43 hn _ g1, c_rtake_8_45 hr _ g2]
theorem m_from_0 (σ : a_HP) (h : σ.1 66 0 = nI 1) (Q : Option Value → a_HP → Prop) : Cl 201 [.ref 61, .int (nI 0)] σ Q = Q (some (.int (nI 1))) (a_sc σ 62 (va_cpy (σ.1 65) (σ.1 62) 0 0 481)) := by
  simp (disch := first | assumption | omega | decide) only [cl_201, r_201_0, r_201_1, r_201_4, r_201_7, r_201_8, r_201_11, r_201_12, r_201_13, r_201_16, r_201_17, r_201_18, r_201_21, r_201_22, r_201_24, r_201_27, r_201_28, r_201_29, r_201_32, r_201_35, r_201_36, r_201_37, r_201_38, r_201_41, r_201_42, r_201_45, r_201_48, r_201_49, f_mul, o_bal, o_bi, o_get, o_ivs, o_ivv, o_lda, o_ldi, o_ne, o_pi, o_ri, acR_nx, acR_re, acR_ca, acR_no, acR_if, Kc_i, Kc_n, a_lg, a_ls, a_kl, a_pk, a_sw, cw_n, cw_i, cw_l, cw_r, List.length_cons, List.length_nil, List.getElem?_cons_succ, List.getElem?_cons_zero, ↓reduceIte, decide_true, decide_false, Bool.false_eq_true, or_true, true_or, or_false, false_or, or_self, and_true, true_and, not_true_eq_false, not_false_eq_true, Nat.reduceEqDiff, Nat.reduceLT, Nat.reduceLeDiff, Nat.reduceAdd, Nat.reduceSub, Nat.reduceMul, Nat.reduceDiv, Nat.reduceMod, Nat.zero_add, Nat.add_zero, n_z, n_1, n_in, n_cl, n_lt, pk_mul, ly_61, ly_66, m_isTwo, h, m_copies ly_65 ly_62]
theorem pr_from_0 {N : Nat} {σ : a_HP} (h : Inv N σ) : Pair N 82 201 [.int (nI 0)] σ := by
  unfold Pair
  have hI := Inv_N (Nat.le_succ N) h
  obtain ⟨a1, a2, a3, a4, a5, a6⟩ := hI
  obtain ⟨k1, k2, k3⟩ := id a2
  rcases k2 with k2 | k2
  · rw [c_from_no_0 σ (k1.trans k2), m_from_no_0 (a_wi σ 17 1 (σ.1 17 1 + nI 1)) k2]
    exact ⟨⟨_, rfl, rfl⟩, Inv_ref h (by omega)⟩
  · obtain ⟨e, w, hp, hr⟩ := k3 k2
    obtain ⟨n, n1, n2, n3, -⟩ := id hp
    obtain ⟨r, r1, r2, r3, -⟩ := id hr
    rw [c_from_0 n1 r1 σ (k1.trans k2) n3 r3, m_from_0 (hRead (hPast (hTake σ 1 38) 6 43 n) 8 45 r) k2]
    have hf : ∀ j, j < 481 → va_cpy (σ.1 65) (σ.1 62) 0 0 481 j = σ.1 65 (481 * 0 + j) := by
      intro j hj
      unfold va_cpy
      rw [if_pos (by omega)]
      rfl
    refine ⟨⟨_, rfl, rfl⟩, ⟨eN_g e (fun j hj => ?_) (fun k hk => ?_) (fun c hc => ?_) (fun j hj => hf j (by omega)), vN_f w (fun j hj => hf j (by omega)), pP_g hp n3.symm (fun n' q1 q2 j hj => ?_) (fun j _ hj => hf j hj), pR_g hr r3.symm (fun n' q1 q2 j hj => ?_) (fun j _ hj => hf j (by omega))⟩, a2, a3, a4, a5, a6⟩
    · show (if j < 4 then σ.1 38 j else σ.1 1 j) = σ.1 38 j
      rw [if_pos hj]
    · show (if k < 16 then σ.1 39 k else σ.1 2 k) = σ.1 39 k ∧ (if k < 16 then σ.1 40 k else σ.1 3 k) = σ.1 40 k ∧ (if k < 16 then σ.1 41 k else σ.1 4 k) = σ.1 41 k
      rw [if_pos hk, if_pos hk, if_pos hk]
      exact ⟨rfl, rfl, rfl⟩
    · show (if c < 9 then σ.1 42 c else σ.1 5 c) = σ.1 42 c
      rw [if_pos hc]
    · show (if j < n * 50 then σ.1 44 j else σ.1 7 j) = σ.1 44 j
      rw [show σ.1 43 0 = nI n from n3, n_eq (by omega) (by omega)] at q1
      rw [if_pos (by omega)]
    · show (if j < r then σ.1 46 j else σ.1 9 j) = σ.1 46 j ∧ (if j < r then σ.1 47 j else σ.1 10 j) = σ.1 47 j ∧ (if j < r then σ.1 48 j else σ.1 11 j) = σ.1 48 j
      rw [show σ.1 45 0 = nI r from r3, n_eq (by omega) (by omega)] at q1
      rw [if_pos (by omega), if_pos (by omega), if_pos (by omega)]
      exact ⟨rfl, rfl, rfl⟩
theorem c_image_1 {n r : Nat} (hn : n ≤ 8) (hr : r ≤ 6) (σ : a_HP) (h1 : σ.1 6 0 = nI n) (h2 : σ.1 8 0 = nI r) (Q : Option Value → a_HP → Prop) : Cl 81 [.ref 0, .int (nI 1)] σ Q = Q (some (.int (nI 1))) (hRead (hPast (hTake (a_wi σ 49 0 (nI 1)) 50 1) 55 6 n) 57 8 r) := by
  have g1 : (hTake (a_wi σ 49 0 (nI 1)) 50 1).1 6 0 = nI n := h1
  have g2 : (hPast (hTake (a_wi σ 49 0 (nI 1)) 50 1) 55 6 n).1 8 0 = nI r := h2
  simp (disch := first | assumption | omega) only [cl_81, r_81_0, r_81_1, r_81_4, r_81_7, r_81_8, r_81_11, r_81_12, r_81_13, r_81_16, r_81_17, r_81_18, r_81_19, r_81_22, r_81_23, r_81_26, r_81_27, r_81_28, r_81_31, r_81_32, r_81_35, r_81_38, r_81_39, r_81_42, r_81_43, r_81_44, r_81_47, r_81_48, r_81_51, r_81_54, r_81_55, r_81_58, r_81_59, r_81_60, r_81_63, r_81_64, r_81_67, r_81_70, r_81_71, o_aal, o_get, o_ivs, o_ivv, o_lda, o_ldi, o_ne, o_pi, o_putz, o_ri, acR_nx, acR_re, acR_ca, acR_no, acR_if, Kc_i, Kc_n, a_lg, a_ls, a_kl, a_pk, a_sw, cw_n, cw_i, cw_l, cw_r, List.length_cons, List.length_nil, List.getElem?_cons_succ, List.getElem?_cons_zero, ↓reduceIte, decide_true, decide_false, Bool.false_eq_true, or_true, true_or, or_false, false_or, or_self, and_true, true_and, not_true_eq_false, not_false_eq_true, Nat.reduceEqDiff, Nat.reduceLT, Nat.reduceLeDiff, Nat.reduceAdd, Nat.reduceSub, Nat.reduceMul, Nat.reduceDiv, Nat.reduceMod, Nat.zero_add, Nat.add_zero, n_z, n_1, n_in, n_cl, n_lt, ly_0, ly_1, ly_6, ly_8, ly_12, ly_49, ly_50, ly_55, ly_57, c_isImage, List.getD_cons_zero, List.getD_cons_succ, c_take_50_1, c_ptake_55_6 hn _ g1, c_rtake_57_8 hr _ g2]
theorem m_image_1 (σ : a_HP) (Q : Option Value → a_HP → Prop) : Cl 200 [.ref 61, .int (nI 1)] σ Q = Q (some (.int (nI 1))) (a_wi (a_sc σ 65 (va_cpy (σ.1 62) (σ.1 65) 0 481 481)) 66 1 (nI 1)) := by
  simp (disch := first | assumption | omega | decide) only [cl_200, r_200_0, r_200_1, r_200_4, r_200_7, r_200_8, r_200_11, r_200_12, r_200_13, r_200_16, r_200_17, r_200_18, r_200_21, r_200_24, r_200_25, r_200_26, r_200_29, r_200_32, r_200_33, r_200_36, r_200_37, r_200_38, r_200_39, r_200_40, f_mul, o_bas, o_bi, o_get, o_ivs, o_ivv, o_lda, o_ldi, o_ne, o_pi, o_ri, acR_nx, acR_re, acR_ca, acR_no, acR_if, Kc_i, Kc_n, a_lg, a_ls, a_kl, a_pk, a_sw, cw_n, cw_i, cw_l, cw_r, List.length_cons, List.length_nil, List.getElem?_cons_succ, List.getElem?_cons_zero, ↓reduceIte, decide_true, decide_false, Bool.false_eq_true, or_true, true_or, or_false, false_or, or_self, and_true, true_and, not_true_eq_false, not_false_eq_true, Nat.reduceEqDiff, Nat.reduceLT, Nat.reduceLeDiff, Nat.reduceAdd, Nat.reduceSub, Nat.reduceMul, Nat.reduceDiv, Nat.reduceMod, Nat.zero_add, Nat.add_zero, n_z, n_1, n_in, n_cl, n_lt, pk_mul, ly_61, ly_66, m_isTwo, m_copies ly_62 ly_65]
theorem pr_image_1 {N : Nat} {σ : a_HP} (h : Inv N σ) : Pair N 81 200 [.int (nI 1)] σ := by
  unfold Pair
  have hI := Inv_N (Nat.le_succ N) h
  obtain ⟨⟨e, w, hp, hr⟩, a2, a3, a4, a5, a6⟩ := hI
  obtain ⟨n, n1, n2, n3, -⟩ := id hp
  obtain ⟨r, r1, r2, r3, -⟩ := id hr
  rw [c_image_1 n1 r1 σ n3 r3, m_image_1]
  have hf : ∀ j, j < 481 → va_cpy (σ.1 62) (σ.1 65) 0 481 481 (481 + j) = σ.1 62 j := by
    intro j hj
    unfold va_cpy
    rw [if_pos (by omega), show 0 + (481 + j - 481) = j by omega]
  have new : iS (N + 1) (a_wi (a_sc (hRead (hPast (hTake (a_wi σ 49 0 (nI 1)) 50 1) 55 6 n) 57 8 r) 65 (va_cpy (σ.1 62) (σ.1 65) 0 481 481)) 66 1 (nI 1)) 50 55 57 (fun j => va_cpy (σ.1 62) (σ.1 65) 0 481 481 (481 + j)) := by
    refine ⟨eN_g e (fun j hj => ?_) (fun k hk => ?_) (fun c hc => ?_) (fun j hj => hf j (by omega)), vN_f w (fun j hj => hf j (by omega)), pP_g hp n3.symm (fun n' q1 q2 j hj => ?_) (fun j _ hj => hf j hj), pR_g hr r3.symm (fun n' q1 q2 j hj => ?_) (fun j _ hj => hf j (by omega))⟩
    · show (if j < 4 then σ.1 1 j else σ.1 50 j) = σ.1 1 j
      rw [if_pos hj]
    · show (if k < 16 then σ.1 2 k else σ.1 51 k) = σ.1 2 k ∧ (if k < 16 then σ.1 3 k else σ.1 52 k) = σ.1 3 k ∧ (if k < 16 then σ.1 4 k else σ.1 53 k) = σ.1 4 k
      rw [if_pos hk, if_pos hk, if_pos hk]
      exact ⟨rfl, rfl, rfl⟩
    · show (if c < 9 then σ.1 5 c else σ.1 54 c) = σ.1 5 c
      rw [if_pos hc]
    · show (if j < n * 50 then σ.1 7 j else σ.1 56 j) = σ.1 7 j
      rw [n3, n_eq (by omega) (by omega)] at q1
      rw [if_pos (by omega)]
    · show (if j < r then σ.1 9 j else σ.1 58 j) = σ.1 9 j ∧ (if j < r then σ.1 10 j else σ.1 59 j) = σ.1 10 j ∧ (if j < r then σ.1 11 j else σ.1 60 j) = σ.1 11 j
      rw [r3, n_eq (by omega) (by omega)] at q1
      rw [if_pos (by omega), if_pos (by omega), if_pos (by omega)]
      exact ⟨rfl, rfl, rfl⟩
  have this : iI (N + 1) (a_wi (a_sc (hRead (hPast (hTake (a_wi σ 49 0 (nI 1)) 50 1) 55 6 n) 57 8 r) 65 (va_cpy (σ.1 62) (σ.1 65) 0 481 481)) 66 1 (nI 1)) 1 49 := ⟨rfl, Or.inr rfl, fun _ => new⟩
  refine ⟨⟨_, rfl, rfl⟩, ⟨e, w, hp, hr⟩, ⟨a2.1, a2.2.1, fun q => ?_⟩, this, a4, a5, a6⟩
  have := a2.2.2 q
  refine iS_f this (fun j hj => ?_)
  show va_cpy (σ.1 62) (σ.1 65) 0 481 481 (481 * 0 + j) = σ.1 65 (481 * 0 + j)
  unfold va_cpy
  rw [if_neg (by omega)]
theorem c_from_no_1 (σ : a_HP) (h : σ.1 49 0 = nI 0) (Q : Option Value → a_HP → Prop) : Cl 82 [.ref 0, .int (nI 1)] σ Q = Q (some (.int (-3))) (a_wi σ 17 1 (σ.1 17 1 + nI 1)) := by
  simp (disch := first | assumption | omega) only [cl_82, r_82_0, r_82_1, r_82_4, r_82_7, r_82_8, r_82_11, r_82_12, r_82_13, r_82_16, r_82_17, r_82_18, r_82_21, r_82_24, r_82_25, r_82_28, r_82_29, r_82_30, r_82_33, r_82_34, r_82_37, r_82_38, r_82_39, r_82_42, r_82_45, r_82_46, r_82_49, r_82_50, r_82_53, r_82_54, r_82_55, r_82_58, r_82_61, r_82_62, r_82_65, r_82_66, r_82_69, r_82_70, r_82_71, r_82_74, r_82_77, r_82_78, o_aal, o_get, o_ivs, o_ivv, o_lda, o_ldi, o_ne, o_pi, o_ri, acR_nx, acR_re, acR_ca, acR_no, acR_if, Kc_i, Kc_n, a_lg, a_ls, a_kl, a_pk, a_sw, cw_n, cw_i, cw_l, cw_r, List.length_cons, List.length_nil, List.getElem?_cons_succ, List.getElem?_cons_zero, ↓reduceIte, decide_true, decide_false, Bool.false_eq_true, or_true, true_or, or_false, false_or, or_self, and_true, true_and, not_true_eq_false, not_false_eq_true, Nat.reduceEqDiff, Nat.reduceLT, Nat.reduceLeDiff, Nat.reduceAdd, Nat.reduceSub, Nat.reduceMul, Nat.reduceDiv, Nat.reduceMod, Nat.zero_add, Nat.add_zero, n_z, n_1, n_in, n_cl, n_lt, ly_0, ly_12, ly_49, c_isImage, List.getD_cons_zero, List.getD_cons_succ, h, c_no]
theorem m_from_no_1 (σ : a_HP) (h : σ.1 66 1 = nI 0) (Q : Option Value → a_HP → Prop) : Cl 201 [.ref 61, .int (nI 1)] σ Q = Q (some (.int (-3))) (a_wi σ 68 1 (σ.1 68 1 + nI 1)) := by
  simp (disch := first | assumption | omega) only [cl_201, r_201_0, r_201_1, r_201_4, r_201_7, r_201_8, r_201_11, r_201_12, r_201_13, r_201_16, r_201_17, r_201_18, r_201_21, r_201_22, r_201_24, r_201_27, r_201_28, r_201_29, r_201_32, r_201_35, r_201_36, r_201_37, r_201_38, r_201_41, r_201_42, r_201_45, r_201_48, r_201_49, f_mul, o_bal, o_bi, o_get, o_ivs, o_ivv, o_lda, o_ldi, o_ne, o_pi, o_ri, acR_nx, acR_re, acR_ca, acR_no, acR_if, Kc_i, Kc_n, a_lg, a_ls, a_kl, a_pk, a_sw, cw_n, cw_i, cw_l, cw_r, List.length_cons, List.length_nil, List.getElem?_cons_succ, List.getElem?_cons_zero, ↓reduceIte, decide_true, decide_false, Bool.false_eq_true, or_true, true_or, or_false, false_or, or_self, and_true, true_and, not_true_eq_false, not_false_eq_true, Nat.reduceEqDiff, Nat.reduceLT, Nat.reduceLeDiff, Nat.reduceAdd, Nat.reduceSub, Nat.reduceMul, Nat.reduceDiv, Nat.reduceMod, Nat.zero_add, Nat.add_zero, n_z, n_1, n_in, n_cl, n_lt, ly_61, ly_66, m_isTwo, h, m_noAs]
theorem c_from_1 {n r : Nat} (hn : n ≤ 8) (hr : r ≤ 6) (σ : a_HP) (hk : σ.1 49 0 = nI 1) (h1 : σ.1 55 0 = nI n) (h2 : σ.1 57 0 = nI r) (Q : Option Value → a_HP → Prop) : Cl 82 [.ref 0, .int (nI 1)] σ Q = Q (some (.int (nI 1))) (hRead (hPast (hTake σ 1 50) 6 55 n) 8 57 r) := by
  have g1 : (hTake σ 1 50).1 55 0 = nI n := h1
  have g2 : (hPast (hTake σ 1 50) 6 55 n).1 57 0 = nI r := h2
  simp (disch := first | assumption | omega) only [cl_82, r_82_0, r_82_1, r_82_4, r_82_7, r_82_8, r_82_11, r_82_12, r_82_13, r_82_16, r_82_17, r_82_18, r_82_21, r_82_24, r_82_25, r_82_28, r_82_29, r_82_30, r_82_33, r_82_34, r_82_37, r_82_38, r_82_39, r_82_42, r_82_45, r_82_46, r_82_49, r_82_50, r_82_53, r_82_54, r_82_55, r_82_58, r_82_61, r_82_62, r_82_65, r_82_66, r_82_69, r_82_70, r_82_71, r_82_74, r_82_77, r_82_78, o_aal, o_get, o_ivs, o_ivv, o_lda, o_ldi, o_ne, o_pi, o_ri, acR_nx, acR_re, acR_ca, acR_no, acR_if, Kc_i, Kc_n, a_lg, a_ls, a_kl, a_pk, a_sw, cw_n, cw_i, cw_l, cw_r, List.length_cons, List.length_nil, List.getElem?_cons_succ, List.getElem?_cons_zero, ↓reduceIte, decide_true, decide_false, Bool.false_eq_true, or_true, true_or, or_false, false_or, or_self, and_true, true_and, not_true_eq_false, not_false_eq_true, Nat.reduceEqDiff, Nat.reduceLT, Nat.reduceLeDiff, Nat.reduceAdd, Nat.reduceSub, Nat.reduceMul, Nat.reduceDiv, Nat.reduceMod, Nat.zero_add, Nat.add_zero, n_z, n_1, n_in, n_cl, n_lt, ly_0, ly_1, ly_6, ly_8, ly_12, ly_49, ly_50, ly_55, ly_57, c_isImage, List.getD_cons_zero, List.getD_cons_succ, hk, c_take_1_50, c_ptake_6_55 hn _ g1, c_rtake_8_57 hr _ g2]
theorem m_from_1 (σ : a_HP) (h : σ.1 66 1 = nI 1) (Q : Option Value → a_HP → Prop) : Cl 201 [.ref 61, .int (nI 1)] σ Q = Q (some (.int (nI 1))) (a_sc σ 62 (va_cpy (σ.1 65) (σ.1 62) 481 0 481)) := by
  simp (disch := first | assumption | omega | decide) only [cl_201, r_201_0, r_201_1, r_201_4, r_201_7, r_201_8, r_201_11, r_201_12, r_201_13, r_201_16, r_201_17, r_201_18, r_201_21, r_201_22, r_201_24, r_201_27, r_201_28, r_201_29, r_201_32, r_201_35, r_201_36, r_201_37, r_201_38, r_201_41, r_201_42, r_201_45, r_201_48, r_201_49, f_mul, o_bal, o_bi, o_get, o_ivs, o_ivv, o_lda, o_ldi, o_ne, o_pi, o_ri, acR_nx, acR_re, acR_ca, acR_no, acR_if, Kc_i, Kc_n, a_lg, a_ls, a_kl, a_pk, a_sw, cw_n, cw_i, cw_l, cw_r, List.length_cons, List.length_nil, List.getElem?_cons_succ, List.getElem?_cons_zero, ↓reduceIte, decide_true, decide_false, Bool.false_eq_true, or_true, true_or, or_false, false_or, or_self, and_true, true_and, not_true_eq_false, not_false_eq_true, Nat.reduceEqDiff, Nat.reduceLT, Nat.reduceLeDiff, Nat.reduceAdd, Nat.reduceSub, Nat.reduceMul, Nat.reduceDiv, Nat.reduceMod, Nat.zero_add, Nat.add_zero, n_z, n_1, n_in, n_cl, n_lt, pk_mul, ly_61, ly_66, m_isTwo, h, m_copies ly_65 ly_62]
theorem pr_from_1 {N : Nat} {σ : a_HP} (h : Inv N σ) : Pair N 82 201 [.int (nI 1)] σ := by
  unfold Pair
  have hI := Inv_N (Nat.le_succ N) h
  obtain ⟨a1, a2, a3, a4, a5, a6⟩ := hI
  obtain ⟨k1, k2, k3⟩ := id a3
  rcases k2 with k2 | k2
  · rw [c_from_no_1 σ (k1.trans k2), m_from_no_1 (a_wi σ 17 1 (σ.1 17 1 + nI 1)) k2]
    exact ⟨⟨_, rfl, rfl⟩, Inv_ref h (by omega)⟩
  · obtain ⟨e, w, hp, hr⟩ := k3 k2
    obtain ⟨n, n1, n2, n3, -⟩ := id hp
    obtain ⟨r, r1, r2, r3, -⟩ := id hr
    rw [c_from_1 n1 r1 σ (k1.trans k2) n3 r3, m_from_1 (hRead (hPast (hTake σ 1 50) 6 55 n) 8 57 r) k2]
    have hf : ∀ j, j < 481 → va_cpy (σ.1 65) (σ.1 62) 481 0 481 j = σ.1 65 (481 * 1 + j) := by
      intro j hj
      unfold va_cpy
      rw [if_pos (by omega)]
      rfl
    refine ⟨⟨_, rfl, rfl⟩, ⟨eN_g e (fun j hj => ?_) (fun k hk => ?_) (fun c hc => ?_) (fun j hj => hf j (by omega)), vN_f w (fun j hj => hf j (by omega)), pP_g hp n3.symm (fun n' q1 q2 j hj => ?_) (fun j _ hj => hf j hj), pR_g hr r3.symm (fun n' q1 q2 j hj => ?_) (fun j _ hj => hf j (by omega))⟩, a2, a3, a4, a5, a6⟩
    · show (if j < 4 then σ.1 50 j else σ.1 1 j) = σ.1 50 j
      rw [if_pos hj]
    · show (if k < 16 then σ.1 51 k else σ.1 2 k) = σ.1 51 k ∧ (if k < 16 then σ.1 52 k else σ.1 3 k) = σ.1 52 k ∧ (if k < 16 then σ.1 53 k else σ.1 4 k) = σ.1 53 k
      rw [if_pos hk, if_pos hk, if_pos hk]
      exact ⟨rfl, rfl, rfl⟩
    · show (if c < 9 then σ.1 54 c else σ.1 5 c) = σ.1 54 c
      rw [if_pos hc]
    · show (if j < n * 50 then σ.1 56 j else σ.1 7 j) = σ.1 56 j
      rw [show σ.1 55 0 = nI n from n3, n_eq (by omega) (by omega)] at q1
      rw [if_pos (by omega)]
    · show (if j < r then σ.1 58 j else σ.1 9 j) = σ.1 58 j ∧ (if j < r then σ.1 59 j else σ.1 10 j) = σ.1 59 j ∧ (if j < r then σ.1 60 j else σ.1 11 j) = σ.1 60 j
      rw [show σ.1 57 0 = nI r from r3, n_eq (by omega) (by omega)] at q1
      rw [if_pos (by omega), if_pos (by omega), if_pos (by omega)]
      exact ⟨rfl, rfl, rfl⟩
theorem pr_image {N : Nat} {σ : a_HP} (h : Inv N σ) (i : Int32) : Pair N 81 200 [.int i] σ := by
  by_cases hc : i < nI 0 ∨ nI 1 < i
  · exact im_bad h hc
  · obtain ⟨w, -, w2, rfl⟩ := rng (by omega) (by omega) hc
    rcases (show w = 0 ∨ w = 1 by omega) with rfl | rfl
    · exact pr_image_0 h
    · exact pr_image_1 h
theorem pr_from {N : Nat} {σ : a_HP} (h : Inv N σ) (i : Int32) : Pair N 82 201 [.int i] σ := by
  by_cases hc : i < nI 0 ∨ nI 1 < i
  · exact fr_bad h hc
  · obtain ⟨w, -, w2, rfl⟩ := rng (by omega) (by omega) hc
    rcases (show w = 0 ∨ w = 1 by omega) with rfl | rfl
    · exact pr_from_0 h
    · exact pr_from_1 h
