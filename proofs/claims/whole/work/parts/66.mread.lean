/-! the reference reads an item -/
theorem wd_cmp {t : Nat → Nat} {s n : Nat} (h1 : 1 ≤ n) (hL : ∀ j, s ≤ j → j < s + n → 97 ≤ t j ∧ t j ≤ 122) :
    ((wdF t s (lN 0) s n = lN 7234932) ↔ (n = 3 ∧ t s = 110 ∧ t (s + 1) = 101 ∧ t (s + 2) = 116)) ∧
    ((wdF t s (lN 0) s n = lN 1802399604) ↔ (n = 4 ∧ t s = 107 ∧ t (s + 1) = 110 ∧ t (s + 2) = 111 ∧ t (s + 3) = 116)) ∧
    ((wdF t s (lN 0) s n = lN 2003395685) ↔ (n = 4 ∧ t s = 119 ∧ t (s + 1) = 105 ∧ t (s + 2) = 100 ∧ t (s + 3) = 101)) := by
  by_cases h7 : n ≤ 7
  · have d0 := hL s (by omega) (by omega)
    have d1 : 1 < n → 97 ≤ t (s + 1) ∧ t (s + 1) ≤ 122 := fun h => hL (s + 1) (by omega) (by omega)
    have d2 : 2 < n → 97 ≤ t (s + 2) ∧ t (s + 2) ≤ 122 := fun h => hL (s + 2) (by omega) (by omega)
    have d3 : 3 < n → 97 ≤ t (s + 3) ∧ t (s + 3) ≤ 122 := fun h => hL (s + 3) (by omega) (by omega)
    have d4 : 4 < n → 97 ≤ t (s + 4) ∧ t (s + 4) ≤ 122 := fun h => hL (s + 4) (by omega) (by omega)
    have d5 : 5 < n → 97 ≤ t (s + 5) ∧ t (s + 5) ≤ 122 := fun h => hL (s + 5) (by omega) (by omega)
    have d6 : 6 < n → 97 ≤ t (s + 6) ∧ t (s + 6) ≤ 122 := fun h => hL (s + 6) (by omega) (by omega)
    rcases (show n = 1 ∨ n = 2 ∨ n = 3 ∨ n = 4 ∨ n = 5 ∨ n = 6 ∨ n = 7 by omega) with rfl | rfl | rfl | rfl | rfl | rfl | rfl
    all_goals simp only [wdF, Nat.sub_self, Nat.add_assoc, Nat.reduceAdd, Nat.add_sub_cancel_left, Nat.reduceLT, if_true, lN_mul, lN_add]
    all_goals simp only [Nat.reduceLT, forall_const, Nat.lt_irrefl] at d1 d2 d3 d4 d5 d6
    all_goals refine ⟨?_, ?_, ?_⟩
    all_goals rw [pk_lEQ (by omega) (by omega)]
    all_goals try simp only [true_and]
    all_goals omega
  · obtain ⟨m, rfl⟩ : ∃ m, n = m + 1 := ⟨n - 1, by omega⟩
    have last : ∀ m w p, p - s + m ≥ 7 → s ≤ p → wdF t s w p (m + 1) = -1 := by
      intro m
      induction m with
      | zero =>
        intro w p h hp
        simp only [wdF]
        rw [if_neg (by omega)]
      | succ m ih =>
        intro w p h hp
        have := ih (if p - s < 7 then w * lN 256 + lN (t p) else -1) (p + 1) (by omega) (by omega)
        exact this
    rw [last m _ s (by omega) (Nat.le_refl s)]
    have n1 : ¬ (-1 : Int64) = lN 7234932 := by decide
    have n2 : ¬ (-1 : Int64) = lN 1802399604 := by decide
    have n3 : ¬ (-1 : Int64) = lN 2003395685 := by decide
    refine ⟨⟨fun h => absurd h n1, fun h => by omega⟩, ⟨fun h => absurd h n2, fun h => by omega⟩, ⟨fun h => absurd h n3, fun h => by omega⟩⟩
theorem wk_eq {t : Nat → Nat} {s e : Nat} : (wk t s e = 0 ↔ (e - s = 3 ∧ t s = 110 ∧ t (s + 1) = 101 ∧ t (s + 2) = 116)) ∧ (wk t s e = 1 ↔ (e - s = 4 ∧ t s = 107 ∧ t (s + 1) = 110 ∧ t (s + 2) = 111 ∧ t (s + 3) = 116)) ∧ (wk t s e = 2 ↔ (e - s = 4 ∧ t s = 119 ∧ t (s + 1) = 105 ∧ t (s + 2) = 100 ∧ t (s + 3) = 101)) := by
  have a : (isW t s e wNet = true) ↔ (e - s = 3 ∧ t s = 110 ∧ t (s + 1) = 101 ∧ t (s + 2) = 116) := by
    simp [isW, wNet]
  have b : (isW t s e wKnot = true) ↔ (e - s = 4 ∧ t s = 107 ∧ t (s + 1) = 110 ∧ t (s + 2) = 111 ∧ t (s + 3) = 116) := by
    simp [isW, wKnot]
  have c : (isW t s e wWide = true) ↔ (e - s = 4 ∧ t s = 119 ∧ t (s + 1) = 105 ∧ t (s + 2) = 100 ∧ t (s + 3) = 101) := by
    simp [isW, wWide]
  unfold wk
  by_cases qa : isW t s e wNet = true
  · rw [if_pos qa]
    rw [a] at qa
    refine ⟨⟨fun _ => qa, fun _ => rfl⟩, ⟨fun h => by omega, fun h => by omega⟩, ⟨fun h => by omega, fun h => by omega⟩⟩
  · rw [if_neg qa]
    rw [a] at qa
    by_cases qb : isW t s e wKnot = true
    · rw [if_pos qb]
      rw [b] at qb
      refine ⟨⟨fun h => by omega, fun h => by omega⟩, ⟨fun h => qb, fun h => rfl⟩, ⟨fun h => by omega, fun h => by omega⟩⟩
    · rw [if_neg qb]
      rw [b] at qb
      by_cases qc : isW t s e wWide = true
      · rw [if_pos qc]
        rw [c] at qc
        refine ⟨⟨fun h => by omega, fun h => absurd h qa⟩, ⟨fun h => by omega, fun h => absurd h qb⟩, ⟨fun h => qc, fun h => rfl⟩⟩
      · rw [if_neg qc]
        rw [c] at qc
        refine ⟨⟨fun h => by omega, fun h => absurd h qa⟩, ⟨fun h => by omega, fun h => absurd h qb⟩, ⟨fun h => by omega, fun h => absurd h qc⟩⟩
theorem mk_rel (z : Nat) (t : Nat → Nat) (s : Nat) : (mKs z t s = 2 ↔ tKs z t s = 3) ∧ (mKs z t s = 3 ↔ tKs z t s = 4) ∧ (mKs z t s = 0 ↔ tKs z t s = 5) ∧ (mKs z t s = 1 ↔ (s < z ∧ isL (t s) = true)) ∧ (tKs z t s < 3 → mKs z t s = 1) ∧ mKs z t s ≤ 4 := by
  have wl : ∀ e, wk t s e ≠ 3 ∧ wk t s e ≠ 4 ∧ wk t s e ≠ 5 := by
    intro e
    unfold wk
    repeat' split
    all_goals omega
  unfold mKs tKs
  by_cases q : s < z
  · by_cases q1 : isL (t s) = true
    · have := wl (sE isL z t s)
      refine ⟨?_, ?_, ?_, ?_, ?_, ?_⟩
      all_goals simp only [q, q1, not_true_eq_false, if_true, if_false, and_self]
      all_goals first | omega | exact fun _ => trivial | exact fun _ => rfl
    · by_cases q2 : isF (t s) = true
      · by_cases q3 : sE isF z t s - s ≤ 2
        · refine ⟨?_, ?_, ?_, ?_, ?_, ?_⟩
          all_goals simp only [q, q1, q2, q3, not_true_eq_false, if_true, if_false, and_false, Bool.false_eq_true]
          all_goals first | omega | decide | exact fun h => by omega
        · refine ⟨?_, ?_, ?_, ?_, ?_, ?_⟩
          all_goals simp only [q, q1, q2, q3, not_true_eq_false, if_true, if_false, and_false, Bool.false_eq_true]
          all_goals first | omega | decide | exact fun h => by omega
      · by_cases q3 : t s = 59
        · have l59 : isL 59 = false := by decide
          have f59 : isF 59 = false := by decide
          refine ⟨?_, ?_, ?_, ?_, ?_, ?_⟩
          all_goals simp only [q, q3, l59, f59, not_true_eq_false, if_true, if_false, and_false, Bool.false_eq_true]
          all_goals first | omega | decide | exact fun h => by omega
        · refine ⟨?_, ?_, ?_, ?_, ?_, ?_⟩
          all_goals simp only [q, q1, q2, q3, not_true_eq_false, if_false, and_false, Bool.false_eq_true]
          all_goals first | omega | decide | exact fun h => by omega
  · refine ⟨?_, ?_, ?_, ?_, ?_, ?_⟩
    all_goals simp only [q, not_false_eq_true, if_true, false_and]
    all_goals first | omega | decide | exact fun h => by omega
theorem vl_ok {z : Nat} {t : Nat → Nat} {s : Nat} (h : tKs z t s = 3) (hs : s ≤ z) : vlF t s (nI 0) s (sE isF z t s - s) = nI (tVs z t s) ∧ tVs z t s ≤ 99 := by
  obtain ⟨a, -, c, d, -⟩ := k_num h
  have g := sE_ge (P := isF) (t := t) (show s + 1 ≤ z by omega)
  have l : 1 ≤ sE isF z t s - s := by rw [sE_step a c]; omega
  have inn := sE_in (P := isF) (t := t) hs
  have fig : ∀ j, s ≤ j → j < sE isF z t s → 48 ≤ t j ∧ t j ≤ 57 := fun j a b => by have := inn j a b; unfold isF at this; simp at this; omega
  unfold tVs
  by_cases q : sE isF z t s - s = 1
  · have f0 := fig s (by omega) (by omega)
    rw [if_pos q, q]
    simp only [vlF, Nat.sub_self]
    rw [if_pos (by omega)]
    refine ⟨?_, by omega⟩
    simp (disch := omega) only [pk_mul, nI_add, n_sub, Nat.mul_zero, Nat.zero_add]
  · have q2 : sE isF z t s - s = 2 := by omega
    have f0 := fig s (by omega) (by omega)
    have f1 := fig (s + 1) (by omega) (by omega)
    rw [if_neg q, q2]
    simp only [vlF, Nat.sub_self]
    rw [if_pos (by omega), if_pos (by omega)]
    refine ⟨?_, by omega⟩
    simp (disch := omega) only [pk_mul, nI_add, n_sub, Nat.mul_zero, Nat.zero_add]
    congr 1
    omega
theorem vl_99 {z : Nat} {t : Nat → Nat} : ∀ r q, q ≤ z → tkOk z t r q = true → ∀ x, x < r → vl z t q x ≤ 99
  | 0, q, _, _, x, hx => by omega
  | r + 1, q, hq, h, x, hx => by
    simp only [tkOk, Bool.and_eq_true, decide_eq_true_eq] at h
    cases x with
    | zero => exact (vl_ok h.1 (tS_ge (t := t) hq).2).2
    | succ x => exact vl_99 r (tE z t q) (tE_ge hq).2 h.2 x (by omega)
theorem m_takesF {z : Nat} {t : Nat → Nat} {σ : a_HP} (ht : tx z t (σ.1 67)) (U : Nat → Int32) (Q : Option Value → a_HP → Prop) : ∀ (r j q : Nat) (o D : Nat → Int32) (w : Int64) (f : Int32), q ≤ z → o 6 = nI z → o 16 = f → o 10 = nI q → j + r ≤ 4 →
    (tkOk z t r q = true → ∀ (o' D' : Nat → Int32) (w' : Int64), o' 6 = nI z → o' 16 = f → o' 10 = nI (tkEnd z t r q) → (∀ x, x < r → D' (j + x) = nI (vl z t q x)) → (∀ y, y < j → D' y = D y) → Q (some (.int (nI 1))) (MS σ o' w' D' U)) →
    (tkOk z t r q = false → ∀ (o' D' : Nat → Int32) (w' : Int64), o' 6 = nI z → o' 11 = nI (tkBad z t r q) → Q (some (.int (nI 0))) (MS σ o' w' D' U)) →
    Rn 163 2 [some (.ref 61), some (.int (nI (j + r))), some (.int (nI j))] [] (MS σ o w D U) Q
  | 0, j, q, o, D, w, f, hq, h6, h16, h10, hj, hQ1, hQ0 => by
    rw [r_163_2]
    have jj : ¬ j < j + 0 := by omega
    simp (disch := first | assumption | omega) only [r_163_0, r_163_1, r_163_3, r_163_4, r_163_7, r_163_8, r_163_11, r_163_12, r_163_15, r_163_16, r_163_19, r_163_20, r_163_21, r_163_22, r_163_25, r_163_26, r_163_27, r_163_30, r_163_31, r_163_34, r_163_37, r_163_38, r_163_41, r_163_42, r_163_45, r_163_46, r_163_49, r_163_50, r_163_53, r_163_54, o_ceq, o_cge, o_cne, o_get, o_go, o_ias, o_inc, o_ivv, o_lda, o_ldi, o_pi, o_rz, o_sti, o_ldi, acR_nx, acR_re, acR_ca, acR_no, acR_if, Kc_i, Kc_n, a_lg, a_ls, a_kl, a_pk, a_sw, cw_n, cw_i, cw_l, cw_r, List.length_cons, List.length_nil, List.getElem?_cons_succ, List.getElem?_cons_zero, ↓reduceIte, decide_true, decide_false, Bool.false_eq_true, or_true, true_or, or_false, false_or, or_self, and_true, true_and, not_true_eq_false, not_false_eq_true, Nat.reduceEqDiff, Nat.reduceLT, Nat.reduceLeDiff, Nat.reduceAdd, Nat.reduceSub, Nat.reduceMul, Nat.reduceDiv, Nat.reduceMod, Nat.zero_add, Nat.add_zero, n_z, n_1, n_ltz, n_zlt, n_lt, n_eq, n_cl, n_in, nI_add, pk_mul, n_div, n_sub, nm_mod, ly_61, jj, Nat.lt_irrefl]
    refine m_step ht h6 h10 hq _ (fun o' w' hk => ?_)
    obtain ⟨k6, k16, k10, k11, k12, kw, kv⟩ := hk
    obtain ⟨r2, r3, r0, r1, -, r4⟩ := mk_rel z t (tS z t q)
    generalize mKs z t (tS z t q) = mk at *
    by_cases q4 : mk = 3
    · simp (disch := first | assumption | omega) only [r_163_0, r_163_1, r_163_3, r_163_4, r_163_7, r_163_8, r_163_11, r_163_12, r_163_15, r_163_16, r_163_19, r_163_20, r_163_21, r_163_22, r_163_25, r_163_26, r_163_27, r_163_30, r_163_31, r_163_34, r_163_37, r_163_38, r_163_41, r_163_42, r_163_45, r_163_46, r_163_49, r_163_50, r_163_53, r_163_54, o_ceq, o_cge, o_cne, o_get, o_go, o_ias, o_inc, o_ivv, o_lda, o_ldi, o_pi, o_rz, o_sti, acR_nx, acR_re, acR_ca, acR_no, acR_if, Kc_i, Kc_n, a_lg, a_ls, a_kl, a_pk, a_sw, cw_n, cw_i, cw_l, cw_r, List.length_cons, List.length_nil, List.getElem?_cons_succ, List.getElem?_cons_zero, ↓reduceIte, decide_true, decide_false, Bool.false_eq_true, or_true, true_or, or_false, false_or, or_self, and_true, true_and, not_true_eq_false, not_false_eq_true, Nat.reduceEqDiff, Nat.reduceLT, Nat.reduceLeDiff, Nat.reduceAdd, Nat.reduceSub, Nat.reduceMul, Nat.reduceDiv, Nat.reduceMod, Nat.zero_add, Nat.add_zero, n_z, n_1, n_ltz, n_zlt, n_lt, n_eq, n_cl, n_in, nI_add, pk_mul, n_div, n_sub, nm_mod, ly_61, MS_61, k12, q4]
      exact hQ1 (by simp only [tkOk]; exact decide_eq_true (r3.mp q4)) o' D w' (k6.trans h6) (k16.trans h16) k10 (fun x hx => by omega) (fun _ _ => rfl)
    · simp (disch := first | assumption | omega) only [r_163_0, r_163_1, r_163_3, r_163_4, r_163_7, r_163_8, r_163_11, r_163_12, r_163_15, r_163_16, r_163_19, r_163_20, r_163_21, r_163_22, r_163_25, r_163_26, r_163_27, r_163_30, r_163_31, r_163_34, r_163_37, r_163_38, r_163_41, r_163_42, r_163_45, r_163_46, r_163_49, r_163_50, r_163_53, r_163_54, o_ceq, o_cge, o_cne, o_get, o_go, o_ias, o_inc, o_ivv, o_lda, o_ldi, o_pi, o_rz, o_sti, acR_nx, acR_re, acR_ca, acR_no, acR_if, Kc_i, Kc_n, a_lg, a_ls, a_kl, a_pk, a_sw, cw_n, cw_i, cw_l, cw_r, List.length_cons, List.length_nil, List.getElem?_cons_succ, List.getElem?_cons_zero, ↓reduceIte, decide_true, decide_false, Bool.false_eq_true, or_true, true_or, or_false, false_or, or_self, and_true, true_and, not_true_eq_false, not_false_eq_true, Nat.reduceEqDiff, Nat.reduceLT, Nat.reduceLeDiff, Nat.reduceAdd, Nat.reduceSub, Nat.reduceMul, Nat.reduceDiv, Nat.reduceMod, Nat.zero_add, Nat.add_zero, n_z, n_1, n_ltz, n_zlt, n_lt, n_eq, n_cl, n_in, nI_add, pk_mul, n_div, n_sub, nm_mod, ly_61, MS_61, k12, q4]
      exact hQ0 (by simp only [tkOk]; exact decide_eq_false (fun e => q4 (r3.mpr e))) o' D w' (k6.trans h6) k11
  | r + 1, j, q, o, D, w, f, hq, h6, h16, h10, hj, hQ1, hQ0 => by
    rw [r_163_2]
    have jj : j < j + (r + 1) := by omega
    simp (disch := first | assumption | omega) only [r_163_0, r_163_1, r_163_3, r_163_4, r_163_7, r_163_8, r_163_11, r_163_12, r_163_15, r_163_16, r_163_19, r_163_20, r_163_21, r_163_22, r_163_25, r_163_26, r_163_27, r_163_30, r_163_31, r_163_34, r_163_37, r_163_38, r_163_41, r_163_42, r_163_45, r_163_46, r_163_49, r_163_50, r_163_53, r_163_54, o_ceq, o_cge, o_cne, o_get, o_go, o_ias, o_inc, o_ivv, o_lda, o_ldi, o_pi, o_rz, o_sti, o_ldi, acR_nx, acR_re, acR_ca, acR_no, acR_if, Kc_i, Kc_n, a_lg, a_ls, a_kl, a_pk, a_sw, cw_n, cw_i, cw_l, cw_r, List.length_cons, List.length_nil, List.getElem?_cons_succ, List.getElem?_cons_zero, ↓reduceIte, decide_true, decide_false, Bool.false_eq_true, or_true, true_or, or_false, false_or, or_self, and_true, true_and, not_true_eq_false, not_false_eq_true, Nat.reduceEqDiff, Nat.reduceLT, Nat.reduceLeDiff, Nat.reduceAdd, Nat.reduceSub, Nat.reduceMul, Nat.reduceDiv, Nat.reduceMod, Nat.zero_add, Nat.add_zero, n_z, n_1, n_ltz, n_zlt, n_lt, n_eq, n_cl, n_in, nI_add, pk_mul, n_div, n_sub, nm_mod, ly_61, jj]
    refine m_step ht h6 h10 hq _ (fun o' w' hk => ?_)
    obtain ⟨k6, k16, k10, k11, k12, kw, kv⟩ := hk
    obtain ⟨r2, r3, r0, r1, -, r4⟩ := mk_rel z t (tS z t q)
    have vo := fun h => vl_ok (t := t) h (tS_ge (t := t) hq).2
    generalize mKs z t (tS z t q) = mk at *
    by_cases q3 : mk = 2
    · have b4 : j < 4 := by omega
      have q3' : tKd z t q = 3 := r2.mp q3
      have v7 : o' 14 = nI (tV z t q) := (kv q3).trans (vo q3').1
      simp (disch := first | assumption | omega) only [r_163_0, r_163_1, r_163_3, r_163_4, r_163_7, r_163_8, r_163_11, r_163_12, r_163_15, r_163_16, r_163_19, r_163_20, r_163_21, r_163_22, r_163_25, r_163_26, r_163_27, r_163_30, r_163_31, r_163_34, r_163_37, r_163_38, r_163_41, r_163_42, r_163_45, r_163_46, r_163_49, r_163_50, r_163_53, r_163_54, o_ceq, o_cge, o_cne, o_get, o_go, o_ias, o_inc, o_ivv, o_lda, o_ldi, o_pi, o_rz, o_sti, o_ldi, acR_nx, acR_re, acR_ca, acR_no, acR_if, Kc_i, Kc_n, a_lg, a_ls, a_kl, a_pk, a_sw, cw_n, cw_i, cw_l, cw_r, List.length_cons, List.length_nil, List.getElem?_cons_succ, List.getElem?_cons_zero, ↓reduceIte, decide_true, decide_false, Bool.false_eq_true, or_true, true_or, or_false, false_or, or_self, and_true, true_and, not_true_eq_false, not_false_eq_true, Nat.reduceEqDiff, Nat.reduceLT, Nat.reduceLeDiff, Nat.reduceAdd, Nat.reduceSub, Nat.reduceMul, Nat.reduceDiv, Nat.reduceMod, Nat.zero_add, Nat.add_zero, n_z, n_1, n_ltz, n_zlt, n_lt, n_eq, n_cl, n_in, nI_add, pk_mul, n_div, n_sub, nm_mod, ly_61, ly_69, MS_61, MS_w69, k12, q3, v7, b4]
      rw [show j + (r + 1) = j + 1 + r by omega]
      refine m_takesF ht U Q r (j + 1) (tE z t q) o' _ w' f (tE_ge hq).2 (k6.trans h6) (k16.trans h16) k10 (by omega) (fun hk o2 D2 w2 a0 a1 a4 ar ay => ?_) (fun hk o2 D2 w2 a0 a6 => ?_)
      · refine hQ1 (by simp only [tkOk]; rw [decide_eq_true q3', hk]; rfl) o2 D2 w2 a0 a1 a4 (fun x hx => ?_) (fun y hy => ?_)
        · cases x with
          | zero =>
            rw [Nat.add_zero, ay _ (by omega), ud_1, if_pos rfl]
            rfl
          | succ x =>
            have := ar x (by omega)
            rw [show j + 1 + x = j + (x + 1) by omega] at this
            exact this
        · rw [ay y (by omega), ud_1, if_neg (by omega)]
      · exact hQ0 (by simp only [tkOk]; rw [hk]; simp) o2 D2 w2 a0 (by simp only [tkBad]; rw [if_pos q3']; exact a6)
    · have q3' : ¬ tKd z t q = 3 := fun e => q3 (r2.mpr e)
      simp (disch := first | assumption | omega) only [r_163_0, r_163_1, r_163_3, r_163_4, r_163_7, r_163_8, r_163_11, r_163_12, r_163_15, r_163_16, r_163_19, r_163_20, r_163_21, r_163_22, r_163_25, r_163_26, r_163_27, r_163_30, r_163_31, r_163_34, r_163_37, r_163_38, r_163_41, r_163_42, r_163_45, r_163_46, r_163_49, r_163_50, r_163_53, r_163_54, o_ceq, o_cge, o_cne, o_get, o_go, o_ias, o_inc, o_ivv, o_lda, o_ldi, o_pi, o_rz, o_sti, o_ldi, acR_nx, acR_re, acR_ca, acR_no, acR_if, Kc_i, Kc_n, a_lg, a_ls, a_kl, a_pk, a_sw, cw_n, cw_i, cw_l, cw_r, List.length_cons, List.length_nil, List.getElem?_cons_succ, List.getElem?_cons_zero, ↓reduceIte, decide_true, decide_false, Bool.false_eq_true, or_true, true_or, or_false, false_or, or_self, and_true, true_and, not_true_eq_false, not_false_eq_true, Nat.reduceEqDiff, Nat.reduceLT, Nat.reduceLeDiff, Nat.reduceAdd, Nat.reduceSub, Nat.reduceMul, Nat.reduceDiv, Nat.reduceMod, Nat.zero_add, Nat.add_zero, n_z, n_1, n_ltz, n_zlt, n_lt, n_eq, n_cl, n_in, nI_add, pk_mul, n_div, n_sub, nm_mod, ly_61, MS_61, k12, q3]
      exact hQ0 (by simp only [tkOk]; rw [decide_eq_false q3']; rfl) o' D w' (k6.trans h6) (by simp only [tkBad]; rw [if_neg q3']; exact k11)
theorem m_takes {z : Nat} {t : Nat → Nat} {σ : a_HP} (ht : tx z t (σ.1 67)) (U : Nat → Int32) (Q : Option Value → a_HP → Prop) (r q : Nat) (o D : Nat → Int32) (w : Int64) (f : Int32) (hq : q ≤ z) (h6 : o 6 = nI z) (h16 : o 16 = f) (h10 : o 10 = nI q) (hr : r ≤ 4)
    (hQ1 : tkOk z t r q = true → ∀ (o' D' : Nat → Int32) (w' : Int64), o' 6 = nI z → o' 16 = f → o' 10 = nI (tkEnd z t r q) → (∀ x, x < r → D' x = nI (vl z t q x)) → Q (some (.int (nI 1))) (MS σ o' w' D' U))
    (hQ0 : tkOk z t r q = false → ∀ (o' D' : Nat → Int32) (w' : Int64), o' 6 = nI z → o' 11 = nI (tkBad z t r q) → Q (some (.int (nI 0))) (MS σ o' w' D' U)) :
    Cl 163 [.ref 61, .int (nI r)] (MS σ o w D U) Q := by
  have := m_takesF ht U Q r 0 q o D w f hq h6 h16 h10 (by omega) (fun hk o2 D2 w2 a0 a1 a4 ar ay => hQ1 hk o2 D2 w2 a0 a1 a4 (fun x hx => by have := ar x hx; rw [Nat.zero_add] at this; exact this)) (fun hk o2 D2 w2 a0 a6 => hQ0 hk o2 D2 w2 a0 a6)
  rw [Nat.zero_add] at this
  simp (disch := first | assumption | omega) only [cl_163, r_163_0, r_163_1, r_163_3, r_163_4, r_163_7, r_163_8, r_163_11, r_163_12, r_163_15, r_163_16, r_163_19, r_163_20, r_163_21, r_163_22, r_163_25, r_163_26, r_163_27, r_163_30, r_163_31, r_163_34, r_163_37, r_163_38, r_163_41, r_163_42, r_163_45, r_163_46, r_163_49, r_163_50, r_163_53, r_163_54, o_ceq, o_cge, o_cne, o_get, o_go, o_ias, o_inc, o_ivv, o_lda, o_ldi, o_pi, o_rz, o_sti, acR_nx, acR_re, acR_ca, acR_no, acR_if, Kc_i, Kc_n, a_lg, a_ls, a_kl, a_pk, a_sw, cw_n, cw_i, cw_l, cw_r, List.length_cons, List.length_nil, List.getElem?_cons_succ, List.getElem?_cons_zero, ↓reduceIte, decide_true, decide_false, Bool.false_eq_true, or_true, true_or, or_false, false_or, or_self, and_true, true_and, not_true_eq_false, not_false_eq_true, Nat.reduceEqDiff, Nat.reduceLT, Nat.reduceLeDiff, Nat.reduceAdd, Nat.reduceSub, Nat.reduceMul, Nat.reduceDiv, Nat.reduceMod, Nat.zero_add, Nat.add_zero, n_z, n_1, n_ltz, n_zlt, n_lt, n_eq, n_cl, n_in, nI_add, pk_mul, n_div, n_sub, nm_mod]
  exact this
def fitK (k v0 v1 v2 v3 : Nat) : Bool := if k = 0 then decide (v0 ≤ 1) else if k = 1 then (decide (v0 ≤ 15) && decide (v1 ≤ 5) && decide (1 ≤ v2) && decide (v2 ≤ 9) && decide (v3 ≤ 2)) else (decide (v0 ≤ 8) && decide (v1 ≤ 30))
def fsF (fit : Bool) (f : Int32) (i : Nat) : Int32 := if fit = false ∧ f = -1 then nI i else f
def telU (k v0 v1 v2 v3 : Nat) (U : Nat → Int32) : Nat → Int32 := if k = 0 then upd (upd U 0 (nI v0)) 1 (nI v1) else if fitK k v0 v1 v2 v3 = true then (if k = 1 then upd (upd (upd U (4 + v0) (nI v1)) (20 + v0) (nI v2)) (36 + v0) (nI v3) else upd U (52 + v0) (nI v1)) else U
theorem m_refuses (fit : Bool) (i : Nat) (σ : a_HP) (o D U : Nat → Int32) (w : Int64) (Q : Option Value → a_HP → Prop) : Cl 164 [.ref 61, .int (bV fit), .int (nI i)] (MS σ o w D U) Q = Q none (MS σ (upd o 16 (fsF fit (o 16) i)) w D U) := by
  unfold fsF
  cases fit with
  | true => simp (disch := first | assumption | omega) only [cl_164, r_164_0, r_164_1, r_164_2, r_164_5, r_164_6, r_164_9, r_164_10, r_164_13, r_164_14, r_164_17, r_164_18, r_164_21, r_164_24, o_cne, o_get, o_go, o_lda, o_ldi, o_ne, o_pi, o_put, o_rv, acR_nx, acR_re, acR_ca, acR_no, acR_if, Kc_i, Kc_n, a_lg, a_ls, a_kl, a_pk, a_sw, cw_n, cw_i, cw_l, cw_r, List.length_cons, List.length_nil, List.getElem?_cons_succ, List.getElem?_cons_zero, ↓reduceIte, decide_true, decide_false, Bool.false_eq_true, or_true, true_or, or_false, false_or, or_self, and_true, true_and, not_true_eq_false, not_false_eq_true, Nat.reduceEqDiff, Nat.reduceLT, Nat.reduceLeDiff, Nat.reduceAdd, Nat.reduceSub, Nat.reduceMul, Nat.reduceDiv, Nat.reduceMod, Nat.zero_add, Nat.add_zero, n_z, n_1, n_ltz, n_zlt, n_lt, n_eq, n_cl, n_in, nI_add, pk_mul, n_div, n_sub, nm_mod, ly_61, bV, MS_61, MS_w61, Bool.true_eq_false, false_and]
  | false =>
    by_cases q : o 16 = -1
    · simp (disch := first | assumption | omega) only [cl_164, r_164_0, r_164_1, r_164_2, r_164_5, r_164_6, r_164_9, r_164_10, r_164_13, r_164_14, r_164_17, r_164_18, r_164_21, r_164_24, o_cne, o_get, o_go, o_lda, o_ldi, o_ne, o_pi, o_put, o_rv, acR_nx, acR_re, acR_ca, acR_no, acR_if, Kc_i, Kc_n, a_lg, a_ls, a_kl, a_pk, a_sw, cw_n, cw_i, cw_l, cw_r, List.length_cons, List.length_nil, List.getElem?_cons_succ, List.getElem?_cons_zero, ↓reduceIte, decide_true, decide_false, Bool.false_eq_true, or_true, true_or, or_false, false_or, or_self, and_true, true_and, not_true_eq_false, not_false_eq_true, Nat.reduceEqDiff, Nat.reduceLT, Nat.reduceLeDiff, Nat.reduceAdd, Nat.reduceSub, Nat.reduceMul, Nat.reduceDiv, Nat.reduceMod, Nat.zero_add, Nat.add_zero, n_z, n_1, n_ltz, n_zlt, n_lt, n_eq, n_cl, n_in, nI_add, pk_mul, n_div, n_sub, nm_mod, ly_61, bV, MS_61, MS_w61, q]
    · simp (disch := first | assumption | omega) only [cl_164, r_164_0, r_164_1, r_164_2, r_164_5, r_164_6, r_164_9, r_164_10, r_164_13, r_164_14, r_164_17, r_164_18, r_164_21, r_164_24, o_cne, o_get, o_go, o_lda, o_ldi, o_ne, o_pi, o_put, o_rv, acR_nx, acR_re, acR_ca, acR_no, acR_if, Kc_i, Kc_n, a_lg, a_ls, a_kl, a_pk, a_sw, cw_n, cw_i, cw_l, cw_r, List.length_cons, List.length_nil, List.getElem?_cons_succ, List.getElem?_cons_zero, ↓reduceIte, decide_true, decide_false, Bool.false_eq_true, or_true, true_or, or_false, false_or, or_self, and_true, true_and, not_true_eq_false, not_false_eq_true, Nat.reduceEqDiff, Nat.reduceLT, Nat.reduceLeDiff, Nat.reduceAdd, Nat.reduceSub, Nat.reduceMul, Nat.reduceDiv, Nat.reduceMod, Nat.zero_add, Nat.add_zero, n_z, n_1, n_ltz, n_zlt, n_lt, n_eq, n_cl, n_in, nI_add, pk_mul, n_div, n_sub, nm_mod, ly_61, bV, MS_61, MS_w61, q, and_false]
