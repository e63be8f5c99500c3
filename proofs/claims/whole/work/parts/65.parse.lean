/-! items, by their tokens -/
def tkOk (z : Nat) (t : Nat → Nat) : Nat → Nat → Bool
  | 0, q => decide (tKd z t q = 4)
  | n + 1, q => decide (tKd z t q = 3) && tkOk z t n (tE z t q)
def tkEnd (z : Nat) (t : Nat → Nat) : Nat → Nat → Nat
  | 0, q => tE z t q
  | n + 1, q => tkEnd z t n (tE z t q)
def tkBad (z : Nat) (t : Nat → Nat) : Nat → Nat → Nat
  | 0, q => tS z t q
  | n + 1, q => if tKd z t q = 3 then tkBad z t n (tE z t q) else tS z t q
def vl (z : Nat) (t : Nat → Nat) : Nat → Nat → Nat
  | q, 0 => tV z t q
  | q, j + 1 => vl z t (tE z t q) j
def nn (k : Nat) : Nat := if k = 1 then 4 else 2
def bg (k i : Nat) : Bool := if i = 0 then decide (k = 0) else (decide (k = 1) || decide (k = 2))
def Pz (z : Nat) (t : Nat → Nat) : Nat → Nat
  | 0 => 0
  | i + 1 => tkEnd z t (nn (tKd z t (Pz z t i))) (tE z t (Pz z t i))
def okI (z : Nat) (t : Nat → Nat) (i : Nat) : Bool := bg (tKd z t (Pz z t i)) i && tkOk z t (nn (tKd z t (Pz z t i))) (tE z t (Pz z t i))
def flI (z : Nat) (t : Nat → Nat) (i : Nat) : Nat := if bg (tKd z t (Pz z t i)) i = true then tkBad z t (nn (tKd z t (Pz z t i))) (tE z t (Pz z t i)) else tS z t (Pz z t i)
theorem tS_ge {z : Nat} {t : Nat → Nat} {p : Nat} (hp : p ≤ z) : p ≤ tS z t p ∧ tS z t p ≤ z := sE_ge hp
theorem tEs_ge {z : Nat} {t : Nat → Nat} {s : Nat} (hs : s ≤ z) : s ≤ tEs z t s ∧ tEs z t s ≤ z := by
  unfold tEs
  by_cases q : s < z
  · rw [if_neg (by omega)]
    by_cases q1 : isL (t s) = true
    · rw [if_pos q1]; exact sE_ge hs
    · rw [if_neg q1]
      by_cases q2 : isF (t s) = true
      · rw [if_pos q2]; exact sE_ge hs
      · rw [if_neg q2]; omega
  · rw [if_pos q]; omega
theorem tE_ge {z : Nat} {t : Nat → Nat} {p : Nat} (hp : p ≤ z) : p ≤ tE z t p ∧ tE z t p ≤ z := by
  have h1 := tS_ge (t := t) hp
  have h2 := tEs_ge (t := t) h1.2
  unfold tE
  omega
theorem k_num {z : Nat} {t : Nat → Nat} {s : Nat} (h : tKs z t s = 3) : s < z ∧ isL (t s) = false ∧ isF (t s) = true ∧ sE isF z t s - s ≤ 2 ∧ tEs z t s = sE isF z t s := by
  unfold tKs at h
  unfold tEs
  by_cases q : s < z
  · rw [if_neg (by omega)] at h ⊢
    cases q1 : isL (t s) with
    | true =>
      rw [q1, if_pos rfl] at h
      unfold wk at h
      exfalso
      repeat' split at h
      all_goals omega
    | false =>
      rw [q1, if_neg (by decide)] at h
      cases q2 : isF (t s) with
      | true =>
        rw [q2, if_pos rfl] at h
        refine ⟨q, rfl, rfl, ?_, by simp⟩
        by_cases q3 : sE isF z t s - s ≤ 2
        · exact q3
        · rw [if_neg q3] at h; omega
      | false =>
        rw [q2, if_neg (by decide)] at h
        exfalso
        split at h <;> omega
  · rw [if_pos q] at h; omega
theorem k_stop {z : Nat} {t : Nat → Nat} {s : Nat} (h : tKs z t s = 4) : s < z ∧ tEs z t s = s + 1 := by
  unfold tKs at h
  unfold tEs
  by_cases q : s < z
  · rw [if_neg (by omega)] at h ⊢
    cases q1 : isL (t s) with
    | true =>
      rw [q1, if_pos rfl] at h
      unfold wk at h
      exfalso
      repeat' split at h
      all_goals omega
    | false =>
      rw [q1, if_neg (by decide)] at h
      cases q2 : isF (t s) with
      | true =>
        rw [q2, if_pos rfl] at h
        exfalso
        split at h <;> omega
      | false => exact ⟨q, by simp⟩
  · rw [if_pos q] at h; omega
theorem k_word {z : Nat} {t : Nat → Nat} {s : Nat} (h : tKs z t s < 3) : s < z ∧ isL (t s) = true ∧ tKs z t s = wk t s (sE isL z t s) ∧ tEs z t s = sE isL z t s ∧ 3 ≤ sE isL z t s - s := by
  unfold tKs at h ⊢
  unfold tEs
  by_cases q : s < z
  · rw [if_neg (by omega)] at h ⊢
    cases q1 : isL (t s) with
    | true =>
      rw [q1, if_pos rfl] at h
      refine ⟨q, rfl, by rw [if_pos rfl], by rw [if_neg (by omega), if_pos rfl], ?_⟩
      unfold wk at h
      have len : ∀ w, isW t s (sE isL z t s) w = true → sE isL z t s - s = w.length := by
        intro w hw
        unfold isW at hw
        simp only [Bool.and_eq_true, decide_eq_true_eq] at hw
        exact hw.1
      split at h
      · rename_i hw; have := len _ hw; simp [wNet] at this; omega
      · split at h
        · rename_i hw; have := len _ hw; simp [wKnot] at this; omega
        · split at h
          · rename_i hw; have := len _ hw; simp [wWide] at this; omega
          · omega
    | false =>
      rw [q1, if_neg (by decide)] at h
      exfalso
      repeat' split at h
      all_goals omega
  · rw [if_pos q] at h; omega
theorem n_end {z : Nat} {t : Nat → Nat} {q : Nat} (hq : q ≤ z) (h : tKd z t q = 3) : tS z t q + 1 ≤ tE z t q ∧ ¬ (tE z t q < z ∧ isF (t (tE z t q)) = true) := by
  have h1 := tS_ge (t := t) hq
  obtain ⟨a, -, c, -, e⟩ := k_num h
  unfold tE
  rw [e]
  have := sE_ge (P := isF) (t := t) (show tS z t q + 1 ≤ z by omega)
  refine ⟨by rw [sE_step a c]; omega, sE_end h1.2⟩
theorem n_next {z : Nat} {t : Nat → Nat} {q : Nat} (hq : q ≤ z) (h : tKd z t q = 3) (hn : ¬ (q < z ∧ isF (t q) = true)) : q + 1 ≤ tS z t q := by
  have h1 := tS_ge (t := t) hq
  obtain ⟨a, -, c, -, -⟩ := k_num h
  by_cases e : tS z t q = q
  · rw [e] at a c; exact absurd ⟨a, c⟩ hn
  · omega
theorem tk_le {z : Nat} {t : Nat → Nat} : ∀ r q, q ≤ z → q ≤ tkEnd z t r q ∧ tkEnd z t r q ≤ z
  | 0, q, hq => tE_ge hq
  | r + 1, q, hq => by
    have h1 := tE_ge (t := t) hq
    have h2 := tk_le (t := t) r (tE z t q) h1.2
    simp only [tkEnd]
    omega
theorem tk_1 {z : Nat} {t : Nat → Nat} : ∀ r q, q ≤ z → tkOk z t r q = true → q + 1 ≤ tkEnd z t r q
  | 0, q, hq, h => by
    simp only [tkOk, decide_eq_true_eq] at h
    have h1 := tS_ge (t := t) hq
    have := (k_stop h).2
    simp only [tkEnd]
    unfold tE
    omega
  | r + 1, q, hq, h => by
    simp only [tkOk, Bool.and_eq_true, decide_eq_true_eq] at h
    have h0 := tS_ge (t := t) hq
    have h1 := tE_ge (t := t) hq
    have h2 := n_end hq h.1
    have h3 := tk_le (t := t) r (tE z t q) h1.2
    simp only [tkEnd]
    omega
theorem tk_4 {z : Nat} {t : Nat → Nat} (r q : Nat) (hq : q ≤ z) (h : tkOk z t (r + 2) q = true) : q + 4 ≤ tkEnd z t (r + 2) q := by
  simp only [tkOk, Bool.and_eq_true, decide_eq_true_eq] at h
  have a0 := tS_ge (t := t) hq
  have a1 := tE_ge (t := t) hq
  have a2 := n_end hq h.1
  have b2 := n_next a1.2 h.2.1 a2.2
  have b1 := tE_ge (t := t) a1.2
  have b3 := n_end a1.2 h.2.1
  have c1 := tk_1 r _ b1.2 h.2.2
  simp only [tkEnd]
  omega
theorem bg_3 {k i : Nat} (h : bg k i = true) : k < 3 := by
  unfold bg at h
  split at h
  · simp at h; omega
  · simp at h; omega
theorem Pz_7 {z : Nat} {t : Nat → Nat} : ∀ i, (∀ j, j < i → okI z t j = true) → 7 * i ≤ Pz z t i ∧ Pz z t i ≤ z
  | 0, _ => ⟨Nat.le_refl _, Nat.zero_le _⟩
  | i + 1, h => by
    obtain ⟨h1, h2⟩ := Pz_7 i (fun j hj => h j (by omega))
    have ho := h i (by omega)
    unfold okI at ho
    rw [Bool.and_eq_true] at ho
    have k3 := bg_3 ho.1
    have w := k_word k3
    have a0 := tS_ge (t := t) h2
    have a1 := tE_ge (t := t) h2
    have e1 : tE z t (Pz z t i) = sE isL z t (tS z t (Pz z t i)) := w.2.2.2.1
    have l := w.2.2.2.2
    have c1 := tk_le (t := t) (nn (tKd z t (Pz z t i))) _ a1.2
    have c4 : tE z t (Pz z t i) + 4 ≤ tkEnd z t (nn (tKd z t (Pz z t i))) (tE z t (Pz z t i)) := by
      have ho2 := ho.2
      unfold nn at ho2 ⊢
      by_cases q : tKd z t (Pz z t i) = 1
      · rw [if_pos q] at ho2 ⊢; exact tk_4 2 _ a1.2 ho2
      · rw [if_neg q] at ho2 ⊢; exact tk_4 0 _ a1.2 ho2
    simp only [Pz]
    omega
/-- where the reading stops -/
def stq (z : Nat) (t : Nat → Nat) (n : Nat) : Bool := (decide (tKd z t (Pz z t n) = 5) && decide (0 < n)) || !okI z t n
theorem okI_k {z : Nat} {t : Nat → Nat} {n : Nat} (h : okI z t n = true) : ¬ tKd z t (Pz z t n) = 5 := by
  unfold okI at h
  rw [Bool.and_eq_true] at h
  have := bg_3 h.1
  omega
theorem stop_ex (z : Nat) (t : Nat → Nat) (hz : z ≤ 150) : ∃ n, n ≤ 21 ∧ stq z t n = true ∧ ∀ j, j < n → okI z t j = true := by
  have key : ∀ m, m ≤ 22 → (∃ n, n < m ∧ stq z t n = true ∧ ∀ j, j < n → okI z t j = true) ∨ ∀ j, j < m → okI z t j = true := by
    intro m
    induction m with
    | zero => intro _; exact Or.inr (fun j hj => by omega)
    | succ m ih =>
      intro hm
      rcases ih (by omega) with ⟨n, h1, h2⟩ | h
      · exact Or.inl ⟨n, by omega, h2⟩
      · cases q : okI z t m with
        | true =>
          refine Or.inr (fun j hj => ?_)
          by_cases e : j = m
          · rw [e]; exact q
          · exact h j (by omega)
        | false => exact Or.inl ⟨m, by omega, by unfold stq; rw [q]; simp, h⟩
  rcases key 22 (by omega) with ⟨n, h1, h2⟩ | h
  · exact ⟨n, by omega, h2⟩
  · have := Pz_7 22 h
    omega
/-! the class reads an item -/
theorem c_itemF {z : Nat} {t : Nat → Nat} {σ : a_HP} (ht : tx z t (σ.1 14)) {i : Nat} (hi : i ≤ 21) (x1 : Option Value) (Q : Option Value → a_HP → Prop) : ∀ (r j q : Nat) (o R : Nat → Int32), q ≤ z → o 0 = nI z → o 1 = nI i → o 4 = nI q → j + r ≤ 4 →
    (tkOk z t r q = true → ∀ o' R' : Nat → Int32, o' 0 = nI z → o' 1 = nI i → o' 4 = nI (tkEnd z t r q) → (∀ x, x < r → R' (i * 5 + (j + 1) + x) = nI (vl z t q x)) → (∀ y, y < i * 5 + (j + 1) → R' y = R y) → Q (some (.int (nI 1))) (TS σ o' R')) →
    (tkOk z t r q = false → ∀ o' R' : Nat → Int32, o' 0 = nI z → o' 6 = nI (tkBad z t r q) → Q (some (.int (nI 0))) (TS σ o' R')) →
    Rn 44 84 [some (.ref 13), x1, some (.int (nI (i * 5))), some (.int (nI (j + r))), some (.int (nI (j + 1)))] [] (TS σ o R) Q
  | 0, j, q, o, R, hq, h0, h1, h4, hj, hQ1, hQ0 => by
    rw [r_44_84]
    have jj : j < j + 1 := by omega
    simp (disch := first | assumption | omega) only [r_44_0, r_44_1, r_44_4, r_44_7, r_44_8, r_44_11, r_44_14, r_44_15, r_44_18, r_44_19, r_44_22, r_44_23, r_44_26, r_44_27, r_44_30, r_44_31, r_44_34, r_44_35, r_44_38, r_44_39, r_44_42, r_44_43, r_44_44, r_44_45, r_44_48, r_44_49, r_44_50, r_44_51, r_44_54, r_44_55, r_44_56, r_44_57, r_44_58, r_44_61, r_44_62, r_44_63, r_44_66, r_44_67, r_44_68, r_44_71, r_44_72, r_44_75, r_44_76, r_44_79, r_44_80, r_44_81, r_44_82, r_44_86, r_44_87, r_44_90, r_44_91, r_44_94, r_44_95, r_44_98, r_44_99, r_44_102, r_44_103, r_44_104, r_44_105, r_44_108, r_44_109, r_44_111, r_44_112, r_44_113, r_44_116, r_44_117, r_44_120, r_44_123, r_44_124, r_44_127, r_44_128, r_44_131, r_44_132, r_44_135, r_44_136, r_44_139, r_44_140, f_add, f_mul, o_bi, o_ceq, o_cgt, o_cne, o_get, o_go, o_ias, o_inc, o_ivv, o_lda, o_ldi, o_ne, o_pi, o_rz, o_sti, acR_nx, acR_re, acR_ca, acR_no, acR_if, Kc_i, Kc_n, a_lg, a_ls, a_kl, a_pk, a_sw, cw_n, cw_i, cw_l, cw_r, List.length_cons, List.length_nil, List.getElem?_cons_succ, List.getElem?_cons_zero, ↓reduceIte, decide_true, decide_false, Bool.false_eq_true, or_true, true_or, or_false, false_or, or_self, and_true, true_and, not_true_eq_false, not_false_eq_true, Nat.reduceEqDiff, Nat.reduceLT, Nat.reduceLeDiff, Nat.reduceAdd, Nat.reduceSub, Nat.reduceMul, Nat.reduceDiv, Nat.reduceMod, Nat.zero_add, Nat.add_zero, n_z, n_1, n_ltz, n_zlt, n_lt, n_eq, n_cl, n_in, nI_add, pk_mul, n_div, n_sub, nm_mod, ly_13, jj]
    refine c_takeToken ht h0 h4 hq _ (fun o' hk => ?_)
    obtain ⟨k0, k1, k4, k5, k6, k7⟩ := hk
    have kb : tKd z t q < 2147483648 := by
      unfold tKd tKs wk
      repeat' split
      all_goals omega
    by_cases q4 : tKd z t q = 4
    · simp (disch := first | assumption | omega) only [r_44_0, r_44_1, r_44_4, r_44_7, r_44_8, r_44_11, r_44_14, r_44_15, r_44_18, r_44_19, r_44_22, r_44_23, r_44_26, r_44_27, r_44_30, r_44_31, r_44_34, r_44_35, r_44_38, r_44_39, r_44_42, r_44_43, r_44_44, r_44_45, r_44_48, r_44_49, r_44_50, r_44_51, r_44_54, r_44_55, r_44_56, r_44_57, r_44_58, r_44_61, r_44_62, r_44_63, r_44_66, r_44_67, r_44_68, r_44_71, r_44_72, r_44_75, r_44_76, r_44_79, r_44_80, r_44_81, r_44_82, r_44_86, r_44_87, r_44_90, r_44_91, r_44_94, r_44_95, r_44_98, r_44_99, r_44_102, r_44_103, r_44_104, r_44_105, r_44_108, r_44_109, r_44_111, r_44_112, r_44_113, r_44_116, r_44_117, r_44_120, r_44_123, r_44_124, r_44_127, r_44_128, r_44_131, r_44_132, r_44_135, r_44_136, r_44_139, r_44_140, f_add, f_mul, o_bi, o_ceq, o_cgt, o_cne, o_get, o_go, o_ias, o_inc, o_ivv, o_lda, o_ldi, o_ne, o_pi, o_rz, o_sti, acR_nx, acR_re, acR_ca, acR_no, acR_if, Kc_i, Kc_n, a_lg, a_ls, a_kl, a_pk, a_sw, cw_n, cw_i, cw_l, cw_r, List.length_cons, List.length_nil, List.getElem?_cons_succ, List.getElem?_cons_zero, ↓reduceIte, decide_true, decide_false, Bool.false_eq_true, or_true, true_or, or_false, false_or, or_self, and_true, true_and, not_true_eq_false, not_false_eq_true, Nat.reduceEqDiff, Nat.reduceLT, Nat.reduceLeDiff, Nat.reduceAdd, Nat.reduceSub, Nat.reduceMul, Nat.reduceDiv, Nat.reduceMod, Nat.zero_add, Nat.add_zero, n_z, n_1, n_ltz, n_zlt, n_lt, n_eq, n_cl, n_in, nI_add, pk_mul, n_div, n_sub, nm_mod, ly_13, TS_13, k5, q4]
      exact hQ1 (by simp only [tkOk]; exact decide_eq_true q4) o' R (k0.trans h0) (k1.trans h1) k4 (fun x hx => by omega) (fun _ _ => rfl)
    · simp (disch := first | assumption | omega) only [r_44_0, r_44_1, r_44_4, r_44_7, r_44_8, r_44_11, r_44_14, r_44_15, r_44_18, r_44_19, r_44_22, r_44_23, r_44_26, r_44_27, r_44_30, r_44_31, r_44_34, r_44_35, r_44_38, r_44_39, r_44_42, r_44_43, r_44_44, r_44_45, r_44_48, r_44_49, r_44_50, r_44_51, r_44_54, r_44_55, r_44_56, r_44_57, r_44_58, r_44_61, r_44_62, r_44_63, r_44_66, r_44_67, r_44_68, r_44_71, r_44_72, r_44_75, r_44_76, r_44_79, r_44_80, r_44_81, r_44_82, r_44_86, r_44_87, r_44_90, r_44_91, r_44_94, r_44_95, r_44_98, r_44_99, r_44_102, r_44_103, r_44_104, r_44_105, r_44_108, r_44_109, r_44_111, r_44_112, r_44_113, r_44_116, r_44_117, r_44_120, r_44_123, r_44_124, r_44_127, r_44_128, r_44_131, r_44_132, r_44_135, r_44_136, r_44_139, r_44_140, f_add, f_mul, o_bi, o_ceq, o_cgt, o_cne, o_get, o_go, o_ias, o_inc, o_ivv, o_lda, o_ldi, o_ne, o_pi, o_rz, o_sti, acR_nx, acR_re, acR_ca, acR_no, acR_if, Kc_i, Kc_n, a_lg, a_ls, a_kl, a_pk, a_sw, cw_n, cw_i, cw_l, cw_r, List.length_cons, List.length_nil, List.getElem?_cons_succ, List.getElem?_cons_zero, ↓reduceIte, decide_true, decide_false, Bool.false_eq_true, or_true, true_or, or_false, false_or, or_self, and_true, true_and, not_true_eq_false, not_false_eq_true, Nat.reduceEqDiff, Nat.reduceLT, Nat.reduceLeDiff, Nat.reduceAdd, Nat.reduceSub, Nat.reduceMul, Nat.reduceDiv, Nat.reduceMod, Nat.zero_add, Nat.add_zero, n_z, n_1, n_ltz, n_zlt, n_lt, n_eq, n_cl, n_in, nI_add, pk_mul, n_div, n_sub, nm_mod, ly_13, TS_13, k5, q4]
      exact hQ0 (by simp only [tkOk]; exact decide_eq_false q4) o' R (k0.trans h0) k6
  | r + 1, j, q, o, R, hq, h0, h1, h4, hj, hQ1, hQ0 => by
    rw [r_44_84]
    have jj : ¬ j + (r + 1) < j + 1 := by omega
    simp (disch := first | assumption | omega) only [r_44_0, r_44_1, r_44_4, r_44_7, r_44_8, r_44_11, r_44_14, r_44_15, r_44_18, r_44_19, r_44_22, r_44_23, r_44_26, r_44_27, r_44_30, r_44_31, r_44_34, r_44_35, r_44_38, r_44_39, r_44_42, r_44_43, r_44_44, r_44_45, r_44_48, r_44_49, r_44_50, r_44_51, r_44_54, r_44_55, r_44_56, r_44_57, r_44_58, r_44_61, r_44_62, r_44_63, r_44_66, r_44_67, r_44_68, r_44_71, r_44_72, r_44_75, r_44_76, r_44_79, r_44_80, r_44_81, r_44_82, r_44_86, r_44_87, r_44_90, r_44_91, r_44_94, r_44_95, r_44_98, r_44_99, r_44_102, r_44_103, r_44_104, r_44_105, r_44_108, r_44_109, r_44_111, r_44_112, r_44_113, r_44_116, r_44_117, r_44_120, r_44_123, r_44_124, r_44_127, r_44_128, r_44_131, r_44_132, r_44_135, r_44_136, r_44_139, r_44_140, f_add, f_mul, o_bi, o_ceq, o_cgt, o_cne, o_get, o_go, o_ias, o_inc, o_ivv, o_lda, o_ldi, o_ne, o_pi, o_rz, o_sti, acR_nx, acR_re, acR_ca, acR_no, acR_if, Kc_i, Kc_n, a_lg, a_ls, a_kl, a_pk, a_sw, cw_n, cw_i, cw_l, cw_r, List.length_cons, List.length_nil, List.getElem?_cons_succ, List.getElem?_cons_zero, ↓reduceIte, decide_true, decide_false, Bool.false_eq_true, or_true, true_or, or_false, false_or, or_self, and_true, true_and, not_true_eq_false, not_false_eq_true, Nat.reduceEqDiff, Nat.reduceLT, Nat.reduceLeDiff, Nat.reduceAdd, Nat.reduceSub, Nat.reduceMul, Nat.reduceDiv, Nat.reduceMod, Nat.zero_add, Nat.add_zero, n_z, n_1, n_ltz, n_zlt, n_lt, n_eq, n_cl, n_in, nI_add, pk_mul, n_div, n_sub, nm_mod, ly_13, jj]
    refine c_takeToken ht h0 h4 hq _ (fun o' hk => ?_)
    obtain ⟨k0, k1, k4, k5, k6, k7⟩ := hk
    have kb : tKd z t q < 2147483648 := by
      unfold tKd tKs wk
      repeat' split
      all_goals omega
    by_cases q3 : tKd z t q = 3
    · have b110 : i * 5 + (j + 1) < 110 := by omega
      have v7 := k7 q3
      simp (disch := first | assumption | omega) only [r_44_0, r_44_1, r_44_4, r_44_7, r_44_8, r_44_11, r_44_14, r_44_15, r_44_18, r_44_19, r_44_22, r_44_23, r_44_26, r_44_27, r_44_30, r_44_31, r_44_34, r_44_35, r_44_38, r_44_39, r_44_42, r_44_43, r_44_44, r_44_45, r_44_48, r_44_49, r_44_50, r_44_51, r_44_54, r_44_55, r_44_56, r_44_57, r_44_58, r_44_61, r_44_62, r_44_63, r_44_66, r_44_67, r_44_68, r_44_71, r_44_72, r_44_75, r_44_76, r_44_79, r_44_80, r_44_81, r_44_82, r_44_86, r_44_87, r_44_90, r_44_91, r_44_94, r_44_95, r_44_98, r_44_99, r_44_102, r_44_103, r_44_104, r_44_105, r_44_108, r_44_109, r_44_111, r_44_112, r_44_113, r_44_116, r_44_117, r_44_120, r_44_123, r_44_124, r_44_127, r_44_128, r_44_131, r_44_132, r_44_135, r_44_136, r_44_139, r_44_140, f_add, f_mul, o_bi, o_ceq, o_cgt, o_cne, o_get, o_go, o_ias, o_inc, o_ivv, o_lda, o_ldi, o_ne, o_pi, o_rz, o_sti, acR_nx, acR_re, acR_ca, acR_no, acR_if, Kc_i, Kc_n, a_lg, a_ls, a_kl, a_pk, a_sw, cw_n, cw_i, cw_l, cw_r, List.length_cons, List.length_nil, List.getElem?_cons_succ, List.getElem?_cons_zero, ↓reduceIte, decide_true, decide_false, Bool.false_eq_true, or_true, true_or, or_false, false_or, or_self, and_true, true_and, not_true_eq_false, not_false_eq_true, Nat.reduceEqDiff, Nat.reduceLT, Nat.reduceLeDiff, Nat.reduceAdd, Nat.reduceSub, Nat.reduceMul, Nat.reduceDiv, Nat.reduceMod, Nat.zero_add, Nat.add_zero, n_z, n_1, n_ltz, n_zlt, n_lt, n_eq, n_cl, n_in, nI_add, pk_mul, n_div, n_sub, nm_mod, ly_13, ly_15, TS_13, TS_w15, k5, q3, v7, b110]
      rw [show j + (r + 1) = j + 1 + r by omega]
      refine c_itemF ht hi x1 Q r (j + 1) (tE z t q) o' _ (tE_ge hq).2 (k0.trans h0) (k1.trans h1) k4 (by omega) (fun hk o2 R2 a0 a1 a4 ar ay => ?_) (fun hk o2 R2 a0 a6 => ?_)
      · refine hQ1 (by simp only [tkOk]; rw [decide_eq_true q3, hk]; rfl) o2 R2 a0 a1 a4 (fun x hx => ?_) (fun y hy => ?_)
        · cases x with
          | zero =>
            rw [Nat.add_zero, ay _ (by omega), ud_1, if_pos rfl]
            rfl
          | succ x =>
            have := ar x (by omega)
            rw [show i * 5 + (j + 1 + 1) + x = i * 5 + (j + 1) + (x + 1) by omega] at this
            exact this
        · rw [ay y (by omega), ud_1, if_neg (by omega)]
      · exact hQ0 (by simp only [tkOk]; rw [hk]; simp) o2 R2 a0 (by simp only [tkBad]; rw [if_pos q3]; exact a6)
    · simp (disch := first | assumption | omega) only [r_44_0, r_44_1, r_44_4, r_44_7, r_44_8, r_44_11, r_44_14, r_44_15, r_44_18, r_44_19, r_44_22, r_44_23, r_44_26, r_44_27, r_44_30, r_44_31, r_44_34, r_44_35, r_44_38, r_44_39, r_44_42, r_44_43, r_44_44, r_44_45, r_44_48, r_44_49, r_44_50, r_44_51, r_44_54, r_44_55, r_44_56, r_44_57, r_44_58, r_44_61, r_44_62, r_44_63, r_44_66, r_44_67, r_44_68, r_44_71, r_44_72, r_44_75, r_44_76, r_44_79, r_44_80, r_44_81, r_44_82, r_44_86, r_44_87, r_44_90, r_44_91, r_44_94, r_44_95, r_44_98, r_44_99, r_44_102, r_44_103, r_44_104, r_44_105, r_44_108, r_44_109, r_44_111, r_44_112, r_44_113, r_44_116, r_44_117, r_44_120, r_44_123, r_44_124, r_44_127, r_44_128, r_44_131, r_44_132, r_44_135, r_44_136, r_44_139, r_44_140, f_add, f_mul, o_bi, o_ceq, o_cgt, o_cne, o_get, o_go, o_ias, o_inc, o_ivv, o_lda, o_ldi, o_ne, o_pi, o_rz, o_sti, acR_nx, acR_re, acR_ca, acR_no, acR_if, Kc_i, Kc_n, a_lg, a_ls, a_kl, a_pk, a_sw, cw_n, cw_i, cw_l, cw_r, List.length_cons, List.length_nil, List.getElem?_cons_succ, List.getElem?_cons_zero, ↓reduceIte, decide_true, decide_false, Bool.false_eq_true, or_true, true_or, or_false, false_or, or_self, and_true, true_and, not_true_eq_false, not_false_eq_true, Nat.reduceEqDiff, Nat.reduceLT, Nat.reduceLeDiff, Nat.reduceAdd, Nat.reduceSub, Nat.reduceMul, Nat.reduceDiv, Nat.reduceMod, Nat.zero_add, Nat.add_zero, n_z, n_1, n_ltz, n_zlt, n_lt, n_eq, n_cl, n_in, nI_add, pk_mul, n_div, n_sub, nm_mod, ly_13, TS_13, k5, q3]
      exact hQ0 (by simp only [tkOk]; rw [decide_eq_false q3]; rfl) o' R (k0.trans h0) (by simp only [tkBad]; rw [if_neg q3]; exact k6)
theorem c_takeItem {z : Nat} {t : Nat → Nat} {σ : a_HP} (ht : tx z t (σ.1 14)) {i p : Nat} (hi : i ≤ 21) (hp : p ≤ z) {o R : Nat → Int32} (h0 : o 0 = nI z) (h1 : o 1 = nI i) (h4 : o 4 = nI (tE z t p)) (h5 : o 5 = nI (tKd z t p)) (h6 : o 6 = nI (tS z t p)) (Q : Option Value → a_HP → Prop)
    (hQ1 : bg (tKd z t p) i = true → tkOk z t (nn (tKd z t p)) (tE z t p) = true → ∀ o' R' : Nat → Int32, o' 0 = nI z → o' 1 = nI i → o' 4 = nI (tkEnd z t (nn (tKd z t p)) (tE z t p)) → R' (i * 5) = nI (tKd z t p) → (∀ x, x < nn (tKd z t p) → R' (i * 5 + 1 + x) = nI (vl z t (tE z t p) x)) → (∀ y, y < i * 5 → R' y = R y) → Q (some (.int (nI 1))) (TS σ o' R'))
    (hQ0 : (bg (tKd z t p) i && tkOk z t (nn (tKd z t p)) (tE z t p)) = false → ∀ o' R' : Nat → Int32, o' 0 = nI z → o' 6 = nI (if bg (tKd z t p) i = true then tkBad z t (nn (tKd z t p)) (tE z t p) else tS z t p) → Q (some (.int (nI 0))) (TS σ o' R')) : Cl 44 [.ref 13] (TS σ o R) Q := by
  have kb : tKd z t p < 2147483648 := by
    unfold tKd tKs wk
    repeat' split
    all_goals omega
  generalize hk : tKd z t p = k at *
  have go : bg k i = true → Rn 44 50 [some (.ref 13), some (.int (nI 1)), none, none, none] [] (TS σ o R) Q := by
    intro hb
    have b110 : i * 5 < 110 := by omega
    have main : Rn 44 84 [some (.ref 13), some (.int (nI 1)), some (.int (nI (i * 5))), some (.int (nI (nn k))), some (.int (nI 1))] [] (TS σ o (upd R (i * 5) (nI k))) Q := by
      have := c_itemF ht hi (some (.int (nI 1))) Q (nn k) 0 (tE z t p) o (upd R (i * 5) (nI k)) (tE_ge hp).2 h0 h1 h4 (by unfold nn; split <;> omega) (fun hk o2 R2 a0 a1 a4 ar ay => ?_) (fun hk o2 R2 a0 a6 => ?_)
      · rw [Nat.zero_add] at this
        exact this
      · refine hQ1 hb hk o2 R2 a0 a1 a4 ?_ ar (fun y hy => ?_)
        · rw [ay _ (by omega), ud_1, if_pos rfl]
        · rw [ay y (by omega), ud_1, if_neg (by omega)]
      · exact hQ0 (by rw [hk, Bool.and_false]) o2 R2 a0 (by rw [if_pos hb]; exact a6)
    unfold nn at main
    by_cases k1 : k = 1
    · rw [if_pos k1] at main
      simp (disch := first | assumption | omega) only [r_44_0, r_44_1, r_44_4, r_44_7, r_44_8, r_44_11, r_44_14, r_44_15, r_44_18, r_44_19, r_44_22, r_44_23, r_44_26, r_44_27, r_44_30, r_44_31, r_44_34, r_44_35, r_44_38, r_44_39, r_44_42, r_44_43, r_44_44, r_44_45, r_44_48, r_44_49, r_44_50, r_44_51, r_44_54, r_44_55, r_44_56, r_44_57, r_44_58, r_44_61, r_44_62, r_44_63, r_44_66, r_44_67, r_44_68, r_44_71, r_44_72, r_44_75, r_44_76, r_44_79, r_44_80, r_44_81, r_44_82, r_44_86, r_44_87, r_44_90, r_44_91, r_44_94, r_44_95, r_44_98, r_44_99, r_44_102, r_44_103, r_44_104, r_44_105, r_44_108, r_44_109, r_44_111, r_44_112, r_44_113, r_44_116, r_44_117, r_44_120, r_44_123, r_44_124, r_44_127, r_44_128, r_44_131, r_44_132, r_44_135, r_44_136, r_44_139, r_44_140, f_add, f_mul, o_bi, o_ceq, o_cgt, o_cne, o_get, o_go, o_ias, o_inc, o_ivv, o_lda, o_ldi, o_ne, o_pi, o_rz, o_sti, acR_nx, acR_re, acR_ca, acR_no, acR_if, Kc_i, Kc_n, a_lg, a_ls, a_kl, a_pk, a_sw, cw_n, cw_i, cw_l, cw_r, List.length_cons, List.length_nil, List.getElem?_cons_succ, List.getElem?_cons_zero, ↓reduceIte, decide_true, decide_false, Bool.false_eq_true, or_true, true_or, or_false, false_or, or_self, and_true, true_and, not_true_eq_false, not_false_eq_true, Nat.reduceEqDiff, Nat.reduceLT, Nat.reduceLeDiff, Nat.reduceAdd, Nat.reduceSub, Nat.reduceMul, Nat.reduceDiv, Nat.reduceMod, Nat.zero_add, Nat.add_zero, n_z, n_1, n_ltz, n_zlt, n_lt, n_eq, n_cl, n_in, nI_add, pk_mul, n_div, n_sub, nm_mod, ly_13, ly_15, TS_13, TS_w15, h1, h5, k1, b110]
      rw [k1] at main
      exact main
    · rw [if_neg k1] at main
      simp (disch := first | assumption | omega) only [r_44_0, r_44_1, r_44_4, r_44_7, r_44_8, r_44_11, r_44_14, r_44_15, r_44_18, r_44_19, r_44_22, r_44_23, r_44_26, r_44_27, r_44_30, r_44_31, r_44_34, r_44_35, r_44_38, r_44_39, r_44_42, r_44_43, r_44_44, r_44_45, r_44_48, r_44_49, r_44_50, r_44_51, r_44_54, r_44_55, r_44_56, r_44_57, r_44_58, r_44_61, r_44_62, r_44_63, r_44_66, r_44_67, r_44_68, r_44_71, r_44_72, r_44_75, r_44_76, r_44_79, r_44_80, r_44_81, r_44_82, r_44_86, r_44_87, r_44_90, r_44_91, r_44_94, r_44_95, r_44_98, r_44_99, r_44_102, r_44_103, r_44_104, r_44_105, r_44_108, r_44_109, r_44_111, r_44_112, r_44_113, r_44_116, r_44_117, r_44_120, r_44_123, r_44_124, r_44_127, r_44_128, r_44_131, r_44_132, r_44_135, r_44_136, r_44_139, r_44_140, f_add, f_mul, o_bi, o_ceq, o_cgt, o_cne, o_get, o_go, o_ias, o_inc, o_ivv, o_lda, o_ldi, o_ne, o_pi, o_rz, o_sti, acR_nx, acR_re, acR_ca, acR_no, acR_if, Kc_i, Kc_n, a_lg, a_ls, a_kl, a_pk, a_sw, cw_n, cw_i, cw_l, cw_r, List.length_cons, List.length_nil, List.getElem?_cons_succ, List.getElem?_cons_zero, ↓reduceIte, decide_true, decide_false, Bool.false_eq_true, or_true, true_or, or_false, false_or, or_self, and_true, true_and, not_true_eq_false, not_false_eq_true, Nat.reduceEqDiff, Nat.reduceLT, Nat.reduceLeDiff, Nat.reduceAdd, Nat.reduceSub, Nat.reduceMul, Nat.reduceDiv, Nat.reduceMod, Nat.zero_add, Nat.add_zero, n_z, n_1, n_ltz, n_zlt, n_lt, n_eq, n_cl, n_in, nI_add, pk_mul, n_div, n_sub, nm_mod, ly_13, ly_15, TS_13, TS_w15, h1, h5, k1, b110]
      exact main
  have no : bg k i = false → Q (some (.int (nI 0))) (TS σ o R) := fun hb => hQ0 (by rw [hb, Bool.false_and]) o R h0 (by rw [hb, if_neg (by decide)]; exact h6)
  unfold bg at go no
  by_cases i0 : i = 0
  · rw [if_pos i0] at go no
    by_cases k0 : k = 0
    · simp (disch := first | assumption | omega) only [cl_44, r_44_0, r_44_1, r_44_4, r_44_7, r_44_8, r_44_11, r_44_14, r_44_15, r_44_18, r_44_19, r_44_22, r_44_23, r_44_26, r_44_27, r_44_30, r_44_31, r_44_34, r_44_35, r_44_38, r_44_39, r_44_42, r_44_43, r_44_44, r_44_45, r_44_48, r_44_49, r_44_51, r_44_54, r_44_55, r_44_56, r_44_57, r_44_58, r_44_61, r_44_62, r_44_63, r_44_66, r_44_67, r_44_68, r_44_71, r_44_72, r_44_75, r_44_76, r_44_79, r_44_80, r_44_81, r_44_82, r_44_86, r_44_87, r_44_90, r_44_91, r_44_94, r_44_95, r_44_98, r_44_99, r_44_102, r_44_103, r_44_104, r_44_105, r_44_108, r_44_109, r_44_111, r_44_112, r_44_113, r_44_116, r_44_117, r_44_120, r_44_123, r_44_124, r_44_127, r_44_128, r_44_131, r_44_132, r_44_135, r_44_136, r_44_139, r_44_140, f_add, f_mul, o_bi, o_ceq, o_cgt, o_cne, o_get, o_go, o_ias, o_inc, o_ivv, o_lda, o_ldi, o_ne, o_pi, o_rz, o_sti, acR_nx, acR_re, acR_ca, acR_no, acR_if, Kc_i, Kc_n, a_lg, a_ls, a_kl, a_pk, a_sw, cw_n, cw_i, cw_l, cw_r, List.length_cons, List.length_nil, List.getElem?_cons_succ, List.getElem?_cons_zero, ↓reduceIte, decide_true, decide_false, Bool.false_eq_true, or_true, true_or, or_false, false_or, or_self, and_true, true_and, not_true_eq_false, not_false_eq_true, Nat.reduceEqDiff, Nat.reduceLT, Nat.reduceLeDiff, Nat.reduceAdd, Nat.reduceSub, Nat.reduceMul, Nat.reduceDiv, Nat.reduceMod, Nat.zero_add, Nat.add_zero, n_z, n_1, n_ltz, n_zlt, n_lt, n_eq, n_cl, n_in, nI_add, pk_mul, n_div, n_sub, nm_mod, ly_13, TS_13, h1, h5, i0, k0]
      exact go (decide_eq_true k0)
    · simp (disch := first | assumption | omega) only [cl_44, r_44_0, r_44_1, r_44_4, r_44_7, r_44_8, r_44_11, r_44_14, r_44_15, r_44_18, r_44_19, r_44_22, r_44_23, r_44_26, r_44_27, r_44_30, r_44_31, r_44_34, r_44_35, r_44_38, r_44_39, r_44_42, r_44_43, r_44_44, r_44_45, r_44_48, r_44_49, r_44_51, r_44_54, r_44_55, r_44_56, r_44_57, r_44_58, r_44_61, r_44_62, r_44_63, r_44_66, r_44_67, r_44_68, r_44_71, r_44_72, r_44_75, r_44_76, r_44_79, r_44_80, r_44_81, r_44_82, r_44_86, r_44_87, r_44_90, r_44_91, r_44_94, r_44_95, r_44_98, r_44_99, r_44_102, r_44_103, r_44_104, r_44_105, r_44_108, r_44_109, r_44_111, r_44_112, r_44_113, r_44_116, r_44_117, r_44_120, r_44_123, r_44_124, r_44_127, r_44_128, r_44_131, r_44_132, r_44_135, r_44_136, r_44_139, r_44_140, f_add, f_mul, o_bi, o_ceq, o_cgt, o_cne, o_get, o_go, o_ias, o_inc, o_ivv, o_lda, o_ldi, o_ne, o_pi, o_rz, o_sti, acR_nx, acR_re, acR_ca, acR_no, acR_if, Kc_i, Kc_n, a_lg, a_ls, a_kl, a_pk, a_sw, cw_n, cw_i, cw_l, cw_r, List.length_cons, List.length_nil, List.getElem?_cons_succ, List.getElem?_cons_zero, ↓reduceIte, decide_true, decide_false, Bool.false_eq_true, or_true, true_or, or_false, false_or, or_self, and_true, true_and, not_true_eq_false, not_false_eq_true, Nat.reduceEqDiff, Nat.reduceLT, Nat.reduceLeDiff, Nat.reduceAdd, Nat.reduceSub, Nat.reduceMul, Nat.reduceDiv, Nat.reduceMod, Nat.zero_add, Nat.add_zero, n_z, n_1, n_ltz, n_zlt, n_lt, n_eq, n_cl, n_in, nI_add, pk_mul, n_div, n_sub, nm_mod, ly_13, TS_13, h1, h5, i0, k0]
      exact no (decide_eq_false k0)
  · rw [if_neg i0] at go no
    by_cases k1 : k = 1
    · simp (disch := first | assumption | omega) only [cl_44, r_44_0, r_44_1, r_44_4, r_44_7, r_44_8, r_44_11, r_44_14, r_44_15, r_44_18, r_44_19, r_44_22, r_44_23, r_44_26, r_44_27, r_44_30, r_44_31, r_44_34, r_44_35, r_44_38, r_44_39, r_44_42, r_44_43, r_44_44, r_44_45, r_44_48, r_44_49, r_44_51, r_44_54, r_44_55, r_44_56, r_44_57, r_44_58, r_44_61, r_44_62, r_44_63, r_44_66, r_44_67, r_44_68, r_44_71, r_44_72, r_44_75, r_44_76, r_44_79, r_44_80, r_44_81, r_44_82, r_44_86, r_44_87, r_44_90, r_44_91, r_44_94, r_44_95, r_44_98, r_44_99, r_44_102, r_44_103, r_44_104, r_44_105, r_44_108, r_44_109, r_44_111, r_44_112, r_44_113, r_44_116, r_44_117, r_44_120, r_44_123, r_44_124, r_44_127, r_44_128, r_44_131, r_44_132, r_44_135, r_44_136, r_44_139, r_44_140, f_add, f_mul, o_bi, o_ceq, o_cgt, o_cne, o_get, o_go, o_ias, o_inc, o_ivv, o_lda, o_ldi, o_ne, o_pi, o_rz, o_sti, acR_nx, acR_re, acR_ca, acR_no, acR_if, Kc_i, Kc_n, a_lg, a_ls, a_kl, a_pk, a_sw, cw_n, cw_i, cw_l, cw_r, List.length_cons, List.length_nil, List.getElem?_cons_succ, List.getElem?_cons_zero, ↓reduceIte, decide_true, decide_false, Bool.false_eq_true, or_true, true_or, or_false, false_or, or_self, and_true, true_and, not_true_eq_false, not_false_eq_true, Nat.reduceEqDiff, Nat.reduceLT, Nat.reduceLeDiff, Nat.reduceAdd, Nat.reduceSub, Nat.reduceMul, Nat.reduceDiv, Nat.reduceMod, Nat.zero_add, Nat.add_zero, n_z, n_1, n_ltz, n_zlt, n_lt, n_eq, n_cl, n_in, nI_add, pk_mul, n_div, n_sub, nm_mod, ly_13, TS_13, h1, h5, i0, k1]
      exact go (by simp [k1])
    · by_cases k2 : k = 2
      · simp (disch := first | assumption | omega) only [cl_44, r_44_0, r_44_1, r_44_4, r_44_7, r_44_8, r_44_11, r_44_14, r_44_15, r_44_18, r_44_19, r_44_22, r_44_23, r_44_26, r_44_27, r_44_30, r_44_31, r_44_34, r_44_35, r_44_38, r_44_39, r_44_42, r_44_43, r_44_44, r_44_45, r_44_48, r_44_49, r_44_51, r_44_54, r_44_55, r_44_56, r_44_57, r_44_58, r_44_61, r_44_62, r_44_63, r_44_66, r_44_67, r_44_68, r_44_71, r_44_72, r_44_75, r_44_76, r_44_79, r_44_80, r_44_81, r_44_82, r_44_86, r_44_87, r_44_90, r_44_91, r_44_94, r_44_95, r_44_98, r_44_99, r_44_102, r_44_103, r_44_104, r_44_105, r_44_108, r_44_109, r_44_111, r_44_112, r_44_113, r_44_116, r_44_117, r_44_120, r_44_123, r_44_124, r_44_127, r_44_128, r_44_131, r_44_132, r_44_135, r_44_136, r_44_139, r_44_140, f_add, f_mul, o_bi, o_ceq, o_cgt, o_cne, o_get, o_go, o_ias, o_inc, o_ivv, o_lda, o_ldi, o_ne, o_pi, o_rz, o_sti, acR_nx, acR_re, acR_ca, acR_no, acR_if, Kc_i, Kc_n, a_lg, a_ls, a_kl, a_pk, a_sw, cw_n, cw_i, cw_l, cw_r, List.length_cons, List.length_nil, List.getElem?_cons_succ, List.getElem?_cons_zero, ↓reduceIte, decide_true, decide_false, Bool.false_eq_true, or_true, true_or, or_false, false_or, or_self, and_true, true_and, not_true_eq_false, not_false_eq_true, Nat.reduceEqDiff, Nat.reduceLT, Nat.reduceLeDiff, Nat.reduceAdd, Nat.reduceSub, Nat.reduceMul, Nat.reduceDiv, Nat.reduceMod, Nat.zero_add, Nat.add_zero, n_z, n_1, n_ltz, n_zlt, n_lt, n_eq, n_cl, n_in, nI_add, pk_mul, n_div, n_sub, nm_mod, ly_13, TS_13, h1, h5, i0, k2]
        exact go (by simp [k2])
      · simp (disch := first | assumption | omega) only [cl_44, r_44_0, r_44_1, r_44_4, r_44_7, r_44_8, r_44_11, r_44_14, r_44_15, r_44_18, r_44_19, r_44_22, r_44_23, r_44_26, r_44_27, r_44_30, r_44_31, r_44_34, r_44_35, r_44_38, r_44_39, r_44_42, r_44_43, r_44_44, r_44_45, r_44_48, r_44_49, r_44_51, r_44_54, r_44_55, r_44_56, r_44_57, r_44_58, r_44_61, r_44_62, r_44_63, r_44_66, r_44_67, r_44_68, r_44_71, r_44_72, r_44_75, r_44_76, r_44_79, r_44_80, r_44_81, r_44_82, r_44_86, r_44_87, r_44_90, r_44_91, r_44_94, r_44_95, r_44_98, r_44_99, r_44_102, r_44_103, r_44_104, r_44_105, r_44_108, r_44_109, r_44_111, r_44_112, r_44_113, r_44_116, r_44_117, r_44_120, r_44_123, r_44_124, r_44_127, r_44_128, r_44_131, r_44_132, r_44_135, r_44_136, r_44_139, r_44_140, f_add, f_mul, o_bi, o_ceq, o_cgt, o_cne, o_get, o_go, o_ias, o_inc, o_ivv, o_lda, o_ldi, o_ne, o_pi, o_rz, o_sti, acR_nx, acR_re, acR_ca, acR_no, acR_if, Kc_i, Kc_n, a_lg, a_ls, a_kl, a_pk, a_sw, cw_n, cw_i, cw_l, cw_r, List.length_cons, List.length_nil, List.getElem?_cons_succ, List.getElem?_cons_zero, ↓reduceIte, decide_true, decide_false, Bool.false_eq_true, or_true, true_or, or_false, false_or, or_self, and_true, true_and, not_true_eq_false, not_false_eq_true, Nat.reduceEqDiff, Nat.reduceLT, Nat.reduceLeDiff, Nat.reduceAdd, Nat.reduceSub, Nat.reduceMul, Nat.reduceDiv, Nat.reduceMod, Nat.zero_add, Nat.add_zero, n_z, n_1, n_ltz, n_zlt, n_lt, n_eq, n_cl, n_in, nI_add, pk_mul, n_div, n_sub, nm_mod, ly_13, TS_13, h1, h5, i0, k1, k2]
        exact no (by simp [k1, k2])
/-- the rows tell the first n items -/
def rOK (z : Nat) (t : Nat → Nat) (n : Nat) (R : Nat → Int32) : Prop := ∀ i, i < n → R (i * 5) = nI (tKd z t (Pz z t i)) ∧ ∀ x, x < nn (tKd z t (Pz z t i)) → R (i * 5 + 1 + x) = nI (vl z t (tE z t (Pz z t i)) x)
theorem c_findFault {z : Nat} {t : Nat → Nat} {σ : a_HP} (ht : tx z t (σ.1 14)) {n : Nat} (hn : n ≤ 21) (hst : stq z t n = true) (hok : ∀ j, j < n → okI z t j = true) {o R : Nat → Int32} (h0 : o 0 = nI z) (Q : Option Value → a_HP → Prop)
    (hQ1 : tKd z t (Pz z t n) = 5 → 0 < n → ∀ o' R' : Nat → Int32, o' 0 = nI z → o' 1 = nI n → rOK z t n R' → Q (some (.int (-1))) (TS σ o' R'))
    (hQ0 : ¬ (tKd z t (Pz z t n) = 5 ∧ 0 < n) → ∀ o' R' : Nat → Int32, o' 0 = nI z → Q (some (.int (nI (flI z t n)))) (TS σ o' R')) : Cl 43 [.ref 13] (TS σ o R) Q := by
  have hz := ht.1
  have key := lp_dn (C := fun i => ∀ o R : Nat → Int32, o 0 = nI z → o 1 = nI i → o 4 = nI (Pz z t i) → rOK z t i R → Rn 43 12 [some (.ref 13), some (.int (nI i))] [] (TS σ o R) Q) n (fun o R h0 h1 h4 hr => by
    obtain ⟨p1, p2⟩ := Pz_7 n hok
    have n22 : n < 22 := by omega
    rw [r_43_12]
    simp (disch := first | assumption | omega) only [r_43_0, r_43_1, r_43_2, r_43_5, r_43_6, r_43_7, r_43_10, r_43_11, r_43_13, r_43_15, r_43_18, r_43_19, r_43_22, r_43_23, r_43_26, r_43_27, r_43_30, r_43_31, r_43_34, r_43_37, r_43_38, r_43_39, r_43_40, r_43_43, r_43_46, r_43_47, r_43_50, r_43_51, r_43_52, r_43_53, r_43_56, r_43_57, r_43_58, r_43_61, r_43_64, r_43_67, r_43_68, r_43_71, f_add, o_bi, o_cge, o_cne, o_dup, o_get, o_go, o_inc, o_ivv, o_lda, o_le, o_ne, o_pi, o_put, o_ri, o_sti, o_ldi, acR_nx, acR_re, acR_ca, acR_no, acR_if, Kc_i, Kc_n, a_lg, a_ls, a_kl, a_pk, a_sw, cw_n, cw_i, cw_l, cw_r, List.length_cons, List.length_nil, List.getElem?_cons_succ, List.getElem?_cons_zero, ↓reduceIte, decide_true, decide_false, Bool.false_eq_true, or_true, true_or, or_false, false_or, or_self, and_true, true_and, not_true_eq_false, not_false_eq_true, Nat.reduceEqDiff, Nat.reduceLT, Nat.reduceLeDiff, Nat.reduceAdd, Nat.reduceSub, Nat.reduceMul, Nat.reduceDiv, Nat.reduceMod, Nat.zero_add, Nat.add_zero, n_z, n_1, n_ltz, n_zlt, n_lt, n_eq, n_cl, n_in, nI_add, pk_mul, n_div, n_sub, nm_mod, ly_13, n22]
    refine c_takeToken ht h0 h4 p2 _ (fun o' hk => ?_)
    obtain ⟨k0, k1, k4, k5, k6, k7⟩ := hk
    have k0' := k0.trans h0
    have k1' := k1.trans h1
    have kb : tKd z t (Pz z t n) < 2147483648 := by
      unfold tKd tKs wk
      repeat' split
      all_goals omega
    have item : ¬ (tKd z t (Pz z t n) = 5 ∧ 0 < n) → Rn 43 39 [some (.ref 13), some (.int (nI n))] [] (TS σ o' R) Q := by
      intro hne
      have hf : okI z t n = false := by
        unfold stq at hst
        rw [Bool.or_eq_true] at hst
        rcases hst with h | h
        · simp only [Bool.and_eq_true, decide_eq_true_eq] at h; exact absurd h hne
        · simpa using h
      simp (disch := first | assumption | omega) only [r_43_0, r_43_1, r_43_2, r_43_5, r_43_6, r_43_7, r_43_10, r_43_11, r_43_13, r_43_15, r_43_18, r_43_19, r_43_22, r_43_23, r_43_26, r_43_27, r_43_30, r_43_31, r_43_34, r_43_37, r_43_38, r_43_39, r_43_40, r_43_43, r_43_46, r_43_47, r_43_50, r_43_51, r_43_52, r_43_53, r_43_56, r_43_57, r_43_58, r_43_61, r_43_64, r_43_67, r_43_68, r_43_71, f_add, o_bi, o_cge, o_cne, o_dup, o_get, o_go, o_inc, o_ivv, o_lda, o_le, o_ne, o_pi, o_put, o_ri, o_sti, o_ldi, acR_nx, acR_re, acR_ca, acR_no, acR_if, Kc_i, Kc_n, a_lg, a_ls, a_kl, a_pk, a_sw, cw_n, cw_i, cw_l, cw_r, List.length_cons, List.length_nil, List.getElem?_cons_succ, List.getElem?_cons_zero, ↓reduceIte, decide_true, decide_false, Bool.false_eq_true, or_true, true_or, or_false, false_or, or_self, and_true, true_and, not_true_eq_false, not_false_eq_true, Nat.reduceEqDiff, Nat.reduceLT, Nat.reduceLeDiff, Nat.reduceAdd, Nat.reduceSub, Nat.reduceMul, Nat.reduceDiv, Nat.reduceMod, Nat.zero_add, Nat.add_zero, n_z, n_1, n_ltz, n_zlt, n_lt, n_eq, n_cl, n_in, nI_add, pk_mul, n_div, n_sub, nm_mod, ly_13]
      refine c_takeItem ht hn p2 k0' k1' k4 k5 k6 _ (fun b1 b2 => ?_) (fun _ o2 R2 a0 a6 => ?_)
      · unfold okI at hf
        rw [b1, b2] at hf
        cases hf
      · have a6' : o2 6 = nI (flI z t n) := a6
        simp (disch := first | assumption | omega) only [r_43_0, r_43_1, r_43_2, r_43_5, r_43_6, r_43_7, r_43_10, r_43_11, r_43_13, r_43_15, r_43_18, r_43_19, r_43_22, r_43_23, r_43_26, r_43_27, r_43_30, r_43_31, r_43_34, r_43_37, r_43_38, r_43_39, r_43_40, r_43_43, r_43_46, r_43_47, r_43_50, r_43_51, r_43_52, r_43_53, r_43_56, r_43_57, r_43_58, r_43_61, r_43_64, r_43_67, r_43_68, r_43_71, f_add, o_bi, o_cge, o_cne, o_dup, o_get, o_go, o_inc, o_ivv, o_lda, o_le, o_ne, o_pi, o_put, o_ri, o_sti, o_ldi, acR_nx, acR_re, acR_ca, acR_no, acR_if, Kc_i, Kc_n, a_lg, a_ls, a_kl, a_pk, a_sw, cw_n, cw_i, cw_l, cw_r, List.length_cons, List.length_nil, List.getElem?_cons_succ, List.getElem?_cons_zero, ↓reduceIte, decide_true, decide_false, Bool.false_eq_true, or_true, true_or, or_false, false_or, or_self, and_true, true_and, not_true_eq_false, not_false_eq_true, Nat.reduceEqDiff, Nat.reduceLT, Nat.reduceLeDiff, Nat.reduceAdd, Nat.reduceSub, Nat.reduceMul, Nat.reduceDiv, Nat.reduceMod, Nat.zero_add, Nat.add_zero, n_z, n_1, n_ltz, n_zlt, n_lt, n_eq, n_cl, n_in, nI_add, pk_mul, n_div, n_sub, nm_mod, ly_13, TS_13, a6']
        exact hQ0 hne o2 R2 a0
    by_cases q5 : tKd z t (Pz z t n) = 5
    · by_cases n0 : 0 < n
      · simp (disch := first | assumption | omega) only [r_43_0, r_43_1, r_43_2, r_43_5, r_43_6, r_43_7, r_43_10, r_43_11, r_43_13, r_43_15, r_43_18, r_43_19, r_43_22, r_43_23, r_43_26, r_43_27, r_43_30, r_43_31, r_43_34, r_43_37, r_43_38, r_43_39, r_43_40, r_43_43, r_43_46, r_43_47, r_43_50, r_43_51, r_43_52, r_43_53, r_43_56, r_43_57, r_43_58, r_43_61, r_43_64, r_43_67, r_43_68, r_43_71, f_add, o_bi, o_cge, o_cne, o_dup, o_get, o_go, o_inc, o_ivv, o_lda, o_le, o_ne, o_pi, o_put, o_ri, o_sti, o_ldi, acR_nx, acR_re, acR_ca, acR_no, acR_if, Kc_i, Kc_n, a_lg, a_ls, a_kl, a_pk, a_sw, cw_n, cw_i, cw_l, cw_r, List.length_cons, List.length_nil, List.getElem?_cons_succ, List.getElem?_cons_zero, ↓reduceIte, decide_true, decide_false, Bool.false_eq_true, or_true, true_or, or_false, false_or, or_self, and_true, true_and, not_true_eq_false, not_false_eq_true, Nat.reduceEqDiff, Nat.reduceLT, Nat.reduceLeDiff, Nat.reduceAdd, Nat.reduceSub, Nat.reduceMul, Nat.reduceDiv, Nat.reduceMod, Nat.zero_add, Nat.add_zero, n_z, n_1, n_ltz, n_zlt, n_lt, n_eq, n_cl, n_in, nI_add, pk_mul, n_div, n_sub, nm_mod, ly_13, TS_13, k5, k1', q5, n0]
        exact hQ1 q5 n0 o' R k0' k1' hr
      · simp (disch := first | assumption | omega) only [r_43_0, r_43_1, r_43_2, r_43_5, r_43_6, r_43_7, r_43_10, r_43_11, r_43_13, r_43_15, r_43_18, r_43_19, r_43_22, r_43_23, r_43_26, r_43_27, r_43_30, r_43_31, r_43_34, r_43_37, r_43_38, r_43_40, r_43_43, r_43_46, r_43_47, r_43_50, r_43_51, r_43_52, r_43_53, r_43_56, r_43_57, r_43_58, r_43_61, r_43_64, r_43_67, r_43_68, r_43_71, f_add, o_bi, o_cge, o_cne, o_dup, o_get, o_go, o_inc, o_ivv, o_lda, o_le, o_ne, o_pi, o_put, o_ri, o_sti, o_ldi, acR_nx, acR_re, acR_ca, acR_no, acR_if, Kc_i, Kc_n, a_lg, a_ls, a_kl, a_pk, a_sw, cw_n, cw_i, cw_l, cw_r, List.length_cons, List.length_nil, List.getElem?_cons_succ, List.getElem?_cons_zero, ↓reduceIte, decide_true, decide_false, Bool.false_eq_true, or_true, true_or, or_false, false_or, or_self, and_true, true_and, not_true_eq_false, not_false_eq_true, Nat.reduceEqDiff, Nat.reduceLT, Nat.reduceLeDiff, Nat.reduceAdd, Nat.reduceSub, Nat.reduceMul, Nat.reduceDiv, Nat.reduceMod, Nat.zero_add, Nat.add_zero, n_z, n_1, n_ltz, n_zlt, n_lt, n_eq, n_cl, n_in, nI_add, pk_mul, n_div, n_sub, nm_mod, ly_13, TS_13, k5, k1', q5, n0]
        exact item (fun w => n0 w.2)
    · simp (disch := first | assumption | omega) only [r_43_0, r_43_1, r_43_2, r_43_5, r_43_6, r_43_7, r_43_10, r_43_11, r_43_13, r_43_15, r_43_18, r_43_19, r_43_22, r_43_23, r_43_26, r_43_27, r_43_30, r_43_31, r_43_34, r_43_37, r_43_38, r_43_40, r_43_43, r_43_46, r_43_47, r_43_50, r_43_51, r_43_52, r_43_53, r_43_56, r_43_57, r_43_58, r_43_61, r_43_64, r_43_67, r_43_68, r_43_71, f_add, o_bi, o_cge, o_cne, o_dup, o_get, o_go, o_inc, o_ivv, o_lda, o_le, o_ne, o_pi, o_put, o_ri, o_sti, o_ldi, acR_nx, acR_re, acR_ca, acR_no, acR_if, Kc_i, Kc_n, a_lg, a_ls, a_kl, a_pk, a_sw, cw_n, cw_i, cw_l, cw_r, List.length_cons, List.length_nil, List.getElem?_cons_succ, List.getElem?_cons_zero, ↓reduceIte, decide_true, decide_false, Bool.false_eq_true, or_true, true_or, or_false, false_or, or_self, and_true, true_and, not_true_eq_false, not_false_eq_true, Nat.reduceEqDiff, Nat.reduceLT, Nat.reduceLeDiff, Nat.reduceAdd, Nat.reduceSub, Nat.reduceMul, Nat.reduceDiv, Nat.reduceMod, Nat.zero_add, Nat.add_zero, n_z, n_1, n_ltz, n_zlt, n_lt, n_eq, n_cl, n_in, nI_add, pk_mul, n_div, n_sub, nm_mod, ly_13, TS_13, k5, k1', q5]
      exact item (fun w => q5 w.1)) (fun i hi ih o R h0 h1 h4 hr => by
    obtain ⟨p1, p2⟩ := Pz_7 i (fun j hj => hok j (by omega))
    have n22 : i < 22 := by omega
    have oki := hok i hi
    have q5 := okI_k oki
    rw [r_43_12]
    simp (disch := first | assumption | omega) only [r_43_0, r_43_1, r_43_2, r_43_5, r_43_6, r_43_7, r_43_10, r_43_11, r_43_13, r_43_15, r_43_18, r_43_19, r_43_22, r_43_23, r_43_26, r_43_27, r_43_30, r_43_31, r_43_34, r_43_37, r_43_38, r_43_39, r_43_40, r_43_43, r_43_46, r_43_47, r_43_50, r_43_51, r_43_52, r_43_53, r_43_56, r_43_57, r_43_58, r_43_61, r_43_64, r_43_67, r_43_68, r_43_71, f_add, o_bi, o_cge, o_cne, o_dup, o_get, o_go, o_inc, o_ivv, o_lda, o_le, o_ne, o_pi, o_put, o_ri, o_sti, o_ldi, acR_nx, acR_re, acR_ca, acR_no, acR_if, Kc_i, Kc_n, a_lg, a_ls, a_kl, a_pk, a_sw, cw_n, cw_i, cw_l, cw_r, List.length_cons, List.length_nil, List.getElem?_cons_succ, List.getElem?_cons_zero, ↓reduceIte, decide_true, decide_false, Bool.false_eq_true, or_true, true_or, or_false, false_or, or_self, and_true, true_and, not_true_eq_false, not_false_eq_true, Nat.reduceEqDiff, Nat.reduceLT, Nat.reduceLeDiff, Nat.reduceAdd, Nat.reduceSub, Nat.reduceMul, Nat.reduceDiv, Nat.reduceMod, Nat.zero_add, Nat.add_zero, n_z, n_1, n_ltz, n_zlt, n_lt, n_eq, n_cl, n_in, nI_add, pk_mul, n_div, n_sub, nm_mod, ly_13, n22]
    refine c_takeToken ht h0 h4 p2 _ (fun o' hk => ?_)
    obtain ⟨k0, k1, k4, k5, k6, k7⟩ := hk
    have k0' := k0.trans h0
    have k1' := k1.trans h1
    have kb : tKd z t (Pz z t i) < 2147483648 := by
      unfold tKd tKs wk
      repeat' split
      all_goals omega
    simp (disch := first | assumption | omega) only [r_43_0, r_43_1, r_43_2, r_43_5, r_43_6, r_43_7, r_43_10, r_43_11, r_43_13, r_43_15, r_43_18, r_43_19, r_43_22, r_43_23, r_43_26, r_43_27, r_43_30, r_43_31, r_43_34, r_43_37, r_43_38, r_43_39, r_43_40, r_43_43, r_43_46, r_43_47, r_43_50, r_43_51, r_43_52, r_43_53, r_43_56, r_43_57, r_43_58, r_43_61, r_43_64, r_43_67, r_43_68, r_43_71, f_add, o_bi, o_cge, o_cne, o_dup, o_get, o_go, o_inc, o_ivv, o_lda, o_le, o_ne, o_pi, o_put, o_ri, o_sti, o_ldi, acR_nx, acR_re, acR_ca, acR_no, acR_if, Kc_i, Kc_n, a_lg, a_ls, a_kl, a_pk, a_sw, cw_n, cw_i, cw_l, cw_r, List.length_cons, List.length_nil, List.getElem?_cons_succ, List.getElem?_cons_zero, ↓reduceIte, decide_true, decide_false, Bool.false_eq_true, or_true, true_or, or_false, false_or, or_self, and_true, true_and, not_true_eq_false, not_false_eq_true, Nat.reduceEqDiff, Nat.reduceLT, Nat.reduceLeDiff, Nat.reduceAdd, Nat.reduceSub, Nat.reduceMul, Nat.reduceDiv, Nat.reduceMod, Nat.zero_add, Nat.add_zero, n_z, n_1, n_ltz, n_zlt, n_lt, n_eq, n_cl, n_in, nI_add, pk_mul, n_div, n_sub, nm_mod, ly_13, TS_13, k5, k1', q5]
    refine c_takeItem ht (by omega) p2 k0' k1' k4 k5 k6 _ (fun b1 b2 o2 R2 a0 a1 a4 ar0 ar ay => ?_) (fun hb => ?_)
    · simp (disch := first | assumption | omega) only [r_43_0, r_43_1, r_43_2, r_43_5, r_43_6, r_43_7, r_43_10, r_43_11, r_43_13, r_43_15, r_43_18, r_43_19, r_43_22, r_43_23, r_43_26, r_43_27, r_43_30, r_43_31, r_43_34, r_43_37, r_43_38, r_43_39, r_43_40, r_43_43, r_43_46, r_43_47, r_43_50, r_43_51, r_43_52, r_43_53, r_43_56, r_43_57, r_43_58, r_43_61, r_43_64, r_43_67, r_43_68, r_43_71, f_add, o_bi, o_cge, o_cne, o_dup, o_get, o_go, o_inc, o_ivv, o_lda, o_le, o_ne, o_pi, o_put, o_ri, o_sti, o_ldi, acR_nx, acR_re, acR_ca, acR_no, acR_if, Kc_i, Kc_n, a_lg, a_ls, a_kl, a_pk, a_sw, cw_n, cw_i, cw_l, cw_r, List.length_cons, List.length_nil, List.getElem?_cons_succ, List.getElem?_cons_zero, ↓reduceIte, decide_true, decide_false, Bool.false_eq_true, or_true, true_or, or_false, false_or, or_self, and_true, true_and, not_true_eq_false, not_false_eq_true, Nat.reduceEqDiff, Nat.reduceLT, Nat.reduceLeDiff, Nat.reduceAdd, Nat.reduceSub, Nat.reduceMul, Nat.reduceDiv, Nat.reduceMod, Nat.zero_add, Nat.add_zero, n_z, n_1, n_ltz, n_zlt, n_lt, n_eq, n_cl, n_in, nI_add, pk_mul, n_div, n_sub, nm_mod, ly_13, TS_13, TS_w13, a1]
      refine ih _ _ a0 rfl a4 (fun j hj => ?_)
      by_cases e : j = i
      · rw [e]; exact ⟨ar0, ar⟩
      · obtain ⟨c1, c2⟩ := hr j (by omega)
        refine ⟨by rw [ay _ (by omega)]; exact c1, fun x hx => ?_⟩
        have : nn (tKd z t (Pz z t j)) ≤ 4 := by unfold nn; split <;> omega
        rw [ay _ (by omega)]; exact c2 x hx
    · unfold okI at oki
      rw [hb] at oki
      cases oki)
  simp (disch := first | assumption | omega) only [cl_43, r_43_0, r_43_1, r_43_2, r_43_5, r_43_6, r_43_7, r_43_10, r_43_11, r_43_13, r_43_15, r_43_18, r_43_19, r_43_22, r_43_23, r_43_26, r_43_27, r_43_30, r_43_31, r_43_34, r_43_37, r_43_38, r_43_39, r_43_40, r_43_43, r_43_46, r_43_47, r_43_50, r_43_51, r_43_52, r_43_53, r_43_56, r_43_57, r_43_58, r_43_61, r_43_64, r_43_67, r_43_68, r_43_71, f_add, o_bi, o_cge, o_cne, o_dup, o_get, o_go, o_inc, o_ivv, o_lda, o_le, o_ne, o_pi, o_put, o_ri, o_sti, o_ldi, acR_nx, acR_re, acR_ca, acR_no, acR_if, Kc_i, Kc_n, a_lg, a_ls, a_kl, a_pk, a_sw, cw_n, cw_i, cw_l, cw_r, List.length_cons, List.length_nil, List.getElem?_cons_succ, List.getElem?_cons_zero, ↓reduceIte, decide_true, decide_false, Bool.false_eq_true, or_true, true_or, or_false, false_or, or_self, and_true, true_and, not_true_eq_false, not_false_eq_true, Nat.reduceEqDiff, Nat.reduceLT, Nat.reduceLeDiff, Nat.reduceAdd, Nat.reduceSub, Nat.reduceMul, Nat.reduceDiv, Nat.reduceMod, Nat.zero_add, Nat.add_zero, n_z, n_1, n_ltz, n_zlt, n_lt, n_eq, n_cl, n_in, nI_add, pk_mul, n_div, n_sub, nm_mod, ly_13, TS_w13]
  exact key _ _ h0 rfl rfl (fun i hi => by omega)
