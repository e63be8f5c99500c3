/-! least: which row is before -/
def lx (A B : Nat → Nat) : Prop := ∃ k, k < 16 ∧ A k < B k ∧ ∀ j, j < k → A j = B j
theorem lx_tr {A B C : Nat → Nat} (h1 : lx A B) (h2 : lx B C) : lx A C := by
  obtain ⟨k, hk, a1, a2⟩ := h1
  obtain ⟨l, hl, b1, b2⟩ := h2
  rcases Nat.lt_trichotomy k l with h | h | h
  · exact ⟨k, hk, by rw [← b2 k h]; exact a1, fun j hj => by rw [a2 j hj, b2 j (by omega)]⟩
  · subst h
    exact ⟨k, hk, by omega, fun j hj => by rw [a2 j hj, b2 j hj]⟩
  · exact ⟨l, hl, by rw [a2 l h]; exact b1, fun j hj => by rw [a2 j (by omega), b2 j hj]⟩
theorem lx_tri (A B : Nat → Nat) : (∀ k, k < 16 → A k = B k) ∨ lx A B ∨ lx B A := by
  have h : ∀ n, n ≤ 16 → (∀ k, k < n → A k = B k) ∨ lx A B ∨ lx B A := by
    intro n
    induction n with
    | zero => exact fun _ => Or.inl (fun k hk => by omega)
    | succ n ih =>
      intro hn
      rcases ih (by omega) with h | h
      · rcases Nat.lt_trichotomy (A n) (B n) with q | q | q
        · exact Or.inr (Or.inl ⟨n, by omega, q, h⟩)
        · refine Or.inl (fun k hk => ?_)
          by_cases e : k = n
          · rw [e, q]
          · exact h k (by omega)
        · exact Or.inr (Or.inr ⟨n, by omega, q, fun j hj => (h j hj).symm⟩)
      · exact Or.inr h
  exact h 16 (Nat.le_refl _)
theorem lx_l {A A' B : Nat → Nat} (h : ∀ k, k < 16 → A k = A' k) (hl : lx A B) : lx A' B := by
  obtain ⟨k, hk, a1, a2⟩ := hl
  exact ⟨k, hk, by rw [← h k hk]; exact a1, fun j hj => by rw [← h j (by omega)]; exact a2 j hj⟩
theorem c_isRowBefore {σ : a_HP} {r b : Nat → Nat} (hr : ∀ k, k < 16 → σ.1 25 k = nI (r k) ∧ r k ≤ 1000) (hb : ∀ k, k < 16 → σ.1 24 k = nI (b k) ∧ b k ≤ 1000) (Q : Option Value → a_HP → Prop) (h1 : lx r b → Q (some (.int (nI 1))) σ) (h0 : ¬ lx r b → Q (some (.int (nI 0))) σ) : Cl 15 [.ref 23] σ Q := by
  have key := lp_dn (C := fun i => (∀ j, j < i → r j = b j) → Rn 15 2 [some (.ref 23), some (.int (nI i))] [] σ Q) 16 (fun he => by
    rw [r_15_2]
    have no := h0 (fun ⟨k, hk, a1, _⟩ => by rw [he k hk] at a1; omega)
    simp (disch := first | assumption | omega) only [r_15_0, r_15_1, r_15_3, r_15_5, r_15_8, r_15_9, r_15_12, r_15_13, r_15_14, r_15_15, r_15_18, r_15_19, r_15_20, r_15_23, r_15_24, r_15_27, r_15_28, r_15_29, r_15_30, r_15_33, r_15_34, r_15_35, r_15_38, r_15_39, r_15_42, r_15_43, r_15_44, r_15_47, r_15_50, r_15_51, o_ceq, o_cge, o_get, o_go, o_ial, o_inc, o_lda, o_ldi, o_pi, o_rz, o_sti, o_ldi, acR_nx, acR_re, acR_ca, acR_no, acR_if, Kc_i, Kc_n, a_lg, a_ls, a_kl, a_pk, a_sw, cw_n, cw_i, cw_l, cw_r, List.length_cons, List.length_nil, List.getElem?_cons_succ, List.getElem?_cons_zero, ↓reduceIte, decide_true, decide_false, Bool.false_eq_true, or_true, true_or, or_false, false_or, or_self, and_true, true_and, not_true_eq_false, not_false_eq_true, Nat.reduceEqDiff, Nat.reduceLT, Nat.reduceLeDiff, Nat.reduceAdd, Nat.reduceSub, Nat.reduceMul, Nat.reduceDiv, Nat.reduceMod, Nat.zero_add, Nat.add_zero, n_z, n_1, n_ltz, n_zlt, n_lt, n_eq, n_cl, n_in, nI_add, pk_mul, n_div, n_sub, nm_mod]
    exact no) (fun i hi ih he => by
    rw [r_15_2]
    obtain ⟨r1, r2⟩ := hr i hi
    obtain ⟨b1, b2⟩ := hb i hi
    by_cases q : r i = b i
    · have nx := ih (fun j hj => by
        by_cases e : j = i
        · rw [e, q]
        · exact he j (by omega))
      simp (disch := first | assumption | omega) only [r_15_0, r_15_1, r_15_3, r_15_5, r_15_8, r_15_9, r_15_12, r_15_13, r_15_14, r_15_15, r_15_18, r_15_19, r_15_20, r_15_23, r_15_24, r_15_27, r_15_28, r_15_29, r_15_30, r_15_33, r_15_34, r_15_35, r_15_38, r_15_39, r_15_42, r_15_43, r_15_44, r_15_47, r_15_50, r_15_51, o_ceq, o_cge, o_get, o_go, o_ial, o_inc, o_lda, o_ldi, o_pi, o_rz, o_sti, o_ldi, acR_nx, acR_re, acR_ca, acR_no, acR_if, Kc_i, Kc_n, a_lg, a_ls, a_kl, a_pk, a_sw, cw_n, cw_i, cw_l, cw_r, List.length_cons, List.length_nil, List.getElem?_cons_succ, List.getElem?_cons_zero, ↓reduceIte, decide_true, decide_false, Bool.false_eq_true, or_true, true_or, or_false, false_or, or_self, and_true, true_and, not_true_eq_false, not_false_eq_true, Nat.reduceEqDiff, Nat.reduceLT, Nat.reduceLeDiff, Nat.reduceAdd, Nat.reduceSub, Nat.reduceMul, Nat.reduceDiv, Nat.reduceMod, Nat.zero_add, Nat.add_zero, n_z, n_1, n_ltz, n_zlt, n_lt, n_eq, n_cl, n_in, nI_add, pk_mul, n_div, n_sub, nm_mod, ly_23, ly_24, ly_25, hi, r1, b1, q]
      exact nx
    · by_cases q2 : r i < b i
      · have yes := h1 ⟨i, hi, q2, he⟩
        simp (disch := first | assumption | omega) only [r_15_0, r_15_1, r_15_3, r_15_5, r_15_8, r_15_9, r_15_12, r_15_13, r_15_14, r_15_15, r_15_18, r_15_19, r_15_20, r_15_23, r_15_24, r_15_27, r_15_28, r_15_29, r_15_30, r_15_33, r_15_34, r_15_35, r_15_38, r_15_39, r_15_42, r_15_43, r_15_44, r_15_47, r_15_50, r_15_51, o_ceq, o_cge, o_get, o_go, o_ial, o_inc, o_lda, o_ldi, o_pi, o_rz, o_sti, o_ldi, acR_nx, acR_re, acR_ca, acR_no, acR_if, Kc_i, Kc_n, a_lg, a_ls, a_kl, a_pk, a_sw, cw_n, cw_i, cw_l, cw_r, List.length_cons, List.length_nil, List.getElem?_cons_succ, List.getElem?_cons_zero, ↓reduceIte, decide_true, decide_false, Bool.false_eq_true, or_true, true_or, or_false, false_or, or_self, and_true, true_and, not_true_eq_false, not_false_eq_true, Nat.reduceEqDiff, Nat.reduceLT, Nat.reduceLeDiff, Nat.reduceAdd, Nat.reduceSub, Nat.reduceMul, Nat.reduceDiv, Nat.reduceMod, Nat.zero_add, Nat.add_zero, n_z, n_1, n_ltz, n_zlt, n_lt, n_eq, n_cl, n_in, nI_add, pk_mul, n_div, n_sub, nm_mod, ly_23, ly_24, ly_25, hi, r1, b1, q, q2]
        exact yes
      · have no := h0 (fun ⟨k, hk, a1, a2⟩ => by
          rcases Nat.lt_trichotomy k i with e | e | e
          · rw [he k e] at a1; omega
          · rw [e] at a1; exact q2 a1
          · exact q (a2 i e))
        simp (disch := first | assumption | omega) only [r_15_0, r_15_1, r_15_3, r_15_5, r_15_8, r_15_9, r_15_12, r_15_13, r_15_14, r_15_15, r_15_18, r_15_19, r_15_20, r_15_23, r_15_24, r_15_27, r_15_28, r_15_29, r_15_30, r_15_33, r_15_34, r_15_35, r_15_38, r_15_39, r_15_42, r_15_43, r_15_44, r_15_47, r_15_50, r_15_51, o_ceq, o_cge, o_get, o_go, o_ial, o_inc, o_lda, o_ldi, o_pi, o_rz, o_sti, o_ldi, acR_nx, acR_re, acR_ca, acR_no, acR_if, Kc_i, Kc_n, a_lg, a_ls, a_kl, a_pk, a_sw, cw_n, cw_i, cw_l, cw_r, List.length_cons, List.length_nil, List.getElem?_cons_succ, List.getElem?_cons_zero, ↓reduceIte, decide_true, decide_false, Bool.false_eq_true, or_true, true_or, or_false, false_or, or_self, and_true, true_and, not_true_eq_false, not_false_eq_true, Nat.reduceEqDiff, Nat.reduceLT, Nat.reduceLeDiff, Nat.reduceAdd, Nat.reduceSub, Nat.reduceMul, Nat.reduceDiv, Nat.reduceMod, Nat.zero_add, Nat.add_zero, n_z, n_1, n_ltz, n_zlt, n_lt, n_eq, n_cl, n_in, nI_add, pk_mul, n_div, n_sub, nm_mod, ly_23, ly_24, ly_25, hi, r1, b1, q, q2]
        exact no)
  simp (disch := first | assumption | omega) only [cl_15, r_15_0, r_15_1, r_15_3, r_15_5, r_15_8, r_15_9, r_15_12, r_15_13, r_15_14, r_15_15, r_15_18, r_15_19, r_15_20, r_15_23, r_15_24, r_15_27, r_15_28, r_15_29, r_15_30, r_15_33, r_15_34, r_15_35, r_15_38, r_15_39, r_15_42, r_15_43, r_15_44, r_15_47, r_15_50, r_15_51, o_ceq, o_cge, o_get, o_go, o_ial, o_inc, o_lda, o_ldi, o_pi, o_rz, o_sti, acR_nx, acR_re, acR_ca, acR_no, acR_if, Kc_i, Kc_n, a_lg, a_ls, a_kl, a_pk, a_sw, cw_n, cw_i, cw_l, cw_r, List.length_cons, List.length_nil, List.getElem?_cons_succ, List.getElem?_cons_zero, ↓reduceIte, decide_true, decide_false, Bool.false_eq_true, or_true, true_or, or_false, false_or, or_self, and_true, true_and, not_true_eq_false, not_false_eq_true, Nat.reduceEqDiff, Nat.reduceLT, Nat.reduceLeDiff, Nat.reduceAdd, Nat.reduceSub, Nat.reduceMul, Nat.reduceDiv, Nat.reduceMod, Nat.zero_add, Nat.add_zero, n_z, n_1, n_ltz, n_zlt, n_lt, n_eq, n_cl, n_in, nI_add, pk_mul, n_div, n_sub, nm_mod]
  exact key (fun j h => by omega)
/-! least: what stands in the mending's rows -/
theorem gD_mem {L : List Nat} {i : Nat} (h : i < L.length) : L.getD i 0 ∈ L := by
  rw [List.getD_eq_getElem?_getD, List.getElem?_eq_getElem h]
  exact List.getElem_mem h
theorem gD_of {L : List Nat} {k : Nat} (h : k ∈ L) : ∃ i, i < L.length ∧ L.getD i 0 = k := by
  obtain ⟨i, hi, e⟩ := List.getElem_of_mem h
  refine ⟨i, hi, ?_⟩
  rw [List.getD_eq_getElem?_getD, List.getElem?_eq_getElem hi]
  exact e
theorem gD_inj {L : List Nat} (h : L.Pairwise (· < ·)) : ∀ i j, i < L.length → j < L.length → L.getD i 0 = L.getD j 0 → i = j := by
  intro i j hi hj e
  rw [List.getD_eq_getElem?_getD, List.getElem?_eq_getElem hi, List.getD_eq_getElem?_getD, List.getElem?_eq_getElem hj] at e
  have e' : L[i] = L[j] := e
  have hp := List.pairwise_iff_getElem.mp h
  rcases Nat.lt_trichotomy i j with q | q | q
  · have := hp i j hi hj q; omega
  · exact q
  · have := hp j i hj hi q; omega
def LL (LA LB LS : List Nat) : Prop := (LA.length ≤ 4 ∧ LB.length ≤ 4 ∧ LS.length ≤ 2) ∧ (LA.Pairwise (· < ·) ∧ LB.Pairwise (· < ·) ∧ LS.Pairwise (· < ·)) ∧ (∀ k, k ∈ LA → k < 16 ∧ k ∉ LB ∧ k ∉ LS) ∧ (∀ k, k ∈ LB → k < 16 ∧ k ∉ LA ∧ k ∉ LS) ∧ (∀ k, k ∈ LS → k < 16 ∧ k ∉ LA ∧ k ∉ LB)
def MSt (f : Nat → Int32) (LA LB LS : List Nat) (na nb : Int) (σ : a_HP) : Prop :=
  (σ.1 28 0 = nI LA.length ∧ σ.1 28 1 = nI LB.length ∧ σ.1 23 6 = nI LS.length) ∧
  ((∀ i, i < LA.length → σ.1 27 i = nI (LA.getD i 0)) ∧ (∀ i, i < LB.length → σ.1 27 (4 + i) = nI (LB.getD i 0)) ∧ (∀ i, i < LS.length → σ.1 29 i = nI (LS.getD i 0))) ∧
  (∀ k, k ∈ LA ∨ k ∈ LB ∨ k ∈ LS → (σ.1 30 k = nI (moN f k) ∧ moN f k ≤ 9) ∧ ∀ tw, tw ≤ moN f k → σ.1 31 (k * 10 + tw) = nI (gaN f k tw) ∧ gaN f k tw ≤ 21) ∧
  ((∀ i l, i ≤ LA.length → l < 31 → σ.1 32 ((0 * 5 + i) * 31 + l) = nI (dL f LA i l)) ∧ (∀ i l, i ≤ LB.length → l < 31 → σ.1 32 ((1 * 5 + i) * 31 + l) = nI (dL f LB i l))) ∧
  (((σ.1 26 0).toInt = na ∧ -200 ≤ na ∧ na ≤ 30) ∧ (σ.1 26 1).toInt = nb ∧ -200 ≤ nb ∧ nb ≤ 30)
def sm (σ ρ : a_HP) : Prop := (∀ x, x ≠ 24 → x ≠ 25 → ρ.1 x = σ.1 x) ∧ ρ.2 = σ.2
theorem sm_r (σ : a_HP) : sm σ σ := ⟨fun _ _ _ => rfl, rfl⟩
theorem sm_25 {σ ρ : a_HP} (h : sm σ ρ) (R : Nat → Int32) : sm σ (a_sc ρ 25 R) := ⟨fun x h1 h2 => by rw [sc_1, if_neg h2]; exact h.1 x h1 h2, h.2⟩
theorem sm_24 {σ ρ : a_HP} (h : sm σ ρ) (R : Nat → Int32) : sm σ (a_sc ρ 24 R) := ⟨fun x h1 h2 => by rw [sc_1, if_neg h1]; exact h.1 x h1 h2, h.2⟩
theorem MS_sm {f : Nat → Int32} {LA LB LS : List Nat} {na nb : Int} {σ ρ : a_HP} (h : MSt f LA LB LS na nb σ) (hs : sm σ ρ) : MSt f LA LB LS na nb ρ := by
  unfold MSt at h ⊢
  rw [hs.1 28 (by omega) (by omega), hs.1 23 (by omega) (by omega), hs.1 27 (by omega) (by omega), hs.1 29 (by omega) (by omega), hs.1 30 (by omega) (by omega), hs.1 31 (by omega) (by omega), hs.1 32 (by omega) (by omega), hs.1 26 (by omega) (by omega)]
  exact h
def rS : List Nat → Nat → Nat → Nat → Nat
  | [], _, _, _ => 0
  | [s], p, _, k => if k = s then p else 0
  | s :: t :: _, p, q, k => if k = t then q else if k = s then p else 0
def rW (f : Nat → Int32) (LA LB LS : List Nat) (wA wB p q k : Nat) : Nat := if k ∈ LA then gL f LA 0 wA k else if k ∈ LB then gL f LB 0 wB k else rS LS p q k
theorem sub_nI {x : Int32} {g : Nat} (h : -10000 ≤ x.toInt) (h2 : x.toInt ≤ 30) (hg : g ≤ 100) : (x - nI g).toInt = x.toInt - g ∧ (x - nI g).toNatClampNeg = (x.toInt - g).toNat := by
  have e : (x - nI g).toInt = x.toInt - g := by
    rw [Int32.toInt_sub, nI_toInt (by omega)]
    rw [Int.bmod_def]
    split <;> omega
  refine ⟨e, ?_⟩
  show (x - nI g).toInt.toNat = (x.toInt - g).toNat
  rw [e]
theorem c_fillRow {f : Nat → Int32} {LA LB LS : List Nat} {na nb : Int} (hL : LL LA LB LS) {σ : a_HP} (hm : MSt f LA LB LS na nb σ) {p q g : Nat} (hg : g ≤ 100) (hA : dL f LA 0 (na - g).toNat < 1000) (hB : dL f LB 0 (nb - g).toNat < 1000) (Q : Option Value → a_HP → Prop) (hQ : ∀ R' : Nat → Int32, (∀ k, k < 16 → R' k = nI (rW f LA LB LS (na - g).toNat (nb - g).toNat p q k)) → Q none (a_sc σ 25 R')) : Cl 13 [.ref 23, .int (nI p), .int (nI q), .int (nI g)] σ Q := by
  obtain ⟨⟨l1, l2, l3⟩, ⟨p1, p2, p3⟩, d1, d2, d3⟩ := hL
  obtain ⟨⟨h28a, h28b, h23⟩, ⟨h27a, h27b, h29⟩, h30, ⟨h32a, h32b⟩, ⟨h26a, a1, a2⟩, h26b, b1, b2⟩ := hm
  have sa := sub_nI (x := σ.1 26 0) (g := g) (by omega) (by omega) hg
  have sb := sub_nI (x := σ.1 26 1) (g := g) (by omega) (by omega) hg
  rw [h26a] at sa
  rw [h26b] at sb
  have main : ∀ R0 : Nat → Int32, (∀ k, k < 16 → R0 k = nI (rS LS p q k)) → Rn 13 47 [some (.ref 23), some (.int (nI p)), some (.int (nI q)), some (.int (nI g))] [] (a_sc σ 25 R0) Q := by
    intro R0 hR0
    simp (disch := first | assumption | omega) only [r_13_0, r_13_1, r_13_4, r_13_5, r_13_8, r_13_9, r_13_12, r_13_15, r_13_16, r_13_19, r_13_20, r_13_23, r_13_24, r_13_25, r_13_26, r_13_27, r_13_28, r_13_31, r_13_32, r_13_35, r_13_36, r_13_39, r_13_40, r_13_43, r_13_44, r_13_45, r_13_46, r_13_47, r_13_48, r_13_49, r_13_50, r_13_53, r_13_54, r_13_55, r_13_56, r_13_57, r_13_60, r_13_61, r_13_62, r_13_63, r_13_66, r_13_67, r_13_68, r_13_69, r_13_70, r_13_73, f_sub, o_bi, o_cle, o_get, o_ial, o_ias, o_ivs, o_ivv, o_lda, o_ldi, o_le, o_pi, o_rv, acR_nx, acR_re, acR_ca, acR_no, acR_if, Kc_i, Kc_n, a_lg, a_ls, a_kl, a_pk, a_sw, cw_n, cw_i, cw_l, cw_r, List.length_cons, List.length_nil, List.getElem?_cons_succ, List.getElem?_cons_zero, ↓reduceIte, decide_true, decide_false, Bool.false_eq_true, or_true, true_or, or_false, false_or, or_self, and_true, true_and, not_true_eq_false, not_false_eq_true, Nat.reduceEqDiff, Nat.reduceLT, Nat.reduceLeDiff, Nat.reduceAdd, Nat.reduceSub, Nat.reduceMul, Nat.reduceDiv, Nat.reduceMod, Nat.zero_add, Nat.add_zero, n_z, n_1, n_lt, n_in, n_cl, ly_23, ly_26, sc_1]
    refine c_fillOwn (s := 0) (f := f) (by omega) l1 (gD_inj p1) (fun i hi => (d1 _ (gD_mem hi)).1) h28a (fun i hi => by rw [Nat.zero_mul, Nat.zero_add]; exact h27a i hi) (fun i hi => (h30 _ (Or.inl (gD_mem hi))).1) (fun i hi => (h30 _ (Or.inl (gD_mem hi))).2) h32a (by rw [sa.1]; omega) (by rw [sa.1]; omega) (by rw [sa.2]; exact hA) R0 _ (fun R1 r1 r2 => ?_)
    simp (disch := first | assumption | omega) only [r_13_0, r_13_1, r_13_4, r_13_5, r_13_8, r_13_9, r_13_12, r_13_15, r_13_16, r_13_19, r_13_20, r_13_23, r_13_24, r_13_25, r_13_26, r_13_27, r_13_28, r_13_31, r_13_32, r_13_35, r_13_36, r_13_39, r_13_40, r_13_43, r_13_44, r_13_45, r_13_46, r_13_47, r_13_48, r_13_49, r_13_50, r_13_53, r_13_54, r_13_55, r_13_56, r_13_57, r_13_60, r_13_61, r_13_62, r_13_63, r_13_66, r_13_67, r_13_68, r_13_69, r_13_70, r_13_73, f_sub, o_bi, o_cle, o_get, o_ial, o_ias, o_ivs, o_ivv, o_lda, o_ldi, o_le, o_pi, o_rv, acR_nx, acR_re, acR_ca, acR_no, acR_if, Kc_i, Kc_n, a_lg, a_ls, a_kl, a_pk, a_sw, cw_n, cw_i, cw_l, cw_r, List.length_cons, List.length_nil, List.getElem?_cons_succ, List.getElem?_cons_zero, ↓reduceIte, decide_true, decide_false, Bool.false_eq_true, or_true, true_or, or_false, false_or, or_self, and_true, true_and, not_true_eq_false, not_false_eq_true, Nat.reduceEqDiff, Nat.reduceLT, Nat.reduceLeDiff, Nat.reduceAdd, Nat.reduceSub, Nat.reduceMul, Nat.reduceDiv, Nat.reduceMod, Nat.zero_add, Nat.add_zero, n_z, n_1, n_lt, n_in, n_cl, ly_23, ly_26, sc_1]
    refine c_fillOwn (s := 1) (f := f) (by omega) l2 (gD_inj p2) (fun i hi => (d2 _ (gD_mem hi)).1) h28b (fun i hi => h27b i hi) (fun i hi => (h30 _ (Or.inr (Or.inl (gD_mem hi)))).1) (fun i hi => (h30 _ (Or.inr (Or.inl (gD_mem hi)))).2) h32b (by rw [sb.1]; omega) (by rw [sb.1]; omega) (by rw [sb.2]; exact hB) R1 _ (fun R2 s1 s2 => ?_)
    simp (disch := first | assumption | omega) only [r_13_0, r_13_1, r_13_4, r_13_5, r_13_8, r_13_9, r_13_12, r_13_15, r_13_16, r_13_19, r_13_20, r_13_23, r_13_24, r_13_25, r_13_26, r_13_27, r_13_28, r_13_31, r_13_32, r_13_35, r_13_36, r_13_39, r_13_40, r_13_43, r_13_44, r_13_45, r_13_46, r_13_47, r_13_48, r_13_49, r_13_50, r_13_53, r_13_54, r_13_55, r_13_56, r_13_57, r_13_60, r_13_61, r_13_62, r_13_63, r_13_66, r_13_67, r_13_68, r_13_69, r_13_70, r_13_73, f_sub, o_bi, o_cle, o_get, o_ial, o_ias, o_ivs, o_ivv, o_lda, o_ldi, o_le, o_pi, o_rv, acR_nx, acR_re, acR_ca, acR_no, acR_if, Kc_i, Kc_n, a_lg, a_ls, a_kl, a_pk, a_sw, cw_n, cw_i, cw_l, cw_r, List.length_cons, List.length_nil, List.getElem?_cons_succ, List.getElem?_cons_zero, ↓reduceIte, decide_true, decide_false, Bool.false_eq_true, or_true, true_or, or_false, false_or, or_self, and_true, true_and, not_true_eq_false, not_false_eq_true, Nat.reduceEqDiff, Nat.reduceLT, Nat.reduceLeDiff, Nat.reduceAdd, Nat.reduceSub, Nat.reduceMul, Nat.reduceDiv, Nat.reduceMod, Nat.zero_add, Nat.add_zero]
    rw [sa.2] at r1
    rw [sb.2] at s1
    refine hQ R2 (fun k hk => ?_)
    unfold rW
    by_cases k1 : k ∈ LA
    · rw [if_pos k1, s2 k (fun i hi e => (d1 k k1).2.1 (e ▸ gD_mem hi))]
      obtain ⟨i, hi, rfl⟩ := gD_of k1
      exact r1 i hi
    · rw [if_neg k1]
      by_cases k2 : k ∈ LB
      · rw [if_pos k2]
        obtain ⟨i, hi, rfl⟩ := gD_of k2
        exact s1 i hi
      · rw [if_neg k2, s2 k (fun i hi e => k2 (e ▸ gD_mem hi)), r2 k (fun i hi e => k1 (e ▸ gD_mem hi))]
        exact hR0 k hk
  have fl : a_lay 25 = some (.inl (0, 16)) := rfl
  match LS, l3, h23, h29, d3, main with
  | [], l3, h23, h29, d3, main =>
    have h23' : σ.1 23 6 = nI 0 := h23
    simp (disch := first | assumption | omega) only [cl_13, r_13_0, r_13_1, r_13_4, r_13_5, r_13_8, r_13_9, r_13_12, r_13_15, r_13_16, r_13_19, r_13_20, r_13_23, r_13_24, r_13_25, r_13_26, r_13_27, r_13_28, r_13_31, r_13_32, r_13_35, r_13_36, r_13_39, r_13_40, r_13_43, r_13_44, r_13_45, r_13_46, r_13_48, r_13_49, r_13_50, r_13_53, r_13_54, r_13_55, r_13_56, r_13_57, r_13_60, r_13_61, r_13_62, r_13_63, r_13_66, r_13_67, r_13_68, r_13_69, r_13_70, r_13_73, f_sub, o_bi, o_cle, o_get, o_ial, o_ias, o_ivs, o_ivv, o_lda, o_ldi, o_le, o_pi, o_rv, acR_nx, acR_re, acR_ca, acR_no, acR_if, Kc_i, Kc_n, a_lg, a_ls, a_kl, a_pk, a_sw, cw_n, cw_i, cw_l, cw_r, List.length_cons, List.length_nil, List.getElem?_cons_succ, List.getElem?_cons_zero, ↓reduceIte, decide_true, decide_false, Bool.false_eq_true, or_true, true_or, or_false, false_or, or_self, and_true, true_and, not_true_eq_false, not_false_eq_true, Nat.reduceEqDiff, Nat.reduceLT, Nat.reduceLeDiff, Nat.reduceAdd, Nat.reduceSub, Nat.reduceMul, Nat.reduceDiv, Nat.reduceMod, Nat.zero_add, Nat.add_zero, n_z, n_1, n_ltz, n_zlt, n_lt, n_eq, n_cl, n_in, nI_add, pk_mul, n_div, n_sub, nm_mod, ly_23, c_fill fl, sc_1, h23']
    exact main _ (fun k hk => by rw [if_pos hk]; rfl)
  | [s], l3, h23, h29, d3, main =>
    have h23' : σ.1 23 6 = nI 1 := h23
    have e0 : σ.1 29 0 = nI s := h29 0 (by simp)
    have s16 : s < 16 := (d3 s (by simp)).1
    simp (disch := first | assumption | omega) only [cl_13, r_13_0, r_13_1, r_13_4, r_13_5, r_13_8, r_13_9, r_13_12, r_13_15, r_13_16, r_13_19, r_13_20, r_13_23, r_13_24, r_13_25, r_13_26, r_13_27, r_13_28, r_13_31, r_13_32, r_13_35, r_13_36, r_13_39, r_13_40, r_13_43, r_13_44, r_13_45, r_13_46, r_13_48, r_13_49, r_13_50, r_13_53, r_13_54, r_13_55, r_13_56, r_13_57, r_13_60, r_13_61, r_13_62, r_13_63, r_13_66, r_13_67, r_13_68, r_13_69, r_13_70, r_13_73, f_sub, o_bi, o_cle, o_get, o_ial, o_ias, o_ivs, o_ivv, o_lda, o_ldi, o_le, o_pi, o_rv, acR_nx, acR_re, acR_ca, acR_no, acR_if, Kc_i, Kc_n, a_lg, a_ls, a_kl, a_pk, a_sw, cw_n, cw_i, cw_l, cw_r, List.length_cons, List.length_nil, List.getElem?_cons_succ, List.getElem?_cons_zero, ↓reduceIte, decide_true, decide_false, Bool.false_eq_true, or_true, true_or, or_false, false_or, or_self, and_true, true_and, not_true_eq_false, not_false_eq_true, Nat.reduceEqDiff, Nat.reduceLT, Nat.reduceLeDiff, Nat.reduceAdd, Nat.reduceSub, Nat.reduceMul, Nat.reduceDiv, Nat.reduceMod, Nat.zero_add, Nat.add_zero, n_z, n_1, n_ltz, n_zlt, n_lt, n_eq, n_cl, n_in, nI_add, pk_mul, n_div, n_sub, nm_mod, ly_23, ly_25, ly_29, c_fill fl, sc_1, h23', e0, s16, wi_sc, sc_sc]
    refine main _ (fun k hk => ?_)
    rw [ud_1]
    simp only [rS]
    by_cases e : k = s
    · rw [if_pos e, if_pos e]
    · rw [if_neg e, if_neg e, if_pos hk]
  | [s, t], l3, h23, h29, d3, main =>
    have h23' : σ.1 23 6 = nI 2 := h23
    have e0 : σ.1 29 0 = nI s := h29 0 (by simp)
    have e1 : σ.1 29 1 = nI t := h29 1 (by simp)
    have s16 : s < 16 := (d3 s (by simp)).1
    have t16 : t < 16 := (d3 t (by simp)).1
    simp (disch := first | assumption | omega) only [cl_13, r_13_0, r_13_1, r_13_4, r_13_5, r_13_8, r_13_9, r_13_12, r_13_15, r_13_16, r_13_19, r_13_20, r_13_23, r_13_24, r_13_25, r_13_26, r_13_27, r_13_28, r_13_31, r_13_32, r_13_35, r_13_36, r_13_39, r_13_40, r_13_43, r_13_44, r_13_45, r_13_46, r_13_48, r_13_49, r_13_50, r_13_53, r_13_54, r_13_55, r_13_56, r_13_57, r_13_60, r_13_61, r_13_62, r_13_63, r_13_66, r_13_67, r_13_68, r_13_69, r_13_70, r_13_73, f_sub, o_bi, o_cle, o_get, o_ial, o_ias, o_ivs, o_ivv, o_lda, o_ldi, o_le, o_pi, o_rv, acR_nx, acR_re, acR_ca, acR_no, acR_if, Kc_i, Kc_n, a_lg, a_ls, a_kl, a_pk, a_sw, cw_n, cw_i, cw_l, cw_r, List.length_cons, List.length_nil, List.getElem?_cons_succ, List.getElem?_cons_zero, ↓reduceIte, decide_true, decide_false, Bool.false_eq_true, or_true, true_or, or_false, false_or, or_self, and_true, true_and, not_true_eq_false, not_false_eq_true, Nat.reduceEqDiff, Nat.reduceLT, Nat.reduceLeDiff, Nat.reduceAdd, Nat.reduceSub, Nat.reduceMul, Nat.reduceDiv, Nat.reduceMod, Nat.zero_add, Nat.add_zero, n_z, n_1, n_ltz, n_zlt, n_lt, n_eq, n_cl, n_in, nI_add, pk_mul, n_div, n_sub, nm_mod, ly_23, ly_25, ly_29, c_fill fl, sc_1, h23', e0, e1, s16, t16, wi_sc, sc_sc]
    refine main _ (fun k hk => ?_)
    rw [ud_1]
    simp only [rS]
    by_cases e : k = t
    · rw [if_pos e, if_pos e]
    · rw [if_neg e, if_neg e, ud_1]
      by_cases e2 : k = s
      · rw [if_pos e2, if_pos e2]
      · rw [if_neg e2, if_neg e2, if_pos hk]
  | s :: t :: u :: r, l3, _, _, _, _ => simp at l3
