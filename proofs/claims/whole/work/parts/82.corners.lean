/-! least: the clauses' corners are listed -/
def OA (a b i : Nat) : List Nat := ((List.range i).map (kA a)).filter (fun k => decide (a = b) || !hK b k)
def OB (a b i : Nat) : List Nat := ((List.range i).map (kA b)).filter (fun k => !hK a k)
def OS (a b i : Nat) : List Nat := ((List.range i).map (kA a)).filter (fun k => !(decide (a = b) || !hK b k))
theorem OA_s (a b i : Nat) : OA a b (i + 1) = if (decide (a = b) || !hK b (kA a i)) = true then OA a b i ++ [kA a i] else OA a b i := by
  unfold OA
  rw [List.range_succ, List.map_append, List.filter_append]
  by_cases h : (decide (a = b) || !hK b (kA a i)) = true
  · rw [if_pos h]
    simp only [List.map_cons, List.map_nil, List.filter_cons, List.filter_nil, h, if_true]
  · rw [if_neg h]
    simp only [List.map_cons, List.map_nil, List.filter_cons, List.filter_nil, h]
    simp
theorem OB_s (a b i : Nat) : OB a b (i + 1) = if (!hK a (kA b i)) = true then OB a b i ++ [kA b i] else OB a b i := by
  unfold OB
  rw [List.range_succ, List.map_append, List.filter_append]
  by_cases h : (!hK a (kA b i)) = true
  · rw [if_pos h]
    simp only [List.map_cons, List.map_nil, List.filter_cons, List.filter_nil, h, if_true]
  · rw [if_neg h]
    simp only [List.map_cons, List.map_nil, List.filter_cons, List.filter_nil, h]
    simp
theorem OS_s (a b i : Nat) : OS a b (i + 1) = if (decide (a = b) || !hK b (kA a i)) = true then OS a b i else OS a b i ++ [kA a i] := by
  unfold OS
  rw [List.range_succ, List.map_append, List.filter_append]
  by_cases h : (decide (a = b) || !hK b (kA a i)) = true
  · rw [if_pos h]
    simp only [List.map_cons, List.map_nil, List.filter_cons, List.filter_nil, h]
    simp
  · rw [if_neg h]
    simp only [List.map_cons, List.map_nil, List.filter_cons, List.filter_nil, h]
    simp
theorem O_len : ∀ a b : Fin 9, ∀ i : Fin 4, (OA a.val b.val i.val).length < 4 ∧ (OB a.val b.val i.val).length < 4 ∧ ((decide (a.val = b.val) || !hK b.val (kA a.val i.val)) = false → (OS a.val b.val i.val).length < 2) := by decide +kernel
theorem O_LL : ∀ a b : Fin 9, ((OA a.val b.val 4).length ≤ 4 ∧ (OB a.val b.val 4).length ≤ 4 ∧ (OS a.val b.val 4).length ≤ 2) ∧ ((OA a.val b.val 4).Pairwise (· < ·) ∧ (OB a.val b.val 4).Pairwise (· < ·) ∧ (OS a.val b.val 4).Pairwise (· < ·)) ∧ (∀ k, k ∈ OA a.val b.val 4 → k < 16 ∧ k ∉ OB a.val b.val 4 ∧ k ∉ OS a.val b.val 4) ∧ (∀ k, k ∈ OB a.val b.val 4 → k < 16 ∧ k ∉ OA a.val b.val 4 ∧ k ∉ OS a.val b.val 4) ∧ (∀ k, k ∈ OS a.val b.val 4 → k < 16 ∧ k ∉ OA a.val b.val 4 ∧ k ∉ OB a.val b.val 4) := by decide +kernel
/-- the cells that the listing leaves -/
def kp (σ ρ : a_HP) : Prop := (∀ x, x ≠ 23 → x ≠ 27 → x ≠ 28 → x ≠ 29 → x ≠ 30 → x ≠ 31 → ρ.1 x = σ.1 x) ∧ ρ.2 = σ.2
def GI (f : Nat → Int32) (S : Nat → Prop) (ρ : a_HP) : Prop := ∀ k, S k → (ρ.1 30 k = nI (moN f k) ∧ moN f k ≤ 9) ∧ ∀ tw, tw ≤ moN f k → ρ.1 31 (k * 10 + tw) = nI (gaN f k tw) ∧ gaN f k tw ≤ 21
theorem c_gainI {N : Nat} {σ : a_HP} {f : Nat → Int32} (he : eN (σ.1 1) (σ.1 2) (σ.1 3) (σ.1 4) (σ.1 5) f) (hv : vN N f) {S : Nat → Prop} (hG : GI f S σ) {k : Nat} (hk : k < 16) (Q : Option Value → a_HP → Prop) (hQ : ∀ X Y : Nat → Int32, GI f (fun j => S j ∨ j = k) (a_sc (a_sc σ 30 X) 31 Y) → Q none (a_sc (a_sc σ 30 X) 31 Y)) : Cl 5 [.ref 23, .ref 1, .int (nI k)] σ Q := by
  have mo9 : moN f k ≤ 9 := by have := (sN_ok hv hk).2; unfold moN; split <;> omega
  refine c_fillGains he hv hk Q (fun G h1 h2 => hQ _ _ (fun j hj => ?_))
  have s30 : ∀ X Y : Nat → Int32, (a_sc (a_sc σ 30 X) 31 Y).1 30 = X := fun _ _ => rfl
  have s31 : ∀ X Y : Nat → Int32, (a_sc (a_sc σ 30 X) 31 Y).1 31 = Y := fun _ _ => rfl
  rw [s30, s31]
  by_cases e : j = k
  · rw [e]
    exact ⟨⟨by rw [ud_1, if_pos rfl], mo9⟩, fun tw ht => ⟨h1 tw ht, (ga_ok hv hk ht).2.2⟩⟩
  · rcases hj with hj | hj
    · obtain ⟨⟨g1, g2⟩, g3⟩ := hG j hj
      refine ⟨⟨by rw [ud_1, if_neg e]; exact g1, g2⟩, fun tw ht => ?_⟩
      rw [h2 (j * 10 + tw) (by omega)]
      exact g3 tw ht
    · exact absurd hj e
theorem c_listOwn {σ : a_HP} {s n : Nat} (hs : s ≤ 1) (hn : n < 4) (h28 : σ.1 28 s = nI n) (k : Nat) (Q : Option Value → a_HP → Prop) : Cl 4 [.ref 23, .int (nI s), .int (nI k)] σ Q = Q none (a_sc (a_sc σ 27 (upd (σ.1 27) (s * 4 + n) (nI k))) 28 (upd (σ.1 28) s (nI (n + 1)))) := by
  have s2 : s < 2 := by omega
  have i8 : s * 4 + n < 8 := by omega
  simp (disch := first | assumption | omega) only [cl_4, r_4_0, r_4_1, r_4_4, r_4_5, r_4_6, r_4_7, r_4_8, r_4_11, r_4_12, r_4_13, r_4_14, r_4_15, r_4_16, r_4_17, r_4_20, r_4_21, r_4_22, r_4_23, r_4_24, r_4_25, r_4_26, f_add, f_mul, o_bi, o_dup2, o_get, o_ial, o_ias, o_lda, o_ldi, o_pi, o_rv, acR_nx, acR_re, acR_ca, acR_no, acR_if, Kc_i, Kc_n, a_lg, a_ls, a_kl, a_pk, a_sw, cw_n, cw_i, cw_l, cw_r, List.length_cons, List.length_nil, List.getElem?_cons_succ, List.getElem?_cons_zero, ↓reduceIte, decide_true, decide_false, Bool.false_eq_true, or_true, true_or, or_false, false_or, or_self, and_true, true_and, not_true_eq_false, not_false_eq_true, Nat.reduceEqDiff, Nat.reduceLT, Nat.reduceLeDiff, Nat.reduceAdd, Nat.reduceSub, Nat.reduceMul, Nat.reduceDiv, Nat.reduceMod, Nat.zero_add, Nat.add_zero, n_z, n_1, n_ltz, n_zlt, n_lt, n_eq, n_cl, n_in, nI_add, pk_mul, n_div, n_sub, nm_mod, ly_23, ly_27, ly_28, s2, h28, i8, wi_sc, sc_1]
def PI (f : Nat → Int32) (a b : Nat) (σ : a_HP) (i : Nat) (ρ : a_HP) : Prop := kp σ ρ ∧ (ρ.1 28 0 = nI (OA a b i).length ∧ ρ.1 28 1 = nI (OB a b i).length ∧ ρ.1 23 6 = nI (OS a b i).length) ∧ ((∀ j, j < (OA a b i).length → ρ.1 27 j = nI ((OA a b i).getD j 0)) ∧ (∀ j, j < (OB a b i).length → ρ.1 27 (4 + j) = nI ((OB a b i).getD j 0)) ∧ (∀ j, j < (OS a b i).length → ρ.1 29 j = nI ((OS a b i).getD j 0))) ∧ GI f (fun k => ∃ j, j < i ∧ (k = kA a j ∨ k = kA b j)) ρ
theorem gD_app {L : List Nat} {x j : Nat} (h : j < (L ++ [x]).length) : (L ++ [x]).getD j 0 = if j = L.length then x else L.getD j 0 := by
  simp only [List.length_append, List.length_singleton] at h
  by_cases e : j = L.length
  · rw [if_pos e, e]
    simp
  · rw [if_neg e, List.getD_eq_getElem?_getD, List.getD_eq_getElem?_getD, List.getElem?_append_left (by omega)]
theorem c_listCorners {N : Nat} {σ : a_HP} {f : Nat → Int32} (he : eN (σ.1 1) (σ.1 2) (σ.1 3) (σ.1 4) (σ.1 5) f) (hv : vN N f) {a b : Nat} (ha : a < 9) (hb : b < 9) {i : Nat} (hi : i < 4) {ρ : a_HP} (hP : PI f a b σ i ρ) (Q : Option Value → a_HP → Prop) (hQ : ∀ ρ' : a_HP, PI f a b σ (i + 1) ρ' → Q none ρ') : Cl 3 [.ref 23, .ref 1, .int (nI a), .int (nI b), .int (nI i)] ρ Q := by
  obtain ⟨hkp, ⟨n1, n2, n3⟩, ⟨e1, e2, e3⟩, hG⟩ := hP
  have ka := kA_lt ha hi
  have kb := kA_lt hb hi
  have he1 : eN (ρ.1 1) (ρ.1 2) (ρ.1 3) (ρ.1 4) (ρ.1 5) f := by
    rw [hkp.1 1 (by omega) (by omega) (by omega) (by omega) (by omega) (by omega), hkp.1 2 (by omega) (by omega) (by omega) (by omega) (by omega) (by omega), hkp.1 3 (by omega) (by omega) (by omega) (by omega) (by omega) (by omega), hkp.1 4 (by omega) (by omega) (by omega) (by omega) (by omega) (by omega), hkp.1 5 (by omega) (by omega) (by omega) (by omega) (by omega) (by omega)]
    exact he
  obtain ⟨l1, l2, l3⟩ := O_len ⟨a, ha⟩ ⟨b, hb⟩ ⟨i, hi⟩
  dsimp only at l1 l2 l3
  simp (disch := first | assumption | omega) only [cl_3, r_3_0, r_3_1, r_3_3, r_3_6, r_3_8, r_3_9, r_3_11, r_3_14, r_3_16, r_3_17, r_3_18, r_3_20, r_3_23, r_3_24, r_3_25, r_3_27, r_3_30, r_3_31, r_3_32, r_3_35, r_3_36, r_3_38, r_3_41, r_3_44, r_3_45, r_3_46, r_3_48, r_3_51, r_3_54, r_3_55, r_3_58, r_3_59, r_3_62, r_3_63, r_3_66, r_3_67, r_3_70, r_3_72, r_3_73, r_3_74, r_3_75, r_3_78, r_3_79, r_3_80, r_3_83, r_3_84, r_3_86, r_3_89, r_3_92, r_3_93, r_3_94, r_3_96, r_3_99, f_add, o_bi, o_ceq, o_cge, o_dup, o_get, o_go, o_ias, o_ivs, o_ivv, o_lda, o_ldi, o_ne, o_pi, o_put, o_rv, o_sti, acR_nx, acR_re, acR_ca, acR_no, acR_if, Kc_i, Kc_n, a_lg, a_ls, a_kl, a_pk, a_sw, cw_n, cw_i, cw_l, cw_r, List.length_cons, List.length_nil, List.getElem?_cons_succ, List.getElem?_cons_zero, ↓reduceIte, decide_true, decide_false, Bool.false_eq_true, or_true, true_or, or_false, false_or, or_self, and_true, true_and, not_true_eq_false, not_false_eq_true, Nat.reduceEqDiff, Nat.reduceLT, Nat.reduceLeDiff, Nat.reduceAdd, Nat.reduceSub, Nat.reduceMul, Nat.reduceDiv, Nat.reduceMod, Nat.zero_add, Nat.add_zero, n_z, n_1, n_ltz, n_zlt, n_lt, n_eq, n_cl, n_in, nI_add, pk_mul, n_div, n_sub, nm_mod, ly_23, c_knotAt ha hi, c_knotAt hb hi]
  refine c_gainI he1 hv hG ka _ (fun X Y hG1 => ?_)
  simp (disch := first | assumption | omega) only [r_3_0, r_3_1, r_3_3, r_3_6, r_3_8, r_3_9, r_3_11, r_3_14, r_3_16, r_3_17, r_3_18, r_3_20, r_3_23, r_3_24, r_3_25, r_3_27, r_3_30, r_3_31, r_3_32, r_3_35, r_3_36, r_3_38, r_3_41, r_3_44, r_3_45, r_3_46, r_3_48, r_3_51, r_3_54, r_3_55, r_3_58, r_3_59, r_3_62, r_3_63, r_3_66, r_3_67, r_3_70, r_3_72, r_3_73, r_3_74, r_3_75, r_3_78, r_3_79, r_3_80, r_3_83, r_3_84, r_3_86, r_3_89, r_3_92, r_3_93, r_3_94, r_3_96, r_3_99, f_add, o_bi, o_ceq, o_cge, o_dup, o_get, o_go, o_ias, o_ivs, o_ivv, o_lda, o_ldi, o_ne, o_pi, o_put, o_rv, o_sti, acR_nx, acR_re, acR_ca, acR_no, acR_if, Kc_i, Kc_n, a_lg, a_ls, a_kl, a_pk, a_sw, cw_n, cw_i, cw_l, cw_r, List.length_cons, List.length_nil, List.getElem?_cons_succ, List.getElem?_cons_zero, ↓reduceIte, decide_true, decide_false, Bool.false_eq_true, or_true, true_or, or_false, false_or, or_self, and_true, true_and, not_true_eq_false, not_false_eq_true, Nat.reduceEqDiff, Nat.reduceLT, Nat.reduceLeDiff, Nat.reduceAdd, Nat.reduceSub, Nat.reduceMul, Nat.reduceDiv, Nat.reduceMod, Nat.zero_add, Nat.add_zero, n_z, n_1, n_ltz, n_zlt, n_lt, n_eq, n_cl, n_in, nI_add, pk_mul, n_div, n_sub, nm_mod, ly_23]
  refine c_gainI (σ := a_sc (a_sc ρ 30 X) 31 Y) he1 hv hG1 kb _ (fun X2 Y2 hG2 => ?_)
  obtain ⟨τ, hτ⟩ : ∃ τ, τ = a_sc (a_sc (a_sc (a_sc ρ 30 X) 31 Y) 30 X2) 31 Y2 := ⟨_, rfl⟩
  rw [← hτ] at hG2 ⊢
  have t28 : τ.1 28 = ρ.1 28 := by rw [hτ]; rfl
  have t23 : τ.1 23 = ρ.1 23 := by rw [hτ]; rfl
  have t27 : τ.1 27 = ρ.1 27 := by rw [hτ]; rfl
  have t29 : τ.1 29 = ρ.1 29 := by rw [hτ]; rfl
  have hkt : kp σ τ := ⟨fun x x1 x2 x3 x4 x5 x6 => by
    rw [← hkp.1 x x1 x2 x3 x4 x5 x6, hτ]
    simp only [sc_1, x5, x6, if_false], by rw [← hkp.2, hτ]; rfl⟩
  rw [← t28] at n1 n2
  rw [← t23] at n3
  rw [← t27] at e1 e2
  rw [← t29] at e3
  have hGt : GI f (fun k => ∃ j, j < i + 1 ∧ (k = kA a j ∨ k = kA b j)) τ := fun k hk => hG2 k (by
    obtain ⟨j, hj, hjk⟩ := hk
    by_cases e : j = i
    · subst e
      rcases hjk with h | h
      · exact Or.inl (Or.inr h)
      · exact Or.inr h
    · exact Or.inl (Or.inl ⟨j, by omega, hjk⟩))
  clear hG hG1 hG2 hτ hkp he1
  -- the last piece: the second clause's corner
  have last : ∀ τ' : a_HP, kp σ τ' → τ'.1 28 0 = nI (OA a b (i + 1)).length → τ'.1 28 1 = nI (OB a b i).length → τ'.1 23 6 = nI (OS a b (i + 1)).length → (∀ j, j < (OA a b (i + 1)).length → τ'.1 27 j = nI ((OA a b (i + 1)).getD j 0)) → (∀ j, j < (OB a b i).length → τ'.1 27 (4 + j) = nI ((OB a b i).getD j 0)) → (∀ j, j < (OS a b (i + 1)).length → τ'.1 29 j = nI ((OS a b (i + 1)).getD j 0)) → τ'.1 30 = τ.1 30 → τ'.1 31 = τ.1 31 → Rn 3 83 [some (.ref 23), some (.ref 1), some (.int (nI a)), some (.int (nI b)), some (.int (nI i)), some (.int (nI (kA a i))), some (.int (nI (kA b i)))] [] τ' Q := by
    intro τ' k' m1 m2 m3 u1 u2 u3 v1 v2
    have lA : (OA a b (i + 1)).length ≤ 4 := by
      rw [OA_s]
      split
      · rw [List.length_append, List.length_singleton]; omega
      · omega
    have g' : GI f (fun k => ∃ j, j < i + 1 ∧ (k = kA a j ∨ k = kA b j)) τ' := fun k hk => by rw [v1, v2]; exact hGt k hk
    cases q : hK a (kA b i) with
    | true =>
      have ob : OB a b (i + 1) = OB a b i := by rw [OB_s, if_neg (by rw [q]; decide)]
      simp (disch := first | assumption | omega) only [r_3_0, r_3_1, r_3_3, r_3_6, r_3_8, r_3_9, r_3_11, r_3_14, r_3_16, r_3_17, r_3_18, r_3_20, r_3_23, r_3_24, r_3_25, r_3_27, r_3_30, r_3_31, r_3_32, r_3_35, r_3_36, r_3_38, r_3_41, r_3_44, r_3_45, r_3_46, r_3_48, r_3_51, r_3_54, r_3_55, r_3_58, r_3_59, r_3_62, r_3_63, r_3_66, r_3_67, r_3_70, r_3_72, r_3_73, r_3_74, r_3_75, r_3_78, r_3_79, r_3_80, r_3_83, r_3_84, r_3_86, r_3_89, r_3_92, r_3_93, r_3_94, r_3_96, r_3_99, f_add, o_bi, o_ceq, o_cge, o_dup, o_get, o_go, o_ias, o_ivs, o_ivv, o_lda, o_ldi, o_ne, o_pi, o_put, o_rv, o_sti, acR_nx, acR_re, acR_ca, acR_no, acR_if, Kc_i, Kc_n, a_lg, a_ls, a_kl, a_pk, a_sw, cw_n, cw_i, cw_l, cw_r, List.length_cons, List.length_nil, List.getElem?_cons_succ, List.getElem?_cons_zero, ↓reduceIte, decide_true, decide_false, Bool.false_eq_true, or_true, true_or, or_false, false_or, or_self, and_true, true_and, not_true_eq_false, not_false_eq_true, Nat.reduceEqDiff, Nat.reduceLT, Nat.reduceLeDiff, Nat.reduceAdd, Nat.reduceSub, Nat.reduceMul, Nat.reduceDiv, Nat.reduceMod, Nat.zero_add, Nat.add_zero, n_z, n_1, n_ltz, n_zlt, n_lt, n_eq, n_cl, n_in, nI_add, pk_mul, n_div, n_sub, nm_mod, c_hasKnot ha kb, q]
      exact hQ τ' ⟨k', ⟨m1, by rw [ob]; exact m2, m3⟩, ⟨u1, by rw [ob]; exact u2, u3⟩, g'⟩
    | false =>
      have ob : OB a b (i + 1) = OB a b i ++ [kA b i] := by rw [OB_s, if_pos (by rw [q]; decide)]
      simp (disch := first | assumption | omega) only [r_3_0, r_3_1, r_3_3, r_3_6, r_3_8, r_3_9, r_3_11, r_3_14, r_3_16, r_3_17, r_3_18, r_3_20, r_3_23, r_3_24, r_3_25, r_3_27, r_3_30, r_3_31, r_3_32, r_3_35, r_3_36, r_3_38, r_3_41, r_3_44, r_3_45, r_3_46, r_3_48, r_3_51, r_3_54, r_3_55, r_3_58, r_3_59, r_3_62, r_3_63, r_3_66, r_3_67, r_3_70, r_3_72, r_3_73, r_3_74, r_3_75, r_3_78, r_3_79, r_3_80, r_3_83, r_3_84, r_3_86, r_3_89, r_3_92, r_3_93, r_3_94, r_3_96, r_3_99, f_add, o_bi, o_ceq, o_cge, o_dup, o_get, o_go, o_ias, o_ivs, o_ivv, o_lda, o_ldi, o_ne, o_pi, o_put, o_rv, o_sti, acR_nx, acR_re, acR_ca, acR_no, acR_if, Kc_i, Kc_n, a_lg, a_ls, a_kl, a_pk, a_sw, cw_n, cw_i, cw_l, cw_r, List.length_cons, List.length_nil, List.getElem?_cons_succ, List.getElem?_cons_zero, ↓reduceIte, decide_true, decide_false, Bool.false_eq_true, or_true, true_or, or_false, false_or, or_self, and_true, true_and, not_true_eq_false, not_false_eq_true, Nat.reduceEqDiff, Nat.reduceLT, Nat.reduceLeDiff, Nat.reduceAdd, Nat.reduceSub, Nat.reduceMul, Nat.reduceDiv, Nat.reduceMod, Nat.zero_add, Nat.add_zero, n_z, n_1, n_ltz, n_zlt, n_lt, n_eq, n_cl, n_in, nI_add, pk_mul, n_div, n_sub, nm_mod, ly_23, c_hasKnot ha kb, q, c_listOwn (s := 1) (by omega : (1 : Nat) ≤ 1) l2 m2]
      refine hQ _ ⟨⟨fun x x1 x2 x3 x4 x5 x6 => by simp only [sc_1, x2, x3, if_false]; exact k'.1 x x1 x2 x3 x4 x5 x6, k'.2⟩, ⟨?_, ?_, m3⟩, ⟨?_, ?_, u3⟩, g'⟩
      · rw [sc_1, if_pos rfl, ud_1, if_neg (by omega)]; exact m1
      · rw [sc_1, if_pos rfl, ud_1, if_pos rfl, ob, List.length_append, List.length_singleton]
      · intro j hj
        show upd (τ'.1 27) _ _ j = _
        rw [ud_1, if_neg (by omega)]
        exact u1 j hj
      · rw [ob]
        intro j hj
        show upd (τ'.1 27) _ _ (4 + j) = _
        rw [gD_app hj, ud_1]
        rw [List.length_append, List.length_singleton] at hj
        by_cases e : j = (OB a b i).length
        · rw [if_pos (by omega), if_pos e]
        · rw [if_neg (by omega), if_neg e]; exact u2 j (by omega)
  by_cases qa : (decide (a = b) || !hK b (kA a i)) = true
  · have oa : OA a b (i + 1) = OA a b i ++ [kA a i] := by rw [OA_s, if_pos qa]
    have os : OS a b (i + 1) = OS a b i := by rw [OS_s, if_pos qa]
    have own : Rn 3 44 [some (.ref 23), some (.ref 1), some (.int (nI a)), some (.int (nI b)), some (.int (nI i)), some (.int (nI (kA a i))), some (.int (nI (kA b i)))] [] τ Q := by
      simp (disch := first | assumption | omega) only [r_3_0, r_3_1, r_3_3, r_3_6, r_3_8, r_3_9, r_3_11, r_3_14, r_3_16, r_3_17, r_3_18, r_3_20, r_3_23, r_3_24, r_3_25, r_3_27, r_3_30, r_3_31, r_3_32, r_3_35, r_3_36, r_3_38, r_3_41, r_3_44, r_3_45, r_3_46, r_3_48, r_3_51, r_3_54, r_3_55, r_3_58, r_3_59, r_3_62, r_3_63, r_3_66, r_3_67, r_3_70, r_3_72, r_3_73, r_3_74, r_3_75, r_3_78, r_3_79, r_3_80, r_3_84, r_3_86, r_3_89, r_3_92, r_3_93, r_3_94, r_3_96, r_3_99, f_add, o_bi, o_ceq, o_cge, o_dup, o_get, o_go, o_ias, o_ivs, o_ivv, o_lda, o_ldi, o_ne, o_pi, o_put, o_rv, o_sti, acR_nx, acR_re, acR_ca, acR_no, acR_if, Kc_i, Kc_n, a_lg, a_ls, a_kl, a_pk, a_sw, cw_n, cw_i, cw_l, cw_r, List.length_cons, List.length_nil, List.getElem?_cons_succ, List.getElem?_cons_zero, ↓reduceIte, decide_true, decide_false, Bool.false_eq_true, or_true, true_or, or_false, false_or, or_self, and_true, true_and, not_true_eq_false, not_false_eq_true, Nat.reduceEqDiff, Nat.reduceLT, Nat.reduceLeDiff, Nat.reduceAdd, Nat.reduceSub, Nat.reduceMul, Nat.reduceDiv, Nat.reduceMod, Nat.zero_add, Nat.add_zero, n_z, n_1, n_ltz, n_zlt, n_lt, n_eq, n_cl, n_in, nI_add, pk_mul, n_div, n_sub, nm_mod, ly_23, c_listOwn (s := 0) (by omega : (0 : Nat) ≤ 1) l1 n1]
      refine last _ ⟨fun x x1 x2 x3 x4 x5 x6 => by simp only [sc_1, x2, x3, if_false]; exact hkt.1 x x1 x2 x3 x4 x5 x6, hkt.2⟩ ?_ ?_ (by rw [os]; exact n3) ?_ ?_ (by rw [os]; exact e3) rfl rfl
      · rw [sc_1, if_pos rfl, ud_1, if_pos rfl, oa, List.length_append, List.length_singleton]
      · rw [sc_1, if_pos rfl, ud_1, if_neg (by omega)]; exact n2
      · rw [oa]
        intro j hj
        show upd (τ.1 27) _ _ j = _
        rw [gD_app hj, ud_1]
        rw [List.length_append, List.length_singleton] at hj
        by_cases e : j = (OA a b i).length
        · rw [if_pos (by omega), if_pos e]
        · rw [if_neg (by omega), if_neg e]; exact e1 j (by omega)
      · intro j hj
        show upd (τ.1 27) _ _ (4 + j) = _
        rw [ud_1, if_neg (by omega)]
        exact e2 j hj
    by_cases eab : a = b
    · simp (disch := first | assumption | omega) only [r_3_0, r_3_1, r_3_3, r_3_6, r_3_8, r_3_9, r_3_11, r_3_14, r_3_16, r_3_17, r_3_18, r_3_20, r_3_23, r_3_24, r_3_25, r_3_27, r_3_30, r_3_31, r_3_32, r_3_35, r_3_36, r_3_38, r_3_41, r_3_45, r_3_46, r_3_48, r_3_51, r_3_54, r_3_55, r_3_58, r_3_59, r_3_62, r_3_63, r_3_66, r_3_67, r_3_70, r_3_72, r_3_73, r_3_74, r_3_75, r_3_78, r_3_79, r_3_80, r_3_84, r_3_86, r_3_89, r_3_92, r_3_93, r_3_94, r_3_96, r_3_99, f_add, o_bi, o_ceq, o_cge, o_dup, o_get, o_go, o_ias, o_ivs, o_ivv, o_lda, o_ldi, o_ne, o_pi, o_put, o_rv, o_sti, acR_nx, acR_re, acR_ca, acR_no, acR_if, Kc_i, Kc_n, a_lg, a_ls, a_kl, a_pk, a_sw, cw_n, cw_i, cw_l, cw_r, List.length_cons, List.length_nil, List.getElem?_cons_succ, List.getElem?_cons_zero, ↓reduceIte, decide_true, decide_false, Bool.false_eq_true, or_true, true_or, or_false, false_or, or_self, and_true, true_and, not_true_eq_false, not_false_eq_true, Nat.reduceEqDiff, Nat.reduceLT, Nat.reduceLeDiff, Nat.reduceAdd, Nat.reduceSub, Nat.reduceMul, Nat.reduceDiv, Nat.reduceMod, Nat.zero_add, Nat.add_zero, n_z, n_1, n_ltz, n_zlt, n_lt, n_eq, n_cl, n_in, nI_add, pk_mul, n_div, n_sub, nm_mod, eab]
      rw [eab] at own
      exact own
    · have hf : hK b (kA a i) = false := by
        rw [decide_eq_false eab, Bool.false_or] at qa
        simpa using qa
      simp (disch := first | assumption | omega) only [r_3_0, r_3_1, r_3_3, r_3_6, r_3_8, r_3_9, r_3_11, r_3_14, r_3_16, r_3_17, r_3_18, r_3_20, r_3_23, r_3_24, r_3_25, r_3_27, r_3_30, r_3_31, r_3_32, r_3_35, r_3_36, r_3_38, r_3_41, r_3_45, r_3_46, r_3_48, r_3_51, r_3_54, r_3_55, r_3_58, r_3_59, r_3_62, r_3_63, r_3_66, r_3_67, r_3_70, r_3_72, r_3_73, r_3_74, r_3_75, r_3_78, r_3_79, r_3_80, r_3_84, r_3_86, r_3_89, r_3_92, r_3_93, r_3_94, r_3_96, r_3_99, f_add, o_bi, o_ceq, o_cge, o_dup, o_get, o_go, o_ias, o_ivs, o_ivv, o_lda, o_ldi, o_ne, o_pi, o_put, o_rv, o_sti, acR_nx, acR_re, acR_ca, acR_no, acR_if, Kc_i, Kc_n, a_lg, a_ls, a_kl, a_pk, a_sw, cw_n, cw_i, cw_l, cw_r, List.length_cons, List.length_nil, List.getElem?_cons_succ, List.getElem?_cons_zero, ↓reduceIte, decide_true, decide_false, Bool.false_eq_true, or_true, true_or, or_false, false_or, or_self, and_true, true_and, not_true_eq_false, not_false_eq_true, Nat.reduceEqDiff, Nat.reduceLT, Nat.reduceLeDiff, Nat.reduceAdd, Nat.reduceSub, Nat.reduceMul, Nat.reduceDiv, Nat.reduceMod, Nat.zero_add, Nat.add_zero, n_z, n_1, n_ltz, n_zlt, n_lt, n_eq, n_cl, n_in, nI_add, pk_mul, n_div, n_sub, nm_mod, eab, c_hasKnot hb ka, hf]
      exact own
  · have oa : OA a b (i + 1) = OA a b i := by rw [OA_s, if_neg qa]
    have os : OS a b (i + 1) = OS a b i ++ [kA a i] := by rw [OS_s, if_neg qa]
    have qf : (decide (a = b) || !hK b (kA a i)) = false := by simpa using qa
    have s2 := l3 qf
    have eab : ¬ a = b := by
      intro e
      rw [decide_eq_true e, Bool.true_or] at qf
      exact absurd qf (by decide)
    have ht : hK b (kA a i) = true := by
      rw [decide_eq_false eab, Bool.false_or] at qf
      simpa using qf
    simp (disch := first | assumption | omega) only [r_3_0, r_3_1, r_3_3, r_3_6, r_3_8, r_3_9, r_3_11, r_3_14, r_3_16, r_3_17, r_3_18, r_3_20, r_3_23, r_3_24, r_3_25, r_3_27, r_3_30, r_3_31, r_3_32, r_3_35, r_3_36, r_3_38, r_3_41, r_3_45, r_3_46, r_3_48, r_3_51, r_3_54, r_3_55, r_3_58, r_3_59, r_3_62, r_3_63, r_3_66, r_3_67, r_3_70, r_3_72, r_3_73, r_3_74, r_3_75, r_3_78, r_3_79, r_3_80, r_3_84, r_3_86, r_3_89, r_3_92, r_3_93, r_3_94, r_3_96, r_3_99, f_add, o_bi, o_ceq, o_cge, o_dup, o_get, o_go, o_ias, o_ivs, o_ivv, o_lda, o_ldi, o_ne, o_pi, o_put, o_rv, o_sti, acR_nx, acR_re, acR_ca, acR_no, acR_if, Kc_i, Kc_n, a_lg, a_ls, a_kl, a_pk, a_sw, cw_n, cw_i, cw_l, cw_r, List.length_cons, List.length_nil, List.getElem?_cons_succ, List.getElem?_cons_zero, ↓reduceIte, decide_true, decide_false, Bool.false_eq_true, or_true, true_or, or_false, false_or, or_self, and_true, true_and, not_true_eq_false, not_false_eq_true, Nat.reduceEqDiff, Nat.reduceLT, Nat.reduceLeDiff, Nat.reduceAdd, Nat.reduceSub, Nat.reduceMul, Nat.reduceDiv, Nat.reduceMod, Nat.zero_add, Nat.add_zero, n_z, n_1, n_ltz, n_zlt, n_lt, n_eq, n_cl, n_in, nI_add, pk_mul, n_div, n_sub, nm_mod, ly_23, ly_29, eab, c_hasKnot hb ka, ht, n3, s2, wi_sc, sc_1]
    refine last _ ⟨fun x x1 x2 x3 x4 x5 x6 => by simp only [sc_1, x1, x4, if_false]; exact hkt.1 x x1 x2 x3 x4 x5 x6, hkt.2⟩ (by rw [oa]; exact n1) n2 ?_ (by rw [oa]; exact e1) e2 ?_ rfl rfl
    · rw [sc_1, if_pos rfl, ud_1, if_pos rfl, os, List.length_append, List.length_singleton]
    · rw [os]
      intro j hj
      show upd (τ.1 29) _ _ j = _
      rw [gD_app hj, ud_1]
      rw [List.length_append, List.length_singleton] at hj
      by_cases e : j = (OS a b i).length
      · rw [if_pos (by omega), if_pos e]
      · rw [if_neg (by omega), if_neg e]; exact e3 j (by omega)
