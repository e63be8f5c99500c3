/-! least: the class's own knots get their twine -/
theorem cl_subI {x : Int32} {g : Nat} (h : -10000 ≤ x.toInt) (h2 : x.toInt ≤ 30) (hg : g ≤ 21) : (x - nI g).toInt = x.toInt - g ∧ (x - nI g).toNatClampNeg = x.toNatClampNeg - g := by
  have e : (x - nI g).toInt = x.toInt - g := by
    rw [Int32.toInt_sub, nI_toInt (by omega)]
    rw [Int.bmod_def]
    split <;> omega
  refine ⟨e, ?_⟩
  show (x - nI g).toInt.toNat = x.toInt.toNat - g
  rw [e]
  omega
def gL (f : Nat → Int32) (L : List Nat) (i l k : Nat) : Nat := dG (moN f) (stC f) okC 1000 (L.drop i) l k
def fL (f : Nat → Int32) (L : List Nat) (i l : Nat) : Nat := fsT (fun tw => tw + dL f L (i + 1) (l - gaN f (L.getD i 0) tw)) (dL f L i l) (moN f (L.getD i 0)) 0
theorem gL_s (f : Nat → Int32) {L : List Nat} {i : Nat} (hi : i < L.length) (l k : Nat) : gL f L i l k = if k = L.getD i 0 then fL f L i l else gL f L (i + 1) (l - gaN f (L.getD i 0) (fL f L i l)) k := by
  unfold gL fL dL
  have e : L.drop i = L.getD i 0 :: L.drop (i + 1) := by
    rw [List.getD_eq_getElem?_getD, List.getElem?_eq_getElem hi]
    exact List.drop_eq_getElem_cons hi
  rw [e]
  rfl
theorem fL_ok (f : Nat → Int32) {L : List Nat} {i : Nat} (hi : i < L.length) (l : Nat) (h : dL f L i l < 1000) : fL f L i l ≤ moN f (L.getD i 0) ∧ fL f L i l + dL f L (i + 1) (l - gaN f (L.getD i 0) (fL f L i l)) = dL f L i l ∧ ∀ tw, tw < fL f L i l → dL f L i l < tw + dL f L (i + 1) (l - gaN f (L.getD i 0) tw) := by
  have e := dL_s f hi l
  rw [mb_mnT] at e
  have h' := h
  rw [e] at h'
  obtain ⟨j, h1, h2⟩ := mnT_at _ _ _ h'
  rw [← e] at h2
  have low := (mnT_le 1000 (fun tw => tw + dL f L (i + 1) (l - gaN f (L.getD i 0) tw)) (moN f (L.getD i 0))).2
  rw [← e] at low
  obtain ⟨-, f1, f2, f3⟩ := fsT_ok (fun tw => tw + dL f L (i + 1) (l - gaN f (L.getD i 0) tw)) (dL f L i l) (moN f (L.getD i 0)) 0 ⟨j, by omega, by omega, h2⟩
  refine ⟨by unfold fL; omega, f2, fun tw htw => ?_⟩
  have a1 : tw + dL f L (i + 1) (l - gaN f (L.getD i 0) tw) ≠ dL f L i l := f3 tw (by omega) htw
  have a2 : dL f L i l ≤ tw + dL f L (i + 1) (l - gaN f (L.getD i 0) tw) := low tw (by unfold fL at htw; omega)
  omega
theorem c_fillOwn {f : Nat → Int32} {s : Nat} (hs : s ≤ 1) {L : List Nat} (hn : L.length ≤ 4) (hd : ∀ i j, i < L.length → j < L.length → L.getD i 0 = L.getD j 0 → i = j) {σ : a_HP} (hk : ∀ i, i < L.length → L.getD i 0 < 16) (h28 : σ.1 28 s = nI L.length) (h27 : ∀ i, i < L.length → σ.1 27 (s * 4 + i) = nI (L.getD i 0)) (h30 : ∀ i, i < L.length → σ.1 30 (L.getD i 0) = nI (moN f (L.getD i 0)) ∧ moN f (L.getD i 0) ≤ 9) (h31 : ∀ i, i < L.length → ∀ tw, tw ≤ moN f (L.getD i 0) → σ.1 31 (L.getD i 0 * 10 + tw) = nI (gaN f (L.getD i 0) tw) ∧ gaN f (L.getD i 0) tw ≤ 21) (h32 : ∀ i l, i ≤ L.length → l < 31 → σ.1 32 ((s * 5 + i) * 31 + l) = nI (dL f L i l)) {W : Int32} (w1 : -1000 ≤ W.toInt) (w2 : W.toInt ≤ 30) (hc : dL f L 0 W.toNatClampNeg < 1000) (R : Nat → Int32) (Q : Option Value → a_HP → Prop) (hQ : ∀ R' : Nat → Int32, (∀ i, i < L.length → R' (L.getD i 0) = nI (gL f L 0 W.toNatClampNeg (L.getD i 0))) → (∀ j, (∀ i, i < L.length → j ≠ L.getD i 0) → R' j = R j) → Q none (a_sc σ 25 R')) : Cl 14 [.ref 23, .int (nI s), .int W] (a_sc σ 25 R) Q := by
  have s2 : s < 2 := by omega
  have key := lp_dn (C := fun i => ∀ (R' : Nat → Int32) (V : Int32) x5 x6 x7, -1000 - 21 * (i : Int) ≤ V.toInt → V.toInt ≤ 30 → dL f L i V.toNatClampNeg < 1000 → (∀ k, (∀ j, j < i → k ≠ L.getD j 0) → gL f L 0 W.toNatClampNeg k = gL f L i V.toNatClampNeg k) → (∀ j, j < i → R' (L.getD j 0) = nI (gL f L 0 W.toNatClampNeg (L.getD j 0))) → (∀ j, (∀ i', i' < i → j ≠ L.getD i' 0) → R' j = R j) → Rn 14 5 [some (.ref 23), some (.int (nI s)), some (.int W), some (.int V), some (.int (nI i)), x5, x6, x7] [] (a_sc σ 25 R') Q) L.length (fun R' V x5 x6 x7 v1 v2 v3 hg h1 h2 => by
    rw [r_14_5]
    simp (disch := first | assumption | omega) only [r_14_0, r_14_1, r_14_2, r_14_3, r_14_7, r_14_8, r_14_11, r_14_12, r_14_13, r_14_16, r_14_17, r_14_20, r_14_21, r_14_22, r_14_23, r_14_25, r_14_26, r_14_27, r_14_29, r_14_30, r_14_31, r_14_33, r_14_34, r_14_37, r_14_39, r_14_40, r_14_44, r_14_45, r_14_48, r_14_50, r_14_51, r_14_54, r_14_56, r_14_57, r_14_58, r_14_60, r_14_61, r_14_62, r_14_63, r_14_64, r_14_66, r_14_68, r_14_71, r_14_72, r_14_75, r_14_76, r_14_78, r_14_81, r_14_84, r_14_87, r_14_88, r_14_91, r_14_93, r_14_95, r_14_96, r_14_97, r_14_98, r_14_100, r_14_102, r_14_105, r_14_106, r_14_107, r_14_110, r_14_113, f_add, f_mul, f_sub, o_bi, o_cge, o_cle, o_get, o_go, o_ial, o_ias, o_inc, o_ivv, o_lda, o_ldi, o_pi, o_rv, o_sti, o_ldi, acR_nx, acR_re, acR_ca, acR_no, acR_if, Kc_i, Kc_n, a_lg, a_ls, a_kl, a_pk, a_sw, cw_n, cw_i, cw_l, cw_r, List.length_cons, List.length_nil, List.getElem?_cons_succ, List.getElem?_cons_zero, ↓reduceIte, decide_true, decide_false, Bool.false_eq_true, or_true, true_or, or_false, false_or, or_self, and_true, true_and, not_true_eq_false, not_false_eq_true, Nat.reduceEqDiff, Nat.reduceLT, Nat.reduceLeDiff, Nat.reduceAdd, Nat.reduceSub, Nat.reduceMul, Nat.reduceDiv, Nat.reduceMod, Nat.zero_add, Nat.add_zero, n_z, n_1, n_ltz, n_zlt, n_lt, n_eq, n_cl, n_in, nI_add, pk_mul, n_div, n_sub, nm_mod, ly_23, ly_28, sc_1, s2, h28, Nat.lt_irrefl]
    exact hQ R' h1 h2) (fun i hi ih R' V x5 x6 x7 v1 v2 v3 hg h1 h2 => by
    rw [r_14_5]
    obtain ⟨f1, f2, f3⟩ := fL_ok f hi V.toNatClampNeg v3
    have gs := gL_s f hi V.toNatClampNeg
    have kk := hk i hi
    have a27 := h27 i hi
    obtain ⟨a30, mo9⟩ := h30 i hi
    have a31 := h31 i hi
    have hne : ∀ j, j < i → L.getD i 0 ≠ L.getD j 0 := fun j hj e => by have := hd i j hi (by omega) e; omega
    have hgk := hg (L.getD i 0) (fun j hj => hne j hj)
    rw [gs, if_pos rfl] at hgk
    generalize hkd : L.getD i 0 = k at *
    generalize fL f L i V.toNatClampNeg = v at *
    have i8 : s * 4 + i < 8 := by omega
    have i4 : i ≤ 4 := by omega
    have i41 : i + 1 ≤ 4 := by omega
    have vl31 : V.toNatClampNeg < 31 := by
      show V.toInt.toNat < 31
      omega
    have dl := dL_le f L i V.toNatClampNeg
    have co0 := c_costOf hs i4 vl31 (a_sc σ 25 R')
    have s32 : (a_sc σ 25 R').1 32 = σ.1 32 := rfl
    rw [s32, h32 i _ (by omega) vl31] at co0
    have sub : ∀ tw, tw ≤ moN f k → (V - nI (gaN f k tw)).toInt = V.toInt - gaN f k tw ∧ (V - nI (gaN f k tw)).toNatClampNeg = V.toNatClampNeg - gaN f k tw := fun tw h => cl_subI (by omega) v2 (a31 tw h).2
    have cg : ∀ tw, tw ≤ moN f k → ∀ Q, Cl 6 [.ref 23, .int (nI k), .int (nI tw)] (a_sc σ 25 R') Q = Q (some (.int (nI (gaN f k tw)))) (a_sc σ 25 R') := fun tw h Q => by
      rw [c_gained kk (by omega)]
      have s31 : (a_sc σ 25 R').1 31 = σ.1 31 := rfl
      rw [s31, (a31 tw h).1]
    have cg2 : ∀ R2 tw, tw ≤ moN f k → ∀ Q, Cl 6 [.ref 23, .int (nI k), .int (nI tw)] (a_sc σ 25 R2) Q = Q (some (.int (nI (gaN f k tw)))) (a_sc σ 25 R2) := fun R2 tw h Q => by
      rw [c_gained kk (by omega)]
      have s31 : (a_sc σ 25 R2).1 31 = σ.1 31 := rfl
      rw [s31, (a31 tw h).1]
    have co : ∀ tw, tw ≤ moN f k → ∀ Q, Cl 10 [.ref 23, .int (nI s), .int (nI (i + 1)), .int (V - nI (gaN f k tw))] (a_sc σ 25 R') Q = Q (some (.int (nI (dL f L (i + 1) (V.toNatClampNeg - gaN f k tw))))) (a_sc σ 25 R') := fun tw h Q => by
      have b : (V - nI (gaN f k tw)).toNatClampNeg < 31 := by rw [(sub tw h).2]; omega
      rw [c_costOf hs i41 b, (sub tw h).2]
      rw [s32, h32 (i + 1) _ (by omega) (by omega)]
    have after : Rn 14 87 [some (.ref 23), some (.int (nI s)), some (.int W), some (.int V), some (.int (nI i)), some (.int (nI k)), some (.int (nI (dL f L i V.toNatClampNeg))), some (.int (nI v))] [] (a_sc σ 25 R') Q := by
      simp (disch := first | assumption | omega) only [r_14_0, r_14_1, r_14_2, r_14_3, r_14_7, r_14_8, r_14_11, r_14_12, r_14_13, r_14_16, r_14_17, r_14_20, r_14_21, r_14_22, r_14_23, r_14_25, r_14_26, r_14_27, r_14_29, r_14_30, r_14_31, r_14_33, r_14_34, r_14_37, r_14_39, r_14_40, r_14_44, r_14_45, r_14_48, r_14_50, r_14_51, r_14_54, r_14_56, r_14_57, r_14_58, r_14_60, r_14_61, r_14_62, r_14_63, r_14_64, r_14_66, r_14_68, r_14_71, r_14_72, r_14_75, r_14_76, r_14_78, r_14_81, r_14_84, r_14_87, r_14_88, r_14_91, r_14_93, r_14_95, r_14_96, r_14_97, r_14_98, r_14_100, r_14_102, r_14_105, r_14_106, r_14_107, r_14_110, r_14_113, f_add, f_mul, f_sub, o_bi, o_cge, o_cle, o_get, o_go, o_ial, o_ias, o_inc, o_ivv, o_lda, o_ldi, o_pi, o_rv, o_sti, o_ldi, acR_nx, acR_re, acR_ca, acR_no, acR_if, Kc_i, Kc_n, a_lg, a_ls, a_kl, a_pk, a_sw, cw_n, cw_i, cw_l, cw_r, List.length_cons, List.length_nil, List.getElem?_cons_succ, List.getElem?_cons_zero, ↓reduceIte, decide_true, decide_false, Bool.false_eq_true, or_true, true_or, or_false, false_or, or_self, and_true, true_and, not_true_eq_false, not_false_eq_true, Nat.reduceEqDiff, Nat.reduceLT, Nat.reduceLeDiff, Nat.reduceAdd, Nat.reduceSub, Nat.reduceMul, Nat.reduceDiv, Nat.reduceMod, Nat.zero_add, Nat.add_zero, n_z, n_1, n_lt, n_in, n_cl, nI_add i 1, ly_23, ly_25, kk, wi_sc, sc_1, sc_sc, cg2 _ v f1]
      have sv := sub v f1
      refine ih _ _ _ _ _ ?_ ?_ ?_ (fun x hx => ?_) (fun j hj => ?_) (fun j hj => ?_)
      · rw [sv.1]; have := (a31 v f1).2; omega
      · rw [sv.1]; omega
      · rw [sv.2]; omega
      · rw [hg x (fun j hj => hx j (by omega)), gs x, if_neg (by have := hx i (by omega); rw [hkd] at this; exact this), sv.2]
      · rw [ud_1]
        by_cases e : j = i
        · rw [e, hkd, if_pos rfl, hgk]
        · rw [if_neg (fun z => hne j (by omega) z.symm)]; exact h1 j (by omega)
      · have := hj i (by omega)
        rw [hkd] at this
        rw [ud_1, if_neg this]; exact h2 j (fun i' h' => hj i' (by omega))
    have inner := lp_dn (C := fun tw => Rn 14 42 [some (.ref 23), some (.int (nI s)), some (.int W), some (.int V), some (.int (nI i)), some (.int (nI k)), some (.int (nI (dL f L i V.toNatClampNeg))), some (.int (nI tw))] [] (a_sc σ 25 R') Q) v (by
      rw [r_14_42]
      by_cases q : v < moN f k
      · have nl : ¬ dL f L i V.toNatClampNeg < dL f L i V.toNatClampNeg := by omega
        simp (disch := first | assumption | omega) only [r_14_0, r_14_1, r_14_2, r_14_3, r_14_7, r_14_8, r_14_11, r_14_12, r_14_13, r_14_16, r_14_17, r_14_20, r_14_21, r_14_22, r_14_23, r_14_25, r_14_26, r_14_27, r_14_29, r_14_30, r_14_31, r_14_33, r_14_34, r_14_37, r_14_39, r_14_40, r_14_44, r_14_45, r_14_48, r_14_50, r_14_51, r_14_54, r_14_56, r_14_57, r_14_58, r_14_60, r_14_61, r_14_62, r_14_63, r_14_64, r_14_66, r_14_68, r_14_71, r_14_72, r_14_75, r_14_76, r_14_78, r_14_81, r_14_84, r_14_88, r_14_91, r_14_93, r_14_95, r_14_96, r_14_97, r_14_98, r_14_100, r_14_102, r_14_105, r_14_106, r_14_107, r_14_110, r_14_113, f_add, f_mul, f_sub, o_bi, o_cge, o_cle, o_get, o_go, o_ial, o_ias, o_inc, o_ivv, o_lda, o_ldi, o_pi, o_rv, o_sti, o_ldi, acR_nx, acR_re, acR_ca, acR_no, acR_if, Kc_i, Kc_n, a_lg, a_ls, a_kl, a_pk, a_sw, cw_n, cw_i, cw_l, cw_r, List.length_cons, List.length_nil, List.getElem?_cons_succ, List.getElem?_cons_zero, ↓reduceIte, decide_true, decide_false, Bool.false_eq_true, or_true, true_or, or_false, false_or, or_self, and_true, true_and, not_true_eq_false, not_false_eq_true, Nat.reduceEqDiff, Nat.reduceLT, Nat.reduceLeDiff, Nat.reduceAdd, Nat.reduceSub, Nat.reduceMul, Nat.reduceDiv, Nat.reduceMod, Nat.zero_add, Nat.add_zero, n_z, n_1, n_lt, n_in, n_cl, nI_add, ly_23, ly_30, sc_1, kk, a30, q, cg v f1, co v f1, f2, nl]
        exact after
      · simp (disch := first | assumption | omega) only [r_14_0, r_14_1, r_14_2, r_14_3, r_14_7, r_14_8, r_14_11, r_14_12, r_14_13, r_14_16, r_14_17, r_14_20, r_14_21, r_14_22, r_14_23, r_14_25, r_14_26, r_14_27, r_14_29, r_14_30, r_14_31, r_14_33, r_14_34, r_14_37, r_14_39, r_14_40, r_14_44, r_14_45, r_14_48, r_14_50, r_14_51, r_14_54, r_14_56, r_14_57, r_14_58, r_14_60, r_14_61, r_14_62, r_14_63, r_14_64, r_14_66, r_14_68, r_14_71, r_14_72, r_14_75, r_14_76, r_14_78, r_14_81, r_14_84, r_14_88, r_14_91, r_14_93, r_14_95, r_14_96, r_14_97, r_14_98, r_14_100, r_14_102, r_14_105, r_14_106, r_14_107, r_14_110, r_14_113, f_add, f_mul, f_sub, o_bi, o_cge, o_cle, o_get, o_go, o_ial, o_ias, o_inc, o_ivv, o_lda, o_ldi, o_pi, o_rv, o_sti, o_ldi, acR_nx, acR_re, acR_ca, acR_no, acR_if, Kc_i, Kc_n, a_lg, a_ls, a_kl, a_pk, a_sw, cw_n, cw_i, cw_l, cw_r, List.length_cons, List.length_nil, List.getElem?_cons_succ, List.getElem?_cons_zero, ↓reduceIte, decide_true, decide_false, Bool.false_eq_true, or_true, true_or, or_false, false_or, or_self, and_true, true_and, not_true_eq_false, not_false_eq_true, Nat.reduceEqDiff, Nat.reduceLT, Nat.reduceLeDiff, Nat.reduceAdd, Nat.reduceSub, Nat.reduceMul, Nat.reduceDiv, Nat.reduceMod, Nat.zero_add, Nat.add_zero, n_z, n_1, n_lt, n_in, n_cl, ly_23, ly_30, sc_1, kk, a30, q]
        exact after) (fun tw htw it => by
      rw [r_14_42]
      have q : tw < moN f k := by omega
      have q2 : tw ≤ moN f k := by omega
      have gt := f3 tw htw
      have b1 := dL_le f L (i + 1) (V.toNatClampNeg - gaN f k tw)
      simp (disch := first | assumption | omega) only [r_14_0, r_14_1, r_14_2, r_14_3, r_14_7, r_14_8, r_14_11, r_14_12, r_14_13, r_14_16, r_14_17, r_14_20, r_14_21, r_14_22, r_14_23, r_14_25, r_14_26, r_14_27, r_14_29, r_14_30, r_14_31, r_14_33, r_14_34, r_14_37, r_14_39, r_14_40, r_14_44, r_14_45, r_14_48, r_14_50, r_14_51, r_14_54, r_14_56, r_14_57, r_14_58, r_14_60, r_14_61, r_14_62, r_14_63, r_14_64, r_14_66, r_14_68, r_14_71, r_14_72, r_14_75, r_14_76, r_14_78, r_14_81, r_14_84, r_14_88, r_14_91, r_14_93, r_14_95, r_14_96, r_14_97, r_14_98, r_14_100, r_14_102, r_14_105, r_14_106, r_14_107, r_14_110, r_14_113, f_add, f_mul, f_sub, o_bi, o_cge, o_cle, o_get, o_go, o_ial, o_ias, o_inc, o_ivv, o_lda, o_ldi, o_pi, o_rv, o_sti, o_ldi, acR_nx, acR_re, acR_ca, acR_no, acR_if, Kc_i, Kc_n, a_lg, a_ls, a_kl, a_pk, a_sw, cw_n, cw_i, cw_l, cw_r, List.length_cons, List.length_nil, List.getElem?_cons_succ, List.getElem?_cons_zero, ↓reduceIte, decide_true, decide_false, Bool.false_eq_true, or_true, true_or, or_false, false_or, or_self, and_true, true_and, not_true_eq_false, not_false_eq_true, Nat.reduceEqDiff, Nat.reduceLT, Nat.reduceLeDiff, Nat.reduceAdd, Nat.reduceSub, Nat.reduceMul, Nat.reduceDiv, Nat.reduceMod, Nat.zero_add, Nat.add_zero, n_z, n_1, n_lt, n_in, n_cl, nI_add, ly_23, ly_30, sc_1, kk, a30, q, cg tw q2, co tw q2, gt]
      exact it)
    simp (disch := first | assumption | omega) only [r_14_0, r_14_1, r_14_2, r_14_3, r_14_7, r_14_8, r_14_11, r_14_12, r_14_13, r_14_16, r_14_17, r_14_20, r_14_21, r_14_22, r_14_23, r_14_25, r_14_26, r_14_27, r_14_29, r_14_30, r_14_31, r_14_33, r_14_34, r_14_37, r_14_39, r_14_40, r_14_44, r_14_45, r_14_48, r_14_50, r_14_51, r_14_54, r_14_56, r_14_57, r_14_58, r_14_60, r_14_61, r_14_62, r_14_63, r_14_64, r_14_66, r_14_68, r_14_71, r_14_72, r_14_75, r_14_76, r_14_78, r_14_81, r_14_84, r_14_87, r_14_88, r_14_91, r_14_93, r_14_95, r_14_96, r_14_97, r_14_98, r_14_100, r_14_102, r_14_105, r_14_106, r_14_107, r_14_110, r_14_113, f_add, f_mul, f_sub, o_bi, o_cge, o_cle, o_get, o_go, o_ial, o_ias, o_inc, o_ivv, o_lda, o_ldi, o_pi, o_rv, o_sti, o_ldi, acR_nx, acR_re, acR_ca, acR_no, acR_if, Kc_i, Kc_n, a_lg, a_ls, a_kl, a_pk, a_sw, cw_n, cw_i, cw_l, cw_r, List.length_cons, List.length_nil, List.getElem?_cons_succ, List.getElem?_cons_zero, ↓reduceIte, decide_true, decide_false, Bool.false_eq_true, or_true, true_or, or_false, false_or, or_self, and_true, true_and, not_true_eq_false, not_false_eq_true, Nat.reduceEqDiff, Nat.reduceLT, Nat.reduceLeDiff, Nat.reduceAdd, Nat.reduceSub, Nat.reduceMul, Nat.reduceDiv, Nat.reduceMod, Nat.zero_add, Nat.add_zero, n_z, n_1, n_lt, n_in, n_cl, pk_mul, nI_add, ly_23, ly_27, ly_28, sc_1, s2, h28, hi, i8, a27, co0]
    exact inner)
  simp (disch := first | assumption | omega) only [cl_14, r_14_0, r_14_1, r_14_2, r_14_3, r_14_7, r_14_8, r_14_11, r_14_12, r_14_13, r_14_16, r_14_17, r_14_20, r_14_21, r_14_22, r_14_23, r_14_25, r_14_26, r_14_27, r_14_29, r_14_30, r_14_31, r_14_33, r_14_34, r_14_37, r_14_39, r_14_40, r_14_44, r_14_45, r_14_48, r_14_50, r_14_51, r_14_54, r_14_56, r_14_57, r_14_58, r_14_60, r_14_61, r_14_62, r_14_63, r_14_64, r_14_66, r_14_68, r_14_71, r_14_72, r_14_75, r_14_76, r_14_78, r_14_81, r_14_84, r_14_87, r_14_88, r_14_91, r_14_93, r_14_95, r_14_96, r_14_97, r_14_98, r_14_100, r_14_102, r_14_105, r_14_106, r_14_107, r_14_110, r_14_113, f_add, f_mul, f_sub, o_bi, o_cge, o_cle, o_get, o_go, o_ial, o_ias, o_inc, o_ivv, o_lda, o_ldi, o_pi, o_rv, o_sti, acR_nx, acR_re, acR_ca, acR_no, acR_if, Kc_i, Kc_n, a_lg, a_ls, a_kl, a_pk, a_sw, cw_n, cw_i, cw_l, cw_r, List.length_cons, List.length_nil, List.getElem?_cons_succ, List.getElem?_cons_zero, ↓reduceIte, decide_true, decide_false, Bool.false_eq_true, or_true, true_or, or_false, false_or, or_self, and_true, true_and, not_true_eq_false, not_false_eq_true, Nat.reduceEqDiff, Nat.reduceLT, Nat.reduceLeDiff, Nat.reduceAdd, Nat.reduceSub, Nat.reduceMul, Nat.reduceDiv, Nat.reduceMod, Nat.zero_add, Nat.add_zero, n_z, n_1, n_ltz, n_zlt, n_lt, n_eq, n_cl, n_in, nI_add, pk_mul, n_div, n_sub, nm_mod]
  exact key R W none none none (by omega) w2 hc (fun k _ => rfl) (fun j hj => by omega) (fun j _ => rfl)
