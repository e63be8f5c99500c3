/-! least: the class's gains and costs -/
theorem kH_N : ∀ d : Fin 6, ∀ e : Fin 10, ∀ r : Fin 2, ∀ t : Fin 10, kH (nI d.val) (nI e.val) (nI r.val) (nI t.val) = mK (nI d.val) (nI e.val) (nI r.val) (nI t.val) := by decide +kernel
theorem mK_mono : ∀ d : Fin 6, ∀ e g : Fin 10, ∀ r : Fin 2, ∀ t : Fin 10, 0 < e.val → e.val ≤ g.val → (mK (nI d.val) (nI e.val) (nI r.val) (nI t.val)).toNatClampNeg ≤ (mK (nI d.val) (nI g.val) (nI r.val) (nI t.val)).toNatClampNeg := by decide +kernel
def gaN (f : Nat → Int32) (k tw : Nat) : Nat := byN f k tw - byN f k 0
theorem ga_ok {N : Nat} {f : Nat → Int32} (hv : vN N f) {k tw : Nat} (hk : k < 16) (ht : tw ≤ moN f k) : byN f k 0 ≤ byN f k tw ∧ kH (f (4 + k)) (f (20 + k) + nI tw) (f 0) (kRt (fun j => f (20 + j)) k) - pH (f 0) (fun j => f (4 + j)) (fun j => f (20 + j)) k = nI (gaN f k tw) ∧ gaN f k tw ≤ 21 := by
  obtain ⟨b1, b2⟩ := hb_ok hv hk ht
  obtain ⟨c1, c2⟩ := hb_ok (tw := 0) hv hk (Nat.zero_le _)
  obtain ⟨es, hs⟩ := sN_ok hv hk
  obtain ⟨d, hd, e1⟩ := (hv.2.2.2.2.1 k hk).1
  obtain ⟨rt, hrt, e2⟩ := kRt_ok (vKn_of hv) hk
  have hr : ∃ r : Fin 2, f 0 = nI r.val := by
    rcases hv.1 with e | e
    · exact ⟨0, e⟩
    · exact ⟨1, e⟩
  obtain ⟨r, er⟩ := hr
  have key : byN f k 0 ≤ byN f k tw := by
    unfold byN byI
    by_cases q : sN f k = 0
    · rw [if_pos q, if_pos q]; exact Nat.le_refl _
    · rw [if_neg q, if_neg q, e1, e2, er]
      unfold moN at ht
      rw [if_neg q] at ht
      exact mK_mono ⟨d, by omega⟩ ⟨sN f k + 0, by omega⟩ ⟨sN f k + tw, by omega⟩ r ⟨rt, by omega⟩ (by show 0 < sN f k + 0; omega) (by show sN f k + 0 ≤ sN f k + tw; omega)
  have sw : sN f k + tw < 10 ∧ (sN f k = 0 → tw = 0) := by
    unfold moN at ht
    by_cases q : sN f k = 0
    · rw [if_pos q] at ht; omega
    · rw [if_neg q] at ht; omega
  have h1 : kH (f (4 + k)) (f (20 + k) + nI tw) (f 0) (kRt (fun j => f (20 + j)) k) = nI (byN f k tw) := by
    rw [← b1]
    unfold byI
    rw [es, nI_add, e1, e2, er]
    rw [show (if sN f k = 0 then 0 else sN f k + tw) = sN f k + tw by split <;> omega]
    exact kH_N ⟨d, by omega⟩ ⟨sN f k + tw, sw.1⟩ r ⟨rt, by omega⟩
  have h2 : pH (f 0) (fun j => f (4 + j)) (fun j => f (20 + j)) k = nI (byN f k 0) := by
    rw [← c1]
    unfold pH byI
    dsimp only
    rw [es, e1, e2, er]
    rw [show (if sN f k = 0 then 0 else sN f k + 0) = sN f k by split <;> omega]
    exact kH_N ⟨d, by omega⟩ ⟨sN f k, by omega⟩ r ⟨rt, by omega⟩
  refine ⟨key, ?_, ?_⟩
  · rw [h1, h2, n_sub key]
    rfl
  · unfold gaN; omega
theorem c_fillGains {N : Nat} {σ : a_HP} {f : Nat → Int32} (he : eN (σ.1 1) (σ.1 2) (σ.1 3) (σ.1 4) (σ.1 5) f) (hv : vN N f) {k : Nat} (hk : k < 16) (Q : Option Value → a_HP → Prop) (hQ : ∀ G : Nat → Int32, (∀ tw, tw ≤ moN f k → G (k * 10 + tw) = nI (gaN f k tw)) → (∀ j, j < k * 10 ∨ k * 10 + 10 ≤ j → G j = σ.1 31 j) → Q none (a_sc (a_sc σ 30 (upd (σ.1 30) k (nI (moN f k)))) 31 G)) : Cl 5 [.ref 23, .ref 1, .int (nI k)] σ Q := by
  obtain ⟨es, hs⟩ := sN_ok hv hk
  have e3 : σ.1 3 k = nI (sN f k) := (he.2.1 k hk).2.1.trans es
  have e2 : σ.1 2 k = f (4 + k) := (he.2.1 k hk).1
  have e0 : σ.1 1 0 = f 0 := he.1 0 (by omega)
  have rt : kRt (σ.1 3) k = kRt (fun j => f (20 + j)) k := kRt_c (fun j hj => (he.2.1 j hj).2.1) hk
  have ph : pH (σ.1 1 0) (σ.1 2) (σ.1 3) k = pH (f 0) (fun j => f (4 + j)) (fun j => f (20 + j)) k := pH_c e0 (fun j hj => (he.2.1 j hj).1) (fun j hj => (he.2.1 j hj).2.1) hk
  have mo9 : moN f k ≤ 9 := by unfold moN; split <;> omega
  have ga := fun tw (h : tw ≤ moN f k) => ga_ok hv hk h
  rw [es] at ga
  have u30 : upd (σ.1 30) k (nI (moN f k)) k = nI (moN f k) := by rw [ud_1, if_pos rfl]
  generalize hph : pH (f 0) (fun j => f (4 + j)) (fun j => f (20 + j)) k = ph0 at *
  have loop := lp_dn (C := fun tw => ∀ (G : Nat → Int32) x7, (∀ t, t < tw → G (k * 10 + t) = nI (gaN f k t)) → (∀ j, j < k * 10 ∨ k * 10 + 10 ≤ j → G j = σ.1 31 j) → Rn 5 42 [some (.ref 23), some (.ref 1), some (.int (nI k)), some (.int (nI (sN f k))), some (.int (kRt (fun j => f (20 + j)) k)), some (.int ph0), some (.int (nI tw)), x7] [] (a_sc (a_sc σ 30 (upd (σ.1 30) k (nI (moN f k)))) 31 G) Q) (moN f k + 1) (fun G x7 h1 h2 => by
    rw [r_5_42]
    have m1 : moN f k < moN f k + 1 := by omega
    simp (disch := first | assumption | omega) only [r_5_0, r_5_1, r_5_4, r_5_5, r_5_6, r_5_7, r_5_8, r_5_9, r_5_12, r_5_14, r_5_15, r_5_16, r_5_19, r_5_21, r_5_22, r_5_25, r_5_26, r_5_27, r_5_30, r_5_31, r_5_34, r_5_36, r_5_37, r_5_38, r_5_39, r_5_40, r_5_44, r_5_45, r_5_48, r_5_49, r_5_50, r_5_53, r_5_54, r_5_57, r_5_58, r_5_59, r_5_60, r_5_62, r_5_63, r_5_64, r_5_67, r_5_69, r_5_72, r_5_74, r_5_75, r_5_78, r_5_79, r_5_81, r_5_82, r_5_84, r_5_85, r_5_87, r_5_89, r_5_90, r_5_91, r_5_94, r_5_97, f_add, f_mul, f_sub, o_bi, o_cgt, o_get, o_go, o_ial, o_ias, o_inc, o_ivs, o_ivv, o_lda, o_ldi, o_ne, o_pi, o_rv, o_sti, o_ldi, acR_nx, acR_re, acR_ca, acR_no, acR_if, Kc_i, Kc_n, a_lg, a_ls, a_kl, a_pk, a_sw, cw_n, cw_i, cw_l, cw_r, List.length_cons, List.length_nil, List.getElem?_cons_succ, List.getElem?_cons_zero, ↓reduceIte, decide_true, decide_false, Bool.false_eq_true, or_true, true_or, or_false, false_or, or_self, and_true, true_and, not_true_eq_false, not_false_eq_true, Nat.reduceEqDiff, Nat.reduceLT, Nat.reduceLeDiff, Nat.reduceAdd, Nat.reduceSub, Nat.reduceMul, Nat.reduceDiv, Nat.reduceMod, Nat.zero_add, Nat.add_zero, n_z, n_1, n_ltz, n_zlt, n_lt, n_eq, n_cl, n_in, nI_add, pk_mul, n_div, n_sub, nm_mod, ly_23, ly_30, sc_1, hk, u30, m1]
    exact hQ G (fun t ht => h1 t (by omega)) h2) (fun tw htw ih G x7 h1 h2 => by
    rw [r_5_42]
    have m1 : ¬ moN f k < tw := by omega
    have g := (ga tw (by omega)).2.1
    have ib : k * 10 + tw < 160 := by omega
    simp (disch := first | assumption | omega) only [r_5_0, r_5_1, r_5_4, r_5_5, r_5_6, r_5_7, r_5_8, r_5_9, r_5_12, r_5_14, r_5_15, r_5_16, r_5_19, r_5_21, r_5_22, r_5_25, r_5_26, r_5_27, r_5_30, r_5_31, r_5_34, r_5_36, r_5_37, r_5_38, r_5_39, r_5_40, r_5_44, r_5_45, r_5_48, r_5_49, r_5_50, r_5_53, r_5_54, r_5_57, r_5_58, r_5_59, r_5_60, r_5_62, r_5_63, r_5_64, r_5_67, r_5_69, r_5_72, r_5_74, r_5_75, r_5_78, r_5_79, r_5_81, r_5_82, r_5_84, r_5_85, r_5_87, r_5_89, r_5_90, r_5_91, r_5_94, r_5_97, f_add, f_mul, f_sub, o_bi, o_cgt, o_get, o_go, o_ial, o_ias, o_inc, o_ivs, o_ivv, o_lda, o_ldi, o_ne, o_pi, o_rv, o_sti, o_ldi, acR_nx, acR_re, acR_ca, acR_no, acR_if, Kc_i, Kc_n, a_lg, a_ls, a_kl, a_pk, a_sw, cw_n, cw_i, cw_l, cw_r, List.length_cons, List.length_nil, List.getElem?_cons_succ, List.getElem?_cons_zero, ↓reduceIte, decide_true, decide_false, Bool.false_eq_true, or_true, true_or, or_false, false_or, or_self, and_true, true_and, not_true_eq_false, not_false_eq_true, Nat.reduceEqDiff, Nat.reduceLT, Nat.reduceLeDiff, Nat.reduceAdd, Nat.reduceSub, Nat.reduceMul, Nat.reduceDiv, Nat.reduceMod, Nat.zero_add, Nat.add_zero, n_z, n_1, n_lt, n_in, n_cl, pk_mul, nI_add (k * 10) tw, nI_add tw 1, ly_1, ly_2, ly_23, ly_30, ly_31, sc_1, hk, u30, m1, e2, e0, c_kindHolds, g, ib, wi_sc, sc_sc]
    refine ih _ _ (fun t ht => ?_) (fun j hj => ?_)
    · rw [ud_1]
      by_cases e : t = tw
      · rw [if_pos (by omega), e]
      · rw [if_neg (by omega)]; exact h1 t (by omega)
    · rw [ud_1, if_neg (by omega)]; exact h2 j hj)
  have k0 := loop (σ.1 31) none (fun t ht => by omega) (fun _ _ => rfl)
  rw [show a_sc (a_sc σ 30 (upd (σ.1 30) k (nI (moN f k)))) 31 (σ.1 31) = a_sc σ 30 (upd (σ.1 30) k (nI (moN f k))) from sc_id (a_sc σ 30 (upd (σ.1 30) k (nI (moN f k)))) 31] at k0
  have mo : (if sN f k = 0 then nI 0 else nI 9 - nI (sN f k)) = nI (moN f k) := by
    unfold moN
    by_cases q : sN f k = 0
    · rw [if_pos q, if_pos q]
    · rw [if_neg q, if_neg q, n_sub (by omega)]
  by_cases q : sN f k = 0
  · rw [if_pos q] at mo
    have m0 : moN f k = 0 := by unfold moN; rw [if_pos q]
    simp (disch := first | assumption | omega) only [cl_5, r_5_0, r_5_1, r_5_4, r_5_5, r_5_6, r_5_7, r_5_8, r_5_9, r_5_12, r_5_14, r_5_15, r_5_16, r_5_19, r_5_21, r_5_22, r_5_25, r_5_26, r_5_27, r_5_30, r_5_31, r_5_34, r_5_36, r_5_37, r_5_38, r_5_39, r_5_40, r_5_44, r_5_45, r_5_48, r_5_49, r_5_50, r_5_53, r_5_54, r_5_57, r_5_58, r_5_59, r_5_60, r_5_62, r_5_63, r_5_64, r_5_67, r_5_69, r_5_72, r_5_74, r_5_75, r_5_78, r_5_79, r_5_81, r_5_82, r_5_84, r_5_85, r_5_87, r_5_89, r_5_90, r_5_91, r_5_94, r_5_97, f_add, f_mul, f_sub, o_bi, o_cgt, o_get, o_go, o_ial, o_ias, o_inc, o_ivs, o_ivv, o_lda, o_ldi, o_ne, o_pi, o_rv, o_sti, acR_nx, acR_re, acR_ca, acR_no, acR_if, Kc_i, Kc_n, a_lg, a_ls, a_kl, a_pk, a_sw, cw_n, cw_i, cw_l, cw_r, List.length_cons, List.length_nil, List.getElem?_cons_succ, List.getElem?_cons_zero, ↓reduceIte, decide_true, decide_false, Bool.false_eq_true, or_true, true_or, or_false, false_or, or_self, and_true, true_and, not_true_eq_false, not_false_eq_true, Nat.reduceEqDiff, Nat.reduceLT, Nat.reduceLeDiff, Nat.reduceAdd, Nat.reduceSub, Nat.reduceMul, Nat.reduceDiv, Nat.reduceMod, Nat.zero_add, Nat.add_zero, n_z, n_1, n_ltz, n_zlt, n_lt, n_eq, n_cl, n_in, nI_add, pk_mul, n_div, n_sub, nm_mod, ly_1, ly_3, ly_23, ly_30, hk, e3, c_right aN_1 hk, c_knotHolds aN_1 hk, rt, ph, q, wi_sc]
    rw [q, m0] at k0
    exact k0
  · rw [if_neg q] at mo
    simp (disch := first | assumption | omega) only [cl_5, r_5_0, r_5_1, r_5_4, r_5_5, r_5_6, r_5_7, r_5_8, r_5_9, r_5_12, r_5_14, r_5_15, r_5_16, r_5_19, r_5_21, r_5_22, r_5_25, r_5_26, r_5_27, r_5_30, r_5_31, r_5_34, r_5_36, r_5_37, r_5_38, r_5_39, r_5_40, r_5_44, r_5_45, r_5_48, r_5_49, r_5_50, r_5_53, r_5_54, r_5_57, r_5_58, r_5_59, r_5_60, r_5_62, r_5_63, r_5_64, r_5_67, r_5_69, r_5_72, r_5_74, r_5_75, r_5_78, r_5_79, r_5_81, r_5_82, r_5_84, r_5_85, r_5_87, r_5_89, r_5_90, r_5_91, r_5_94, r_5_97, f_add, f_mul, f_sub, o_bi, o_cgt, o_get, o_go, o_ial, o_ias, o_inc, o_ivs, o_ivv, o_lda, o_ldi, o_ne, o_pi, o_rv, o_sti, acR_nx, acR_re, acR_ca, acR_no, acR_if, Kc_i, Kc_n, a_lg, a_ls, a_kl, a_pk, a_sw, cw_n, cw_i, cw_l, cw_r, List.length_cons, List.length_nil, List.getElem?_cons_succ, List.getElem?_cons_zero, ↓reduceIte, decide_true, decide_false, Bool.false_eq_true, or_true, true_or, or_false, false_or, or_self, and_true, true_and, not_true_eq_false, not_false_eq_true, Nat.reduceEqDiff, Nat.reduceLT, Nat.reduceLeDiff, Nat.reduceAdd, Nat.reduceSub, Nat.reduceMul, Nat.reduceDiv, Nat.reduceMod, Nat.zero_add, Nat.add_zero, n_z, n_1, n_lt, n_in, n_cl, ly_1, ly_3, ly_23, ly_30, hk, e3, c_right aN_1 hk, c_knotHolds aN_1 hk, rt, ph, q, mo, wi_sc]
    exact k0
theorem c_gained {k tw : Nat} (hk : k < 16) (ht : tw < 10) (σ : a_HP) (Q : Option Value → a_HP → Prop) : Cl 6 [.ref 23, .int (nI k), .int (nI tw)] σ Q = Q (some (.int (σ.1 31 (k * 10 + tw)))) σ := by
  have ib : k * 10 + tw < 160 := by omega
  simp (disch := first | assumption | omega) only [cl_6, r_6_0, r_6_1, r_6_4, r_6_5, r_6_7, r_6_8, r_6_9, r_6_10, r_6_11, f_add, f_mul, o_bi, o_get, o_ial, o_lda, o_ldi, o_pi, o_ri, acR_nx, acR_re, acR_ca, acR_no, acR_if, Kc_i, Kc_n, a_lg, a_ls, a_kl, a_pk, a_sw, cw_n, cw_i, cw_l, cw_r, List.length_cons, List.length_nil, List.getElem?_cons_succ, List.getElem?_cons_zero, ↓reduceIte, decide_true, decide_false, Bool.false_eq_true, or_true, true_or, or_false, false_or, or_self, and_true, true_and, not_true_eq_false, not_false_eq_true, Nat.reduceEqDiff, Nat.reduceLT, Nat.reduceLeDiff, Nat.reduceAdd, Nat.reduceSub, Nat.reduceMul, Nat.reduceDiv, Nat.reduceMod, Nat.zero_add, Nat.add_zero, n_z, n_1, n_ltz, n_zlt, n_lt, n_eq, n_cl, n_in, nI_add, pk_mul, n_div, n_sub, nm_mod, ly_23, ly_31, ib]
theorem mx_cl (L : Int32) : (if 0 < L then L else 0) = nI L.toNatClampNeg := by
  by_cases h : L < 0
  · have h2 : ¬ (0 : Int32) < L := fun z => absurd (Int32.lt_iff_toInt_lt.mp z) (by have := Int32.lt_iff_toInt_lt.mp h; omega)
    rw [if_neg h2]
    have : L.toNatClampNeg = 0 := by
      have := Int32.lt_iff_toInt_lt.mp h
      have z : (0 : Int32).toInt = 0 := by decide
      show L.toInt.toNat = 0
      omega
    rw [this]
    exact nI_0.symm
  · obtain ⟨d, hd, rfl⟩ := nI_of h
    rw [n_cl (by omega)]
    by_cases q : 0 < d
    · rw [if_pos (by rw [n_zlt (by omega)]; exact q)]
    · rw [if_neg (by rw [n_zlt (by omega)]; exact q), show d = 0 by omega]
      exact nI_0.symm
theorem c_costOf {s i : Nat} (hs : s ≤ 1) (hi : i ≤ 4) {L : Int32} (hL : L.toNatClampNeg < 31) (σ : a_HP) (Q : Option Value → a_HP → Prop) : Cl 10 [.ref 23, .int (nI s), .int (nI i), .int L] σ Q = Q (some (.int (σ.1 32 ((s * 5 + i) * 31 + L.toNatClampNeg)))) σ := by
  have ib : (s * 5 + i) * 31 + L.toNatClampNeg < 310 := by omega
  have mx : (if nI 0 < L then L else nI 0) = nI L.toNatClampNeg := by rw [← mx_cl L, nI_0]
  simp (disch := first | assumption | omega) only [cl_10, r_10_0, r_10_1, r_10_4, r_10_5, r_10_6, r_10_7, r_10_8, r_10_9, r_10_11, r_10_12, r_10_13, r_10_14, r_10_17, r_10_18, r_10_19, f_add, f_mul, o_bi, o_get, o_ial, o_ivs, o_lda, o_ldi, o_pi, o_ri, acR_nx, acR_re, acR_ca, acR_no, acR_if, Kc_i, Kc_n, a_lg, a_ls, a_kl, a_pk, a_sw, cw_n, cw_i, cw_l, cw_r, List.length_cons, List.length_nil, List.getElem?_cons_succ, List.getElem?_cons_zero, ↓reduceIte, decide_true, decide_false, Bool.false_eq_true, or_true, true_or, or_false, false_or, or_self, and_true, true_and, not_true_eq_false, not_false_eq_true, Nat.reduceEqDiff, Nat.reduceLT, Nat.reduceLeDiff, Nat.reduceAdd, Nat.reduceSub, Nat.reduceMul, Nat.reduceDiv, Nat.reduceMod, Nat.zero_add, Nat.add_zero, n_z, n_1, n_ltz, n_zlt, n_lt, n_eq, n_cl, n_in, nI_add, pk_mul, n_div, n_sub, nm_mod, ly_23, ly_32, c_max, mx, ib]
