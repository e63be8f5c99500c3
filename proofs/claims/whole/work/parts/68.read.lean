/-! read: the reference -/
def kI (z : Nat) (t : Nat → Nat) (i : Nat) : Nat := tKd z t (Pz z t i)
def vI (z : Nat) (t : Nat → Nat) (i x : Nat) : Nat := vl z t (tE z t (Pz z t i)) x
def ftI (z : Nat) (t : Nat → Nat) (i : Nat) : Bool := fitK (kI z t i) (vI z t i 0) (vI z t i 1) (vI z t i 2) (vI z t i 3)
def UU (z : Nat) (t : Nat → Nat) (U : Nat → Int32) : Nat → Nat → Int32
  | 0 => U
  | i + 1 => telU (kI z t i) (vI z t i 0) (vI z t i 1) (vI z t i 2) (vI z t i 3) (UU z t U i)
def FF (z : Nat) (t : Nat → Nat) : Nat → Int32
  | 0 => -1
  | i + 1 => fsF (ftI z t i) (FF z t i) i
theorem MS_id (σ : a_HP) : MS σ (σ.1 61) (σ.2 61 13) (σ.1 69) (σ.1 63) = σ := by
  obtain ⟨s1, s2⟩ := σ
  unfold MS
  refine Prod.ext (funext fun b => ?_) (funext fun b => funext fun j => ?_)
  · dsimp only
    by_cases h1 : b = 61
    · rw [if_pos h1, h1]
    · by_cases h2 : b = 69
      · rw [if_neg h1, if_pos h2, h2]
      · by_cases h3 : b = 63
        · rw [if_neg h1, if_neg h2, if_pos h3, h3]
        · rw [if_neg h1, if_neg h2, if_neg h3]
  · dsimp only
    by_cases h : b = 61 ∧ j = 13
    · rw [if_pos h, h.1, h.2]
    · rw [if_neg h]
theorem m_read {z : Nat} {t : Nat → Nat} {σ : a_HP} (ht : tx z t (σ.1 67)) (hz6 : σ.1 61 6 = nI z) {n : Nat} (hn : n ≤ 21) (hst : stq z t n = true) (hok : ∀ j, j < n → okI z t j = true) (Q : Option Value → a_HP → Prop)
    (hQf : ¬ (kI z t n = 5 ∧ 0 < n) → ∀ (o' D' U' : Nat → Int32) (w' : Int64), o' 6 = nI z → Q (some (.int (-10 - nI (flI z t n)))) (MS σ o' w' D' U'))
    (hQr : kI z t n = 5 → 0 < n → ¬ FF z t n = -1 → ∀ (o' D' U' : Nat → Int32) (w' : Int64), o' 6 = nI z → Q (some (.int (-1000 - FF z t n))) (MS σ o' w' D' U'))
    (hQo : kI z t n = 5 → 0 < n → FF z t n = -1 → ∀ (o' D' : Nat → Int32) (w' : Int64), o' 6 = nI z → Q (some (.int (nI n))) (a_sc (MS σ o' w' D' (UU z t (fun j => if j < 481 then pBg (nI 0) (nI 0) j else σ.1 63 j) n)) 62 (va_cpy (UU z t (fun j => if j < 481 then pBg (nI 0) (nI 0) j else σ.1 63 j) n) (σ.1 62) 0 0 481))) : Cl 166 [.ref 61] σ Q := by
  have hz := ht.1
  generalize hU0 : (fun j => if j < 481 then pBg (nI 0) (nI 0) j else σ.1 63 j) = U0 at *
  have key := lp_dn (C := fun i => ∀ (o D : Nat → Int32) (w : Int64), o 6 = nI z → o 16 = FF z t i → o 10 = nI (tE z t (Pz z t i)) → o 11 = nI (tS z t (Pz z t i)) → o 12 = nI (mKs z t (tS z t (Pz z t i))) → (mKs z t (tS z t (Pz z t i)) = 1 → w = wdF t (tS z t (Pz z t i)) (lN 0) (tS z t (Pz z t i)) (sE isL z t (tS z t (Pz z t i)) - tS z t (Pz z t i))) → Rn 166 25 [some (.ref 61), some (.int (nI i))] [] (MS σ o w D (UU z t U0 i)) Q) n (fun o D w h6 h16 h10 h11 h12 hw => by
    obtain ⟨p1, p2⟩ := Pz_7 n hok
    obtain ⟨-, -, r0, -, -, r4⟩ := mk_rel z t (tS z t (Pz z t n))
    rw [r_166_25]
    have hk5 : (kI z t n = 5) = (mKs z t (tS z t (Pz z t n)) = 0) := propext r0.symm
    by_cases q5 : mKs z t (tS z t (Pz z t n)) = 0
    · have q5' : kI z t n = 5 := by rw [hk5]; exact q5
      rw [q5] at h12
      by_cases n0 : n = 0
      · have fl : flI z t n = tS z t (Pz z t n) := by
          unfold flI
          have : tKd z t (Pz z t n) = 5 := q5'
          rw [this, n0]
          rfl
        have := hQf (fun h => by omega) o D (UU z t U0 n) w h6
        rw [fl, ← h11] at this
        simp (disch := first | assumption | omega) only [r_166_0, r_166_1, r_166_4, r_166_5, r_166_6, r_166_9, r_166_10, r_166_11, r_166_14, r_166_15, r_166_16, r_166_19, r_166_20, r_166_21, r_166_22, r_166_26, r_166_29, r_166_32, r_166_33, r_166_34, r_166_37, r_166_40, r_166_42, r_166_43, r_166_46, r_166_47, r_166_48, r_166_51, r_166_52, r_166_55, r_166_58, r_166_59, r_166_62, r_166_64, r_166_65, r_166_68, r_166_69, r_166_70, r_166_71, r_166_74, r_166_75, r_166_78, r_166_81, r_166_82, r_166_85, r_166_86, r_166_87, r_166_88, r_166_91, r_166_92, r_166_93, r_166_96, r_166_97, r_166_100, r_166_103, r_166_104, f_sub, o_bi, o_ceq, o_eq, o_get, o_go, o_inc, o_ivs, o_ivv, o_lda, o_ldi, o_ne, o_pi, o_put, o_ri, o_sti, o_lda, acR_nx, acR_re, acR_ca, acR_no, acR_if, Kc_i, Kc_n, a_lg, a_ls, a_kl, a_pk, a_sw, cw_n, cw_i, cw_l, cw_r, List.length_cons, List.length_nil, List.getElem?_cons_succ, List.getElem?_cons_zero, ↓reduceIte, decide_true, decide_false, Bool.false_eq_true, or_true, true_or, or_false, false_or, or_self, and_true, true_and, not_true_eq_false, not_false_eq_true, Nat.reduceEqDiff, Nat.reduceLT, Nat.reduceLeDiff, Nat.reduceAdd, Nat.reduceSub, Nat.reduceMul, Nat.reduceDiv, Nat.reduceMod, Nat.zero_add, Nat.add_zero, n_z, n_1, n_ltz, n_zlt, n_lt, n_eq, n_cl, n_in, nI_add, pk_mul, n_div, n_sub, nm_mod, ly_61, MS_61, h12, n0]
        rw [n0] at this
        exact this
      · have n0' : 0 < n := by omega
        by_cases f1 : FF z t n = -1
        · have := hQo q5' n0' f1 o D w h6
          rw [f1] at h16
          simp (disch := first | assumption | omega | decide) only [r_166_0, r_166_1, r_166_4, r_166_5, r_166_6, r_166_9, r_166_10, r_166_11, r_166_14, r_166_15, r_166_16, r_166_19, r_166_20, r_166_21, r_166_22, r_166_26, r_166_29, r_166_32, r_166_33, r_166_34, r_166_37, r_166_40, r_166_42, r_166_43, r_166_46, r_166_47, r_166_48, r_166_51, r_166_52, r_166_55, r_166_58, r_166_59, r_166_62, r_166_64, r_166_65, r_166_68, r_166_69, r_166_70, r_166_71, r_166_74, r_166_75, r_166_78, r_166_81, r_166_82, r_166_85, r_166_86, r_166_87, r_166_88, r_166_91, r_166_92, r_166_93, r_166_96, r_166_97, r_166_100, r_166_103, r_166_104, f_sub, o_bi, o_ceq, o_eq, o_get, o_go, o_inc, o_ivs, o_ivv, o_lda, o_ldi, o_ne, o_pi, o_put, o_ri, o_sti, o_lda, acR_nx, acR_re, acR_ca, acR_no, acR_if, Kc_i, Kc_n, a_lg, a_ls, a_kl, a_pk, a_sw, cw_n, cw_i, cw_l, cw_r, List.length_cons, List.length_nil, List.getElem?_cons_succ, List.getElem?_cons_zero, ↓reduceIte, decide_true, decide_false, Bool.false_eq_true, or_true, true_or, or_false, false_or, or_self, and_true, true_and, not_true_eq_false, not_false_eq_true, Nat.reduceEqDiff, Nat.reduceLT, Nat.reduceLeDiff, Nat.reduceAdd, Nat.reduceSub, Nat.reduceMul, Nat.reduceDiv, Nat.reduceMod, Nat.zero_add, Nat.add_zero, n_z, n_1, n_ltz, n_zlt, n_lt, n_eq, n_cl, n_in, nI_add, pk_mul, n_div, n_sub, nm_mod, ly_61, MS_61, MS_62, MS_63, h12, n0, h16, m_copies ly_63 ly_62]
          exact this
        · have := hQr q5' n0' f1 o D (UU z t U0 n) w h6
          simp (disch := first | assumption | omega) only [r_166_0, r_166_1, r_166_4, r_166_5, r_166_6, r_166_9, r_166_10, r_166_11, r_166_14, r_166_15, r_166_16, r_166_19, r_166_20, r_166_21, r_166_22, r_166_26, r_166_29, r_166_32, r_166_33, r_166_34, r_166_37, r_166_40, r_166_42, r_166_43, r_166_46, r_166_47, r_166_48, r_166_51, r_166_52, r_166_55, r_166_58, r_166_59, r_166_62, r_166_64, r_166_65, r_166_68, r_166_69, r_166_70, r_166_71, r_166_74, r_166_75, r_166_78, r_166_81, r_166_82, r_166_85, r_166_86, r_166_87, r_166_88, r_166_91, r_166_92, r_166_93, r_166_96, r_166_97, r_166_100, r_166_103, r_166_104, f_sub, o_bi, o_ceq, o_eq, o_get, o_go, o_inc, o_ivs, o_ivv, o_lda, o_ldi, o_ne, o_pi, o_put, o_ri, o_sti, o_lda, acR_nx, acR_re, acR_ca, acR_no, acR_if, Kc_i, Kc_n, a_lg, a_ls, a_kl, a_pk, a_sw, cw_n, cw_i, cw_l, cw_r, List.length_cons, List.length_nil, List.getElem?_cons_succ, List.getElem?_cons_zero, ↓reduceIte, decide_true, decide_false, Bool.false_eq_true, or_true, true_or, or_false, false_or, or_self, and_true, true_and, not_true_eq_false, not_false_eq_true, Nat.reduceEqDiff, Nat.reduceLT, Nat.reduceLeDiff, Nat.reduceAdd, Nat.reduceSub, Nat.reduceMul, Nat.reduceDiv, Nat.reduceMod, Nat.zero_add, Nat.add_zero, n_z, n_1, n_ltz, n_zlt, n_lt, n_eq, n_cl, n_in, nI_add, pk_mul, n_div, n_sub, nm_mod, ly_61, MS_61, h12, n0, h16, f1]
          exact this
    · have hne : ¬ (kI z t n = 5 ∧ 0 < n) := fun h => q5 (by rw [← hk5]; exact h.1)
      have hf : okI z t n = false := by
        unfold stq at hst
        rw [Bool.or_eq_true] at hst
        rcases hst with h | h
        · simp only [Bool.and_eq_true, decide_eq_true_eq] at h; exact absurd h hne
        · simpa using h
      have mb : mKs z t (tS z t (Pz z t n)) < 2147483648 := by omega
      simp (disch := first | assumption | omega) only [r_166_0, r_166_1, r_166_4, r_166_5, r_166_6, r_166_9, r_166_10, r_166_11, r_166_14, r_166_15, r_166_16, r_166_19, r_166_20, r_166_21, r_166_22, r_166_26, r_166_29, r_166_32, r_166_33, r_166_34, r_166_37, r_166_40, r_166_42, r_166_43, r_166_46, r_166_47, r_166_48, r_166_51, r_166_52, r_166_55, r_166_58, r_166_59, r_166_62, r_166_64, r_166_65, r_166_68, r_166_69, r_166_70, r_166_71, r_166_74, r_166_75, r_166_78, r_166_81, r_166_82, r_166_85, r_166_86, r_166_87, r_166_88, r_166_91, r_166_92, r_166_93, r_166_96, r_166_97, r_166_100, r_166_103, r_166_104, f_sub, o_bi, o_ceq, o_eq, o_get, o_go, o_inc, o_ivs, o_ivv, o_lda, o_ldi, o_ne, o_pi, o_put, o_ri, o_sti, o_lda, acR_nx, acR_re, acR_ca, acR_no, acR_if, Kc_i, Kc_n, a_lg, a_ls, a_kl, a_pk, a_sw, cw_n, cw_i, cw_l, cw_r, List.length_cons, List.length_nil, List.getElem?_cons_succ, List.getElem?_cons_zero, ↓reduceIte, decide_true, decide_false, Bool.false_eq_true, or_true, true_or, or_false, false_or, or_self, and_true, true_and, not_true_eq_false, not_false_eq_true, Nat.reduceEqDiff, Nat.reduceLT, Nat.reduceLeDiff, Nat.reduceAdd, Nat.reduceSub, Nat.reduceMul, Nat.reduceDiv, Nat.reduceMod, Nat.zero_add, Nat.add_zero, n_z, n_1, n_ltz, n_zlt, n_lt, n_eq, n_cl, n_in, nI_add, pk_mul, n_div, n_sub, nm_mod, ly_61, MS_61, h12, q5]
      refine m_readsItem ht hn p2 h6 h16 h10 h11 h12 hw _ (fun b1 b2 => ?_) (fun _ o2 D2 w2 a6 a11 => ?_)
      · unfold okI at hf
        rw [b1, b2] at hf
        cases hf
      · have a11' : o2 11 = nI (flI z t n) := a11
        simp (disch := first | assumption | omega) only [r_166_0, r_166_1, r_166_4, r_166_5, r_166_6, r_166_9, r_166_10, r_166_11, r_166_14, r_166_15, r_166_16, r_166_19, r_166_20, r_166_21, r_166_22, r_166_26, r_166_29, r_166_32, r_166_33, r_166_34, r_166_37, r_166_40, r_166_42, r_166_43, r_166_46, r_166_47, r_166_48, r_166_51, r_166_52, r_166_55, r_166_58, r_166_59, r_166_62, r_166_64, r_166_65, r_166_68, r_166_69, r_166_70, r_166_71, r_166_74, r_166_75, r_166_78, r_166_81, r_166_82, r_166_85, r_166_86, r_166_87, r_166_88, r_166_91, r_166_92, r_166_93, r_166_96, r_166_97, r_166_100, r_166_103, r_166_104, f_sub, o_bi, o_ceq, o_eq, o_get, o_go, o_inc, o_ivs, o_ivv, o_lda, o_ldi, o_ne, o_pi, o_put, o_ri, o_sti, o_lda, acR_nx, acR_re, acR_ca, acR_no, acR_if, Kc_i, Kc_n, a_lg, a_ls, a_kl, a_pk, a_sw, cw_n, cw_i, cw_l, cw_r, List.length_cons, List.length_nil, List.getElem?_cons_succ, List.getElem?_cons_zero, ↓reduceIte, decide_true, decide_false, Bool.false_eq_true, or_true, true_or, or_false, false_or, or_self, and_true, true_and, not_true_eq_false, not_false_eq_true, Nat.reduceEqDiff, Nat.reduceLT, Nat.reduceLeDiff, Nat.reduceAdd, Nat.reduceSub, Nat.reduceMul, Nat.reduceDiv, Nat.reduceMod, Nat.zero_add, Nat.add_zero, n_z, n_1, ly_61, MS_61, a11']
        exact hQf hne o2 D2 _ w2 a6) (fun i hi ih o D w h6 h16 h10 h11 h12 hw => by
    obtain ⟨p1, p2⟩ := Pz_7 i (fun j hj => hok j (by omega))
    have oki := hok i hi
    obtain ⟨-, -, r0, -, -, r4⟩ := mk_rel z t (tS z t (Pz z t i))
    have q5 : ¬ mKs z t (tS z t (Pz z t i)) = 0 := fun h => okI_k oki (r0.mp h)
    have mb : mKs z t (tS z t (Pz z t i)) < 2147483648 := by omega
    rw [r_166_25]
    simp (disch := first | assumption | omega) only [r_166_0, r_166_1, r_166_4, r_166_5, r_166_6, r_166_9, r_166_10, r_166_11, r_166_14, r_166_15, r_166_16, r_166_19, r_166_20, r_166_21, r_166_22, r_166_26, r_166_29, r_166_32, r_166_33, r_166_34, r_166_37, r_166_40, r_166_42, r_166_43, r_166_46, r_166_47, r_166_48, r_166_51, r_166_52, r_166_55, r_166_58, r_166_59, r_166_62, r_166_64, r_166_65, r_166_68, r_166_69, r_166_70, r_166_71, r_166_74, r_166_75, r_166_78, r_166_81, r_166_82, r_166_85, r_166_86, r_166_87, r_166_88, r_166_91, r_166_92, r_166_93, r_166_96, r_166_97, r_166_100, r_166_103, r_166_104, f_sub, o_bi, o_ceq, o_eq, o_get, o_go, o_inc, o_ivs, o_ivv, o_lda, o_ldi, o_ne, o_pi, o_put, o_ri, o_sti, o_lda, acR_nx, acR_re, acR_ca, acR_no, acR_if, Kc_i, Kc_n, a_lg, a_ls, a_kl, a_pk, a_sw, cw_n, cw_i, cw_l, cw_r, List.length_cons, List.length_nil, List.getElem?_cons_succ, List.getElem?_cons_zero, ↓reduceIte, decide_true, decide_false, Bool.false_eq_true, or_true, true_or, or_false, false_or, or_self, and_true, true_and, not_true_eq_false, not_false_eq_true, Nat.reduceEqDiff, Nat.reduceLT, Nat.reduceLeDiff, Nat.reduceAdd, Nat.reduceSub, Nat.reduceMul, Nat.reduceDiv, Nat.reduceMod, Nat.zero_add, Nat.add_zero, n_z, n_1, n_ltz, n_zlt, n_lt, n_eq, n_cl, n_in, nI_add, pk_mul, n_div, n_sub, nm_mod, ly_61, MS_61, h12, q5]
    refine m_readsItem ht (by omega) p2 h6 h16 h10 h11 h12 hw _ (fun b1 b2 o2 D2 w2 a6 a10 a16 => ?_) (fun hb => ?_)
    · simp (disch := first | assumption | omega) only [r_166_0, r_166_1, r_166_4, r_166_5, r_166_6, r_166_9, r_166_10, r_166_11, r_166_14, r_166_15, r_166_16, r_166_19, r_166_20, r_166_21, r_166_22, r_166_26, r_166_29, r_166_32, r_166_33, r_166_34, r_166_37, r_166_40, r_166_42, r_166_43, r_166_46, r_166_47, r_166_48, r_166_51, r_166_52, r_166_55, r_166_58, r_166_59, r_166_62, r_166_64, r_166_65, r_166_68, r_166_69, r_166_70, r_166_71, r_166_74, r_166_75, r_166_78, r_166_81, r_166_82, r_166_85, r_166_86, r_166_87, r_166_88, r_166_91, r_166_92, r_166_93, r_166_96, r_166_97, r_166_100, r_166_103, r_166_104, f_sub, o_bi, o_ceq, o_eq, o_get, o_go, o_inc, o_ivs, o_ivv, o_lda, o_ldi, o_ne, o_pi, o_put, o_ri, o_sti, o_lda, acR_nx, acR_re, acR_ca, acR_no, acR_if, Kc_i, Kc_n, a_lg, a_ls, a_kl, a_pk, a_sw, cw_n, cw_i, cw_l, cw_r, List.length_cons, List.length_nil, List.getElem?_cons_succ, List.getElem?_cons_zero, ↓reduceIte, decide_true, decide_false, Bool.false_eq_true, or_true, true_or, or_false, false_or, or_self, and_true, true_and, not_true_eq_false, not_false_eq_true, Nat.reduceEqDiff, Nat.reduceLT, Nat.reduceLeDiff, Nat.reduceAdd, Nat.reduceSub, Nat.reduceMul, Nat.reduceDiv, Nat.reduceMod, Nat.zero_add, Nat.add_zero, n_z, n_1, n_ltz, n_zlt, n_lt, n_eq, n_cl, n_in, nI_add, pk_mul, n_div, n_sub, nm_mod, ly_61]
      have p3 := (Pz_7 (i + 1) (fun j hj => hok j (by omega))).2
      refine m_step ht a6 (p := Pz z t (i + 1)) a10 p3 _ (fun o3 w3 hk => ?_)
      obtain ⟨k6, k16, k10, k11, k12, kw, kv⟩ := hk
      simp (disch := first | assumption | omega) only [r_166_0, r_166_1, r_166_4, r_166_5, r_166_6, r_166_9, r_166_10, r_166_11, r_166_14, r_166_15, r_166_16, r_166_19, r_166_20, r_166_21, r_166_22, r_166_26, r_166_29, r_166_32, r_166_33, r_166_34, r_166_37, r_166_40, r_166_42, r_166_43, r_166_46, r_166_47, r_166_48, r_166_51, r_166_52, r_166_55, r_166_58, r_166_59, r_166_62, r_166_64, r_166_65, r_166_68, r_166_69, r_166_70, r_166_71, r_166_74, r_166_75, r_166_78, r_166_81, r_166_82, r_166_85, r_166_86, r_166_87, r_166_88, r_166_91, r_166_92, r_166_93, r_166_96, r_166_97, r_166_100, r_166_103, r_166_104, f_sub, o_bi, o_ceq, o_eq, o_get, o_go, o_inc, o_ivs, o_ivv, o_lda, o_ldi, o_ne, o_pi, o_put, o_ri, o_sti, acR_nx, acR_re, acR_ca, acR_no, acR_if, Kc_i, Kc_n, a_lg, a_ls, a_kl, a_pk, a_sw, cw_n, cw_i, cw_l, cw_r, List.length_cons, List.length_nil, List.getElem?_cons_succ, List.getElem?_cons_zero, ↓reduceIte, decide_true, decide_false, Bool.false_eq_true, or_true, true_or, or_false, false_or, or_self, and_true, true_and, not_true_eq_false, not_false_eq_true, Nat.reduceEqDiff, Nat.reduceLT, Nat.reduceLeDiff, Nat.reduceAdd, Nat.reduceSub, Nat.reduceMul, Nat.reduceDiv, Nat.reduceMod, Nat.zero_add, Nat.add_zero, n_z, n_1, n_ltz, n_zlt, n_lt, n_eq, n_cl, n_in, nI_add, pk_mul, n_div, n_sub, nm_mod]
      exact ih o3 D2 w3 (k6.trans a6) (k16.trans a16) k10 k11 k12 kw
    · unfold okI at oki
      rw [hb] at oki
      cases oki)
  have mid := MS_id σ
  have h63 : (MS σ (σ.1 61) (σ.2 61 13) (σ.1 69) (σ.1 63)).1 63 = σ.1 63 := rfl
  rw [← mid]
  simp (disch := first | assumption | omega) only [cl_166, r_166_0, r_166_1, r_166_4, r_166_5, r_166_6, r_166_9, r_166_10, r_166_11, r_166_14, r_166_15, r_166_16, r_166_19, r_166_20, r_166_21, r_166_22, r_166_26, r_166_29, r_166_32, r_166_33, r_166_34, r_166_37, r_166_40, r_166_42, r_166_43, r_166_46, r_166_47, r_166_48, r_166_51, r_166_52, r_166_55, r_166_58, r_166_59, r_166_62, r_166_64, r_166_65, r_166_68, r_166_69, r_166_70, r_166_71, r_166_74, r_166_75, r_166_78, r_166_81, r_166_82, r_166_85, r_166_86, r_166_87, r_166_88, r_166_91, r_166_92, r_166_93, r_166_96, r_166_97, r_166_100, r_166_103, r_166_104, f_sub, o_bi, o_ceq, o_eq, o_get, o_go, o_inc, o_ivs, o_ivv, o_lda, o_ldi, o_ne, o_pi, o_put, o_ri, o_sti, o_lda, acR_nx, acR_re, acR_ca, acR_no, acR_if, Kc_i, Kc_n, a_lg, a_ls, a_kl, a_pk, a_sw, cw_n, cw_i, cw_l, cw_r, List.length_cons, List.length_nil, List.getElem?_cons_succ, List.getElem?_cons_zero, ↓reduceIte, decide_true, decide_false, Bool.false_eq_true, or_true, true_or, or_false, false_or, or_self, and_true, true_and, not_true_eq_false, not_false_eq_true, Nat.reduceEqDiff, Nat.reduceLT, Nat.reduceLeDiff, Nat.reduceAdd, Nat.reduceSub, Nat.reduceMul, Nat.reduceDiv, Nat.reduceMod, Nat.zero_add, Nat.add_zero, n_z, n_1, n_ltz, n_zlt, n_lt, n_eq, n_cl, n_in, nI_add, pk_mul, n_div, n_sub, nm_mod, ly_61, m_begins aT_63, MS_63, MS_s63, MS_w61]
  rw [hU0]
  have z6 : upd (upd (σ.1 61) 10 (nI 0)) 16 (-1) 6 = nI z := hz6
  refine m_step ht z6 (p := 0) rfl (by omega) _ (fun o3 w3 hk => ?_)
  obtain ⟨k6, k16, k10, k11, k12, kw, kv⟩ := hk
  simp (disch := first | assumption | omega) only [r_166_0, r_166_1, r_166_4, r_166_5, r_166_6, r_166_9, r_166_10, r_166_11, r_166_14, r_166_15, r_166_16, r_166_19, r_166_20, r_166_21, r_166_22, r_166_26, r_166_29, r_166_32, r_166_33, r_166_34, r_166_37, r_166_40, r_166_42, r_166_43, r_166_46, r_166_47, r_166_48, r_166_51, r_166_52, r_166_55, r_166_58, r_166_59, r_166_62, r_166_64, r_166_65, r_166_68, r_166_69, r_166_70, r_166_71, r_166_74, r_166_75, r_166_78, r_166_81, r_166_82, r_166_85, r_166_86, r_166_87, r_166_88, r_166_91, r_166_92, r_166_93, r_166_96, r_166_97, r_166_100, r_166_103, r_166_104, f_sub, o_bi, o_ceq, o_eq, o_get, o_go, o_inc, o_ivs, o_ivv, o_lda, o_ldi, o_ne, o_pi, o_put, o_ri, o_sti, acR_nx, acR_re, acR_ca, acR_no, acR_if, Kc_i, Kc_n, a_lg, a_ls, a_kl, a_pk, a_sw, cw_n, cw_i, cw_l, cw_r, List.length_cons, List.length_nil, List.getElem?_cons_succ, List.getElem?_cons_zero, ↓reduceIte, decide_true, decide_false, Bool.false_eq_true, or_true, true_or, or_false, false_or, or_self, and_true, true_and, not_true_eq_false, not_false_eq_true, Nat.reduceEqDiff, Nat.reduceLT, Nat.reduceLeDiff, Nat.reduceAdd, Nat.reduceSub, Nat.reduceMul, Nat.reduceDiv, Nat.reduceMod, Nat.zero_add, Nat.add_zero, n_z, n_1, n_ltz, n_zlt, n_lt, n_eq, n_cl, n_in, nI_add, pk_mul, n_div, n_sub, nm_mod]
  exact key o3 _ w3 (k6.trans z6) k16 k10 k11 k12 kw
/-! read: the class -/
theorem FF_ok (z : Nat) (t : Nat → Nat) : ∀ n, (∀ j, j < n → ftI z t j = true) → FF z t n = -1
  | 0, _ => rfl
  | n + 1, h => by
    simp only [FF]
    rw [FF_ok z t n (fun j hj => h j (by omega)), h n (by omega)]
    rfl
theorem FF_at (z : Nat) (t : Nat → Nat) {i : Nat} (hi : i < 2147483648) (hb : ftI z t i = false) (hg : ∀ j, j < i → ftI z t j = true) : ∀ n, i < n → FF z t n = nI i
  | 0, h => by omega
  | n + 1, h => by
    simp only [FF]
    by_cases e : n = i
    · rw [e, FF_ok z t i hg, hb]
      rfl
    · rw [FF_at z t hi hb hg n (by omega)]
      unfold fsF
      rw [if_neg]
      rintro ⟨-, h2⟩
      rw [n_nm1 hi] at h2
      exact h2
theorem c_itemWord {i : Nat} (hi : i ≤ 20) {σ : a_HP} {R : Nat → Int32} (hR : σ.1 15 = R) (Q : Option Value → a_HP → Prop) : Cl 41 [.ref 13, .int (nI i)] σ Q = Q (some (.int (R (i * 5)))) σ := by
  have b : i * 5 < 110 := by omega
  simp (disch := first | assumption | omega) only [cl_41, r_41_0, r_41_1, r_41_4, r_41_5, r_41_6, r_41_7, r_41_8, f_mul, o_bi, o_get, o_ial, o_lda, o_ldi, o_pi, o_ri, acR_nx, acR_re, acR_ca, acR_no, acR_if, Kc_i, Kc_n, a_lg, a_ls, a_kl, a_pk, a_sw, cw_n, cw_i, cw_l, cw_r, List.length_cons, List.length_nil, List.getElem?_cons_succ, List.getElem?_cons_zero, ↓reduceIte, decide_true, decide_false, Bool.false_eq_true, or_true, true_or, or_false, false_or, or_self, and_true, true_and, not_true_eq_false, not_false_eq_true, Nat.reduceEqDiff, Nat.reduceLT, Nat.reduceLeDiff, Nat.reduceAdd, Nat.reduceSub, Nat.reduceMul, Nat.reduceDiv, Nat.reduceMod, Nat.zero_add, Nat.add_zero, n_z, n_1, n_ltz, n_zlt, n_lt, n_eq, n_cl, n_in, nI_add, pk_mul, n_div, n_sub, nm_mod, ly_13, ly_15, hR, b]
theorem c_itemNumber {i x : Nat} (hi : i ≤ 20) (hx : x ≤ 3) {σ : a_HP} {R : Nat → Int32} (hR : σ.1 15 = R) (Q : Option Value → a_HP → Prop) : Cl 42 [.ref 13, .int (nI i), .int (nI x)] σ Q = Q (some (.int (R (i * 5 + 1 + x)))) σ := by
  have b : i * 5 + 1 + x < 110 := by omega
  simp (disch := first | assumption | omega) only [cl_42, r_42_0, r_42_1, r_42_4, r_42_5, r_42_6, r_42_7, r_42_8, r_42_9, r_42_10, r_42_11, r_42_12, f_add, f_mul, o_bi, o_get, o_ial, o_lda, o_ldi, o_pi, o_ri, acR_nx, acR_re, acR_ca, acR_no, acR_if, Kc_i, Kc_n, a_lg, a_ls, a_kl, a_pk, a_sw, cw_n, cw_i, cw_l, cw_r, List.length_cons, List.length_nil, List.getElem?_cons_succ, List.getElem?_cons_zero, ↓reduceIte, decide_true, decide_false, Bool.false_eq_true, or_true, true_or, or_false, false_or, or_self, and_true, true_and, not_true_eq_false, not_false_eq_true, Nat.reduceEqDiff, Nat.reduceLT, Nat.reduceLeDiff, Nat.reduceAdd, Nat.reduceSub, Nat.reduceMul, Nat.reduceDiv, Nat.reduceMod, Nat.zero_add, Nat.add_zero, n_z, n_1, n_ltz, n_zlt, n_lt, n_eq, n_cl, n_in, nI_add, pk_mul, n_div, n_sub, nm_mod, ly_13, ly_15, hR, b]
/-- what an item's row says, its numbers small -/
def iOK (z : Nat) (t : Nat → Nat) (i : Nat) (R : Nat → Int32) : Prop := kI z t i < 3 ∧ R (i * 5) = nI (kI z t i) ∧ (∀ x, x < nn (kI z t i) → R (i * 5 + 1 + x) = nI (vI z t i x) ∧ vI z t i x ≤ 99)
theorem c_itemFits {z : Nat} {t : Nat → Nat} {i : Nat} (hi : i ≤ 20) {σ : a_HP} {R : Nat → Int32} (hR : σ.1 15 = R) (h : iOK z t i R) (Q : Option Value → a_HP → Prop) : Cl 101 [.ref 0, .int (nI i)] σ Q = if ftI z t i = true then Q (some (.int (nI 1))) σ else Q (some (.int (nI 0))) σ := by
  obtain ⟨h3, h0, hv⟩ := h
  have cw := c_itemWord hi hR
  have n0 := c_itemNumber hi (x := 0) (by omega) hR
  have n1 := c_itemNumber hi (x := 1) (by omega) hR
  have n2 := c_itemNumber hi (x := 2) (by omega) hR
  have n3 := c_itemNumber hi (x := 3) (by omega) hR
  rw [h0] at cw
  unfold ftI
  have x0 := hv 0 (by unfold nn; split <;> omega)
  have x1 := hv 1 (by unfold nn; split <;> omega)
  rw [x0.1] at n0
  rw [x1.1] at n1
  have y0 := x0.2
  have y1 := x1.2
  generalize vI z t i 0 = v0 at *
  generalize vI z t i 1 = v1 at *
  by_cases k0 : kI z t i = 0
  · rw [k0] at cw ⊢
    unfold fitK
    rw [if_pos rfl]
    by_cases vv : v0 ≤ 1
    · have g : ¬ ((v0 < 0 ∨ 1 < v0) ∨ (v1 < 0 ∨ 99 < v1)) := by omega
      simp (disch := first | assumption | omega) only [cl_101, r_101_0, r_101_1, r_101_4, r_101_5, r_101_8, r_101_36, r_101_37, r_101_40, r_101_41, r_101_42, r_101_45, r_101_46, r_101_49, r_101_50, r_101_51, r_101_54, r_101_57, r_101_58, r_101_59, r_101_62, r_101_63, r_101_64, r_101_67, r_101_68, r_101_71, r_101_72, r_101_73, r_101_76, r_101_77, r_101_80, r_101_81, r_101_82, r_101_85, r_101_86, r_101_89, r_101_90, r_101_91, r_101_94, r_101_97, r_101_98, r_101_99, r_101_102, r_101_103, r_101_104, r_101_107, r_101_108, r_101_111, r_101_112, r_101_113, r_101_116, r_101_119, o_get, o_ivs, o_ivv, o_lda, o_ldi, o_pi, o_rz, o_sw, acR_nx, acR_re, acR_ca, acR_no, acR_if, Kc_i, Kc_n, a_lg, a_ls, a_kl, a_pk, a_sw, cw_n, cw_i, cw_l, cw_r, List.length_cons, List.length_nil, List.getElem?_cons_succ, List.getElem?_cons_zero, ↓reduceIte, decide_true, decide_false, Bool.false_eq_true, or_true, true_or, or_false, false_or, or_self, and_true, true_and, not_true_eq_false, not_false_eq_true, Nat.reduceEqDiff, Nat.reduceLT, Nat.reduceLeDiff, Nat.reduceAdd, Nat.reduceSub, Nat.reduceMul, Nat.reduceDiv, Nat.reduceMod, Nat.zero_add, Nat.add_zero, n_z, n_1, n_ltz, n_zlt, n_lt, n_eq, n_cl, n_in, nI_add, pk_mul, n_div, n_sub, nm_mod, ly_0, ly_13, cw, n0, n1, c_netFits, g, vv]
    · have g : (v0 < 0 ∨ 1 < v0) ∨ (v1 < 0 ∨ 99 < v1) := by omega
      simp (disch := first | assumption | omega) only [cl_101, r_101_0, r_101_1, r_101_4, r_101_5, r_101_8, r_101_36, r_101_37, r_101_40, r_101_41, r_101_42, r_101_45, r_101_46, r_101_49, r_101_50, r_101_51, r_101_54, r_101_57, r_101_58, r_101_59, r_101_62, r_101_63, r_101_64, r_101_67, r_101_68, r_101_71, r_101_72, r_101_73, r_101_76, r_101_77, r_101_80, r_101_81, r_101_82, r_101_85, r_101_86, r_101_89, r_101_90, r_101_91, r_101_94, r_101_97, r_101_98, r_101_99, r_101_102, r_101_103, r_101_104, r_101_107, r_101_108, r_101_111, r_101_112, r_101_113, r_101_116, r_101_119, o_get, o_ivs, o_ivv, o_lda, o_ldi, o_pi, o_rz, o_sw, acR_nx, acR_re, acR_ca, acR_no, acR_if, Kc_i, Kc_n, a_lg, a_ls, a_kl, a_pk, a_sw, cw_n, cw_i, cw_l, cw_r, List.length_cons, List.length_nil, List.getElem?_cons_succ, List.getElem?_cons_zero, ↓reduceIte, decide_true, decide_false, Bool.false_eq_true, or_true, true_or, or_false, false_or, or_self, and_true, true_and, not_true_eq_false, not_false_eq_true, Nat.reduceEqDiff, Nat.reduceLT, Nat.reduceLeDiff, Nat.reduceAdd, Nat.reduceSub, Nat.reduceMul, Nat.reduceDiv, Nat.reduceMod, Nat.zero_add, Nat.add_zero, n_z, n_1, n_ltz, n_zlt, n_lt, n_eq, n_cl, n_in, nI_add, pk_mul, n_div, n_sub, nm_mod, ly_0, ly_13, cw, n0, n1, c_netFits, g, vv]
  · by_cases k1 : kI z t i = 1
    · have x2 := hv 2 (by unfold nn; rw [if_pos k1]; omega)
      have x3 := hv 3 (by unfold nn; rw [if_pos k1]; omega)
      rw [x2.1] at n2
      rw [x3.1] at n3
      have y2 := x2.2
      have y3 := x3.2
      generalize vI z t i 2 = v2 at *
      generalize vI z t i 3 = v3 at *
      rw [k1] at cw ⊢
      rw [show fitK 1 v0 v1 v2 v3 = (decide (v0 ≤ 15) && decide (v1 ≤ 5) && decide (1 ≤ v2) && decide (v2 ≤ 9) && decide (v3 ≤ 2)) from rfl]
      by_cases vv : v0 ≤ 15 ∧ v1 ≤ 5 ∧ 1 ≤ v2 ∧ v2 ≤ 9 ∧ v3 ≤ 2
      · have g : ¬ ((v0 < 0 ∨ 15 < v0) ∨ (v1 < 0 ∨ 5 < v1) ∨ (v2 < 1 ∨ 9 < v2) ∨ (v3 < 0 ∨ 2 < v3)) := by omega
        obtain ⟨a1, a2, a3, a4, a5⟩ := vv
        simp (disch := first | assumption | omega) only [cl_101, r_101_0, r_101_1, r_101_4, r_101_5, r_101_8, r_101_36, r_101_37, r_101_40, r_101_41, r_101_42, r_101_45, r_101_46, r_101_49, r_101_50, r_101_51, r_101_54, r_101_57, r_101_58, r_101_59, r_101_62, r_101_63, r_101_64, r_101_67, r_101_68, r_101_71, r_101_72, r_101_73, r_101_76, r_101_77, r_101_80, r_101_81, r_101_82, r_101_85, r_101_86, r_101_89, r_101_90, r_101_91, r_101_94, r_101_97, r_101_98, r_101_99, r_101_102, r_101_103, r_101_104, r_101_107, r_101_108, r_101_111, r_101_112, r_101_113, r_101_116, r_101_119, o_get, o_ivs, o_ivv, o_lda, o_ldi, o_pi, o_rz, o_sw, acR_nx, acR_re, acR_ca, acR_no, acR_if, Kc_i, Kc_n, a_lg, a_ls, a_kl, a_pk, a_sw, cw_n, cw_i, cw_l, cw_r, List.length_cons, List.length_nil, List.getElem?_cons_succ, List.getElem?_cons_zero, ↓reduceIte, decide_true, decide_false, Bool.false_eq_true, or_true, true_or, or_false, false_or, or_self, and_true, true_and, not_true_eq_false, not_false_eq_true, Nat.reduceEqDiff, Nat.reduceLT, Nat.reduceLeDiff, Nat.reduceAdd, Nat.reduceSub, Nat.reduceMul, Nat.reduceDiv, Nat.reduceMod, Nat.zero_add, Nat.add_zero, n_z, n_1, n_ltz, n_zlt, n_lt, n_eq, n_cl, n_in, nI_add, pk_mul, n_div, n_sub, nm_mod, ly_0, ly_13, cw, n0, n1, n2, n3, c_tieFits, g, a1, a2, a3, a4, a5, Bool.and_self]
      · have g : (v0 < 0 ∨ 15 < v0) ∨ (v1 < 0 ∨ 5 < v1) ∨ (v2 < 1 ∨ 9 < v2) ∨ (v3 < 0 ∨ 2 < v3) := by omega
        have f1 : (decide (v0 ≤ 15) && decide (v1 ≤ 5) && decide (1 ≤ v2) && decide (v2 ≤ 9) && decide (v3 ≤ 2)) = false := by
          cases h : (decide (v0 ≤ 15) && decide (v1 ≤ 5) && decide (1 ≤ v2) && decide (v2 ≤ 9) && decide (v3 ≤ 2))
          · rfl
          · simp only [Bool.and_eq_true, decide_eq_true_eq] at h
            omega
        rw [f1]
        simp (disch := first | assumption | omega) only [cl_101, r_101_0, r_101_1, r_101_4, r_101_5, r_101_8, r_101_36, r_101_37, r_101_40, r_101_41, r_101_42, r_101_45, r_101_46, r_101_49, r_101_50, r_101_51, r_101_54, r_101_57, r_101_58, r_101_59, r_101_62, r_101_63, r_101_64, r_101_67, r_101_68, r_101_71, r_101_72, r_101_73, r_101_76, r_101_77, r_101_80, r_101_81, r_101_82, r_101_85, r_101_86, r_101_89, r_101_90, r_101_91, r_101_94, r_101_97, r_101_98, r_101_99, r_101_102, r_101_103, r_101_104, r_101_107, r_101_108, r_101_111, r_101_112, r_101_113, r_101_116, r_101_119, o_get, o_ivs, o_ivv, o_lda, o_ldi, o_pi, o_rz, o_sw, acR_nx, acR_re, acR_ca, acR_no, acR_if, Kc_i, Kc_n, a_lg, a_ls, a_kl, a_pk, a_sw, cw_n, cw_i, cw_l, cw_r, List.length_cons, List.length_nil, List.getElem?_cons_succ, List.getElem?_cons_zero, ↓reduceIte, decide_true, decide_false, Bool.false_eq_true, or_true, true_or, or_false, false_or, or_self, and_true, true_and, not_true_eq_false, not_false_eq_true, Nat.reduceEqDiff, Nat.reduceLT, Nat.reduceLeDiff, Nat.reduceAdd, Nat.reduceSub, Nat.reduceMul, Nat.reduceDiv, Nat.reduceMod, Nat.zero_add, Nat.add_zero, n_z, n_1, n_ltz, n_zlt, n_lt, n_eq, n_cl, n_in, nI_add, pk_mul, n_div, n_sub, nm_mod, ly_0, ly_13, cw, n0, n1, n2, n3, c_tieFits, g]
    · have k2 : kI z t i = 2 := by omega
      rw [k2] at cw ⊢
      rw [show ∀ x y, fitK 2 v0 v1 x y = (decide (v0 ≤ 8) && decide (v1 ≤ 30)) from fun _ _ => rfl]
      by_cases vv : v0 ≤ 8 ∧ v1 ≤ 30
      · have g : ¬ ((v0 < 0 ∨ 8 < v0) ∨ (v1 < 0 ∨ 30 < v1)) := by omega
        obtain ⟨a1, a2⟩ := vv
        simp (disch := first | assumption | omega) only [cl_101, r_101_0, r_101_1, r_101_4, r_101_5, r_101_8, r_101_36, r_101_37, r_101_40, r_101_41, r_101_42, r_101_45, r_101_46, r_101_49, r_101_50, r_101_51, r_101_54, r_101_57, r_101_58, r_101_59, r_101_62, r_101_63, r_101_64, r_101_67, r_101_68, r_101_71, r_101_72, r_101_73, r_101_76, r_101_77, r_101_80, r_101_81, r_101_82, r_101_85, r_101_86, r_101_89, r_101_90, r_101_91, r_101_94, r_101_97, r_101_98, r_101_99, r_101_102, r_101_103, r_101_104, r_101_107, r_101_108, r_101_111, r_101_112, r_101_113, r_101_116, r_101_119, o_get, o_ivs, o_ivv, o_lda, o_ldi, o_pi, o_rz, o_sw, acR_nx, acR_re, acR_ca, acR_no, acR_if, Kc_i, Kc_n, a_lg, a_ls, a_kl, a_pk, a_sw, cw_n, cw_i, cw_l, cw_r, List.length_cons, List.length_nil, List.getElem?_cons_succ, List.getElem?_cons_zero, ↓reduceIte, decide_true, decide_false, Bool.false_eq_true, or_true, true_or, or_false, false_or, or_self, and_true, true_and, not_true_eq_false, not_false_eq_true, Nat.reduceEqDiff, Nat.reduceLT, Nat.reduceLeDiff, Nat.reduceAdd, Nat.reduceSub, Nat.reduceMul, Nat.reduceDiv, Nat.reduceMod, Nat.zero_add, Nat.add_zero, n_z, n_1, n_ltz, n_zlt, n_lt, n_eq, n_cl, n_in, nI_add, pk_mul, n_div, n_sub, nm_mod, ly_0, ly_13, cw, n0, n1, c_wideFits, g, a1, a2, Bool.and_self]
      · have g : (v0 < 0 ∨ 8 < v0) ∨ (v1 < 0 ∨ 30 < v1) := by omega
        have f1 : (decide (v0 ≤ 8) && decide (v1 ≤ 30)) = false := by
          cases h : (decide (v0 ≤ 8) && decide (v1 ≤ 30))
          · rfl
          · simp only [Bool.and_eq_true, decide_eq_true_eq] at h
            omega
        rw [f1]
        simp (disch := first | assumption | omega) only [cl_101, r_101_0, r_101_1, r_101_4, r_101_5, r_101_8, r_101_36, r_101_37, r_101_40, r_101_41, r_101_42, r_101_45, r_101_46, r_101_49, r_101_50, r_101_51, r_101_54, r_101_57, r_101_58, r_101_59, r_101_62, r_101_63, r_101_64, r_101_67, r_101_68, r_101_71, r_101_72, r_101_73, r_101_76, r_101_77, r_101_80, r_101_81, r_101_82, r_101_85, r_101_86, r_101_89, r_101_90, r_101_91, r_101_94, r_101_97, r_101_98, r_101_99, r_101_102, r_101_103, r_101_104, r_101_107, r_101_108, r_101_111, r_101_112, r_101_113, r_101_116, r_101_119, o_get, o_ivs, o_ivv, o_lda, o_ldi, o_pi, o_rz, o_sw, acR_nx, acR_re, acR_ca, acR_no, acR_if, Kc_i, Kc_n, a_lg, a_ls, a_kl, a_pk, a_sw, cw_n, cw_i, cw_l, cw_r, List.length_cons, List.length_nil, List.getElem?_cons_succ, List.getElem?_cons_zero, ↓reduceIte, decide_true, decide_false, Bool.false_eq_true, or_true, true_or, or_false, false_or, or_self, and_true, true_and, not_true_eq_false, not_false_eq_true, Nat.reduceEqDiff, Nat.reduceLT, Nat.reduceLeDiff, Nat.reduceAdd, Nat.reduceSub, Nat.reduceMul, Nat.reduceDiv, Nat.reduceMod, Nat.zero_add, Nat.add_zero, n_z, n_1, n_ltz, n_zlt, n_lt, n_eq, n_cl, n_in, nI_add, pk_mul, n_div, n_sub, nm_mod, ly_0, ly_13, cw, n0, n1, c_wideFits, g]
theorem c_firstRef {z : Nat} {t : Nat → Nat} {n : Nat} (hn : n ≤ 21) {σ : a_HP} {R : Nat → Int32} (hR : σ.1 15 = R) (h1 : σ.1 13 1 = nI n) (hr : ∀ i, i < n → iOK z t i R) (Q : Option Value → a_HP → Prop) (hQ : Q (some (.int (FF z t n))) σ) : Cl 100 [.ref 0] σ Q := by
  have key := lp_dn (C := fun i => (∀ j, j < i → ftI z t j = true) → Rn 100 2 [some (.ref 0), some (.int (nI i))] [] σ Q) n (fun hg => by
    rw [FF_ok z t n hg] at hQ
    rw [r_100_2]
    simp (disch := first | assumption | omega) only [r_100_0, r_100_1, r_100_3, r_100_4, r_100_7, r_100_10, r_100_13, r_100_14, r_100_15, r_100_18, r_100_21, r_100_22, r_100_23, r_100_26, r_100_29, r_100_30, o_cge, o_get, o_go, o_inc, o_ivv, o_lda, o_ldi, o_ne, o_pi, o_ri, o_sti, o_ldi, acR_nx, acR_re, acR_ca, acR_no, acR_if, Kc_i, Kc_n, a_lg, a_ls, a_kl, a_pk, a_sw, cw_n, cw_i, cw_l, cw_r, List.length_cons, List.length_nil, List.getElem?_cons_succ, List.getElem?_cons_zero, ↓reduceIte, decide_true, decide_false, Bool.false_eq_true, or_true, true_or, or_false, false_or, or_self, and_true, true_and, not_true_eq_false, not_false_eq_true, Nat.reduceEqDiff, Nat.reduceLT, Nat.reduceLeDiff, Nat.reduceAdd, Nat.reduceSub, Nat.reduceMul, Nat.reduceDiv, Nat.reduceMod, Nat.zero_add, Nat.add_zero, n_z, n_1, n_ltz, n_zlt, n_lt, n_eq, n_cl, n_in, nI_add, pk_mul, n_div, n_sub, nm_mod, ly_0, ly_13, h1, Nat.lt_irrefl]
    exact hQ) (fun i hi ih hg => by
    rw [r_100_2]
    have cf := c_itemFits (show i ≤ 20 by omega) hR (hr i hi)
    cases q : ftI z t i with
    | true =>
      simp (disch := first | assumption | omega) only [r_100_0, r_100_1, r_100_3, r_100_4, r_100_7, r_100_10, r_100_13, r_100_14, r_100_15, r_100_18, r_100_21, r_100_22, r_100_23, r_100_26, r_100_29, r_100_30, o_cge, o_get, o_go, o_inc, o_ivv, o_lda, o_ldi, o_ne, o_pi, o_ri, o_sti, o_ldi, acR_nx, acR_re, acR_ca, acR_no, acR_if, Kc_i, Kc_n, a_lg, a_ls, a_kl, a_pk, a_sw, cw_n, cw_i, cw_l, cw_r, List.length_cons, List.length_nil, List.getElem?_cons_succ, List.getElem?_cons_zero, ↓reduceIte, decide_true, decide_false, Bool.false_eq_true, or_true, true_or, or_false, false_or, or_self, and_true, true_and, not_true_eq_false, not_false_eq_true, Nat.reduceEqDiff, Nat.reduceLT, Nat.reduceLeDiff, Nat.reduceAdd, Nat.reduceSub, Nat.reduceMul, Nat.reduceDiv, Nat.reduceMod, Nat.zero_add, Nat.add_zero, n_z, n_1, n_ltz, n_zlt, n_lt, n_eq, n_cl, n_in, nI_add, pk_mul, n_div, n_sub, nm_mod, ly_0, ly_13, h1, hi, cf, q]
      refine ih (fun j hj => ?_)
      by_cases e : j = i
      · rw [e]; exact q
      · exact hg j (by omega)
    | false =>
      rw [FF_at z t (by omega) q hg n hi] at hQ
      simp (disch := first | assumption | omega) only [r_100_0, r_100_1, r_100_3, r_100_4, r_100_7, r_100_10, r_100_13, r_100_14, r_100_15, r_100_18, r_100_21, r_100_22, r_100_23, r_100_26, r_100_29, r_100_30, o_cge, o_get, o_go, o_inc, o_ivv, o_lda, o_ldi, o_ne, o_pi, o_ri, o_sti, o_ldi, acR_nx, acR_re, acR_ca, acR_no, acR_if, Kc_i, Kc_n, a_lg, a_ls, a_kl, a_pk, a_sw, cw_n, cw_i, cw_l, cw_r, List.length_cons, List.length_nil, List.getElem?_cons_succ, List.getElem?_cons_zero, ↓reduceIte, decide_true, decide_false, Bool.false_eq_true, or_true, true_or, or_false, false_or, or_self, and_true, true_and, not_true_eq_false, not_false_eq_true, Nat.reduceEqDiff, Nat.reduceLT, Nat.reduceLeDiff, Nat.reduceAdd, Nat.reduceSub, Nat.reduceMul, Nat.reduceDiv, Nat.reduceMod, Nat.zero_add, Nat.add_zero, n_z, n_1, n_ltz, n_zlt, n_lt, n_eq, n_cl, n_in, nI_add, pk_mul, n_div, n_sub, nm_mod, ly_0, ly_13, h1, hi, cf, q]
      exact hQ)
  simp (disch := first | assumption | omega) only [cl_100, r_100_0, r_100_1, r_100_3, r_100_4, r_100_7, r_100_10, r_100_13, r_100_14, r_100_15, r_100_18, r_100_21, r_100_22, r_100_23, r_100_26, r_100_29, r_100_30, o_cge, o_get, o_go, o_inc, o_ivv, o_lda, o_ldi, o_ne, o_pi, o_ri, o_sti, acR_nx, acR_re, acR_ca, acR_no, acR_if, Kc_i, Kc_n, a_lg, a_ls, a_kl, a_pk, a_sw, cw_n, cw_i, cw_l, cw_r, List.length_cons, List.length_nil, List.getElem?_cons_succ, List.getElem?_cons_zero, ↓reduceIte, decide_true, decide_false, Bool.false_eq_true, or_true, true_or, or_false, false_or, or_self, and_true, true_and, not_true_eq_false, not_false_eq_true, Nat.reduceEqDiff, Nat.reduceLT, Nat.reduceLeDiff, Nat.reduceAdd, Nat.reduceSub, Nat.reduceMul, Nat.reduceDiv, Nat.reduceMod, Nat.zero_add, Nat.add_zero, n_z, n_1, n_ltz, n_zlt, n_lt, n_eq, n_cl, n_in, nI_add, pk_mul, n_div, n_sub, nm_mod]
  exact key (fun j hj => by omega)
