/-! least: the reference fills its table -/
def dM (f : Nat → Int32) (a b i x y : Nat) : Nat := dC (moN f) (stM f a b) okM 1000000 ((KL a b 16).drop i) (x, y)
def mb (F : Nat) (g : Nat → Nat) : Nat → Nat
  | 0 => F
  | n + 1 => if g n < mb F g n then g n else mb F g n
theorem mb_mnT (F : Nat) (g : Nat → Nat) : ∀ n, mb F g (n + 1) = mnT F g n
  | 0 => rfl
  | n + 1 => by
    show (if g (n + 1) < mb F g (n + 1) then g (n + 1) else mb F g (n + 1)) = _
    rw [mb_mnT F g n]
    rfl
theorem mb_le (F : Nat) (g : Nat → Nat) : ∀ n, mb F g n ≤ F
  | 0 => Nat.le_refl _
  | n + 1 => by
    have := mb_le F g n
    simp only [mb]
    split <;> omega
theorem dM_le (f : Nat → Int32) (a b i x y : Nat) : dM f a b i x y ≤ 1000000 := dC_le _ _ _ _ _ _
theorem dM_s (f : Nat → Int32) {a b i : Nat} (hi : i < (KL a b 16).length) (x y : Nat) : dM f a b i x y = mb 1000000 (fun tw => tw + dM f a b (i + 1) (stM f a b ((KL a b 16).getD i 0) tw (x, y)).1 (stM f a b ((KL a b 16).getD i 0) tw (x, y)).2) (moN f ((KL a b 16).getD i 0) + 1) := by
  unfold dM
  have e : (KL a b 16).drop i = (KL a b 16).getD i 0 :: (KL a b 16).drop (i + 1) := by
    rw [List.getD_eq_getElem?_getD, List.getElem?_eq_getElem hi]
    exact List.drop_eq_getElem_cons hi
  rw [e]
  simp only [dC]
  rw [mb_mnT]
theorem dM_n (f : Nat → Int32) (a b x y : Nat) : dM f a b (KL a b 16).length x y = if x + y = 0 then 0 else 1000000 := by
  unfold dM
  rw [List.drop_length]
  simp only [dC, okM, decide_eq_true_eq]
theorem i_M : (1000000 : Int32) = nI 1000000 := by decide +kernel
def TT (f : Nat → Int32) (a b i : Nat) (T : Nat → Int32) : Prop := ∀ x y, x < 31 → y < 31 → T (961 * i + 31 * x + y) = nI (dM f a b i x y)
theorem m_cell {N : Nat} {σ : a_HP} (hv : vN N (σ.1 62)) {a b : Nat} (ha : a < 9) (hb : b < 9) {i : Nat} (hi : i ≤ (KL a b 16).length) (hG : ∀ j, j < (KL a b 16).length → σ.1 70 j = nI ((KL a b 16).getD j 0)) {T : Nat → Int32} (hT : i < (KL a b 16).length → TT (σ.1 62) a b (i + 1) T) {x y : Nat} (hx : x < 31) (hy : y < 31) (x7 x8 x9 : Option Value) (Q : Option Value → a_HP → Prop) (hQ : ∀ x7 x8 x9, Rn 178 21 [some (.ref 61), some (.int (nI a)), some (.int (nI b)), some (.int (nI (KL a b 16).length)), some (.int (nI i)), some (.int (nI x)), some (.int (nI (y + 1))), x7, x8, x9] [] (a_sc σ 71 (upd T (961 * i + 31 * x + y) (nI (dM (σ.1 62) a b i x y)))) Q) : Rn 178 21 [some (.ref 61), some (.int (nI a)), some (.int (nI b)), some (.int (nI (KL a b 16).length)), some (.int (nI i)), some (.int (nI x)), some (.int (nI y)), x7, x8, x9] [] (a_sc σ 71 T) Q := by
  have l8 := (KL_8 ⟨a, ha⟩ ⟨b, hb⟩ 16).1
  have l8' : (KL a b 16).length ≤ 8 := l8
  have ib : 961 * i + 31 * x + y < 8649 := by omega
  have store : ∀ c x8 x9, c = dM (σ.1 62) a b i x y → Rn 178 113 [some (.ref 61), some (.int (nI a)), some (.int (nI b)), some (.int (nI (KL a b 16).length)), some (.int (nI i)), some (.int (nI x)), some (.int (nI y)), some (.int (nI c)), x8, x9] [] (a_sc σ 71 T) Q := by
    intro c x8 x9 hc
    rw [hc]
    simp (disch := first | assumption | omega) only [r_178_0, r_178_1, r_178_5, r_178_8, r_178_9, r_178_13, r_178_15, r_178_18, r_178_19, r_178_23, r_178_25, r_178_28, r_178_30, r_178_31, r_178_34, r_178_36, r_178_38, r_178_39, r_178_42, r_178_44, r_178_47, r_178_48, r_178_50, r_178_51, r_178_55, r_178_56, r_178_59, r_178_61, r_178_62, r_178_63, r_178_66, r_178_68, r_178_69, r_178_72, r_178_75, r_178_76, r_178_77, r_178_78, r_178_80, r_178_82, r_178_84, r_178_86, r_178_89, r_178_91, r_178_93, r_178_95, r_178_98, r_178_100, r_178_103, r_178_105, r_178_107, r_178_110, r_178_113, r_178_114, r_178_117, r_178_119, r_178_121, r_178_123, r_178_126, r_178_128, r_178_129, r_178_132, r_178_135, r_178_138, r_178_141, r_178_144, r_178_147, f_add, o_bi, o_cge, o_cgt, o_clt, o_get, o_go, o_ial, o_ias, o_inc, o_ivs, o_ivv, o_lda, o_ldi, o_le, o_lt, o_pi, o_rv, o_sti, acR_nx, acR_re, acR_ca, acR_no, acR_if, Kc_i, Kc_n, a_lg, a_ls, a_kl, a_pk, a_sw, cw_n, cw_i, cw_l, cw_r, List.length_cons, List.length_nil, List.getElem?_cons_succ, List.getElem?_cons_zero, ↓reduceIte, decide_true, decide_false, Bool.false_eq_true, or_true, true_or, or_false, false_or, or_self, and_true, true_and, not_true_eq_false, not_false_eq_true, Nat.reduceEqDiff, Nat.reduceLT, Nat.reduceLeDiff, Nat.reduceAdd, Nat.reduceSub, Nat.reduceMul, Nat.reduceDiv, Nat.reduceMod, Nat.zero_add, Nat.add_zero, n_z, n_1, n_ltz, n_zlt, n_lt, n_eq, n_cl, n_in, nI_add, pk_mul, n_div, n_sub, nm_mod, ly_61, ly_71, m_place, ib, wi_sc, sc_1, sc_sc]
    exact hQ _ _ _
  rw [r_178_21]
  by_cases hin : i < (KL a b 16).length
  · have TT1 := hT hin
    have g := hG i hin
    have mem : (KL a b 16).getD i 0 ∈ KL a b 16 := by
      rw [List.getD_eq_getElem?_getD, List.getElem?_eq_getElem hin]
      exact List.getElem_mem hin
    have k16 := (KL_mem mem).1
    have ds := dM_s (σ.1 62) hin x y
    have i8 : i < 8 := by omega
    generalize (KL a b 16).getD i 0 = k at *
    have mo9 : moN (σ.1 62) k ≤ 9 := by unfold moN; split <;> omega
    have mf := m_mostFor (σ := a_sc σ 71 T) (N := N) hv k16
    have s62 : (a_sc σ 71 T).1 62 = σ.1 62 := rfl
    rw [s62] at mf
    have lb : ∀ tw, tw ≤ moN (σ.1 62) k → ∀ Q, Cl 177 [.ref 61, .int (nI a), .int (nI b), .int (nI i), .int (nI x), .int (nI y), .int (nI tw)] (a_sc σ 71 T) Q = Q (some (.int (nI (tw + dM (σ.1 62) a b (i + 1) (stM (σ.1 62) a b k tw (x, y)).1 (stM (σ.1 62) a b k tw (x, y)).2)))) (a_sc σ 71 T) := fun tw htw Q => by
      have b1 : (stM (σ.1 62) a b k tw (x, y)).1 < 31 := by unfold stM; dsimp only; split <;> omega
      have b2 : (stM (σ.1 62) a b k tw (x, y)).2 < 31 := by unfold stM; dsimp only; split <;> omega
      exact m_leastBy (σ := a_sc σ 71 T) (N := N) hv ha hb i8 k16 hx hy htw g (TT1 _ _ b1 b2) Q
    generalize hgf : (fun tw => tw + dM (σ.1 62) a b (i + 1) (stM (σ.1 62) a b k tw (x, y)).1 (stM (σ.1 62) a b k tw (x, y)).2) = gf at *
    have lb' : ∀ tw, tw ≤ moN (σ.1 62) k → ∀ Q, Cl 177 [.ref 61, .int (nI a), .int (nI b), .int (nI i), .int (nI x), .int (nI y), .int (nI tw)] (a_sc σ 71 T) Q = Q (some (.int (nI (gf tw)))) (a_sc σ 71 T) := fun tw htw Q => by rw [lb tw htw Q, ← hgf]
    have gb : ∀ tw, tw ≤ 9 → gf tw ≤ 1000009 := fun tw htw => by
      rw [← hgf]
      have := dM_le (σ.1 62) a b (i + 1) (stM (σ.1 62) a b k tw (x, y)).1 (stM (σ.1 62) a b k tw (x, y)).2
      dsimp only
      omega
    generalize moN (σ.1 62) k = mo at *
    have loop := lp_dn (C := fun tw => ∀ x9, Rn 178 53 [some (.ref 61), some (.int (nI a)), some (.int (nI b)), some (.int (nI (KL a b 16).length)), some (.int (nI i)), some (.int (nI x)), some (.int (nI y)), some (.int (nI (mb 1000000 gf tw))), some (.int (nI tw)), x9] [] (a_sc σ 71 T) Q) (mo + 1) (fun x9 => by
      rw [r_178_53]
      have m1 : mo < mo + 1 := by omega
      simp (disch := first | assumption | omega) only [r_178_0, r_178_1, r_178_5, r_178_8, r_178_9, r_178_13, r_178_15, r_178_18, r_178_19, r_178_23, r_178_25, r_178_28, r_178_30, r_178_31, r_178_34, r_178_36, r_178_38, r_178_39, r_178_42, r_178_44, r_178_47, r_178_48, r_178_50, r_178_51, r_178_55, r_178_56, r_178_59, r_178_61, r_178_62, r_178_63, r_178_66, r_178_68, r_178_69, r_178_72, r_178_75, r_178_76, r_178_77, r_178_78, r_178_80, r_178_82, r_178_84, r_178_86, r_178_89, r_178_91, r_178_93, r_178_95, r_178_98, r_178_100, r_178_103, r_178_105, r_178_107, r_178_110, r_178_114, r_178_117, r_178_119, r_178_121, r_178_123, r_178_126, r_178_128, r_178_129, r_178_132, r_178_135, r_178_138, r_178_141, r_178_144, r_178_147, f_add, o_bi, o_cge, o_cgt, o_clt, o_get, o_go, o_ial, o_ias, o_inc, o_ivs, o_ivv, o_lda, o_ldi, o_le, o_lt, o_pi, o_rv, o_sti, acR_nx, acR_re, acR_ca, acR_no, acR_if, Kc_i, Kc_n, a_lg, a_ls, a_kl, a_pk, a_sw, cw_n, cw_i, cw_l, cw_r, List.length_cons, List.length_nil, List.getElem?_cons_succ, List.getElem?_cons_zero, ↓reduceIte, decide_true, decide_false, Bool.false_eq_true, or_true, true_or, or_false, false_or, or_self, and_true, true_and, not_true_eq_false, not_false_eq_true, Nat.reduceEqDiff, Nat.reduceLT, Nat.reduceLeDiff, Nat.reduceAdd, Nat.reduceSub, Nat.reduceMul, Nat.reduceDiv, Nat.reduceMod, Nat.zero_add, Nat.add_zero, n_z, n_1, n_ltz, n_zlt, n_lt, n_eq, n_cl, n_in, nI_add, pk_mul, n_div, n_sub, nm_mod, ly_61, ly_70, hin, i8, sc_1, g, mf, m1]
      exact store _ _ _ ds.symm) (fun tw htw ih x9 => by
      rw [r_178_53]
      have m1 : ¬ mo < tw := by omega
      have m2 : tw ≤ mo := by omega
      have b1 := gb tw (by omega)
      have b2 := mb_le 1000000 gf tw
      simp only [mb] at ih
      by_cases q : gf tw < mb 1000000 gf tw
      · rw [if_pos q] at ih
        simp (disch := first | assumption | omega) only [r_178_0, r_178_1, r_178_5, r_178_8, r_178_9, r_178_13, r_178_15, r_178_18, r_178_19, r_178_23, r_178_25, r_178_28, r_178_30, r_178_31, r_178_34, r_178_36, r_178_38, r_178_39, r_178_42, r_178_44, r_178_47, r_178_48, r_178_50, r_178_51, r_178_55, r_178_56, r_178_59, r_178_61, r_178_62, r_178_63, r_178_66, r_178_68, r_178_69, r_178_72, r_178_75, r_178_76, r_178_77, r_178_78, r_178_80, r_178_82, r_178_84, r_178_86, r_178_89, r_178_91, r_178_93, r_178_95, r_178_98, r_178_100, r_178_103, r_178_105, r_178_107, r_178_110, r_178_114, r_178_117, r_178_119, r_178_121, r_178_123, r_178_126, r_178_128, r_178_129, r_178_132, r_178_135, r_178_138, r_178_141, r_178_144, r_178_147, f_add, o_bi, o_cge, o_cgt, o_clt, o_get, o_go, o_ial, o_ias, o_inc, o_ivs, o_ivv, o_lda, o_ldi, o_le, o_lt, o_pi, o_rv, o_sti, acR_nx, acR_re, acR_ca, acR_no, acR_if, Kc_i, Kc_n, a_lg, a_ls, a_kl, a_pk, a_sw, cw_n, cw_i, cw_l, cw_r, List.length_cons, List.length_nil, List.getElem?_cons_succ, List.getElem?_cons_zero, ↓reduceIte, decide_true, decide_false, Bool.false_eq_true, or_true, true_or, or_false, false_or, or_self, and_true, true_and, not_true_eq_false, not_false_eq_true, Nat.reduceEqDiff, Nat.reduceLT, Nat.reduceLeDiff, Nat.reduceAdd, Nat.reduceSub, Nat.reduceMul, Nat.reduceDiv, Nat.reduceMod, Nat.zero_add, Nat.add_zero, n_z, n_1, n_ltz, n_zlt, n_lt, n_eq, n_cl, n_in, nI_add, pk_mul, n_div, n_sub, nm_mod, ly_61, ly_70, hin, i8, sc_1, g, mf, m1, lb' tw m2, q]
        exact ih _
      · rw [if_neg q] at ih
        simp (disch := first | assumption | omega) only [r_178_0, r_178_1, r_178_5, r_178_8, r_178_9, r_178_13, r_178_15, r_178_18, r_178_19, r_178_23, r_178_25, r_178_28, r_178_30, r_178_31, r_178_34, r_178_36, r_178_38, r_178_39, r_178_42, r_178_44, r_178_47, r_178_48, r_178_50, r_178_51, r_178_55, r_178_56, r_178_59, r_178_61, r_178_62, r_178_63, r_178_66, r_178_68, r_178_69, r_178_72, r_178_75, r_178_76, r_178_77, r_178_78, r_178_80, r_178_82, r_178_84, r_178_86, r_178_89, r_178_91, r_178_93, r_178_95, r_178_98, r_178_100, r_178_103, r_178_105, r_178_107, r_178_110, r_178_114, r_178_117, r_178_119, r_178_121, r_178_123, r_178_126, r_178_128, r_178_129, r_178_132, r_178_135, r_178_138, r_178_141, r_178_144, r_178_147, f_add, o_bi, o_cge, o_cgt, o_clt, o_get, o_go, o_ial, o_ias, o_inc, o_ivs, o_ivv, o_lda, o_ldi, o_le, o_lt, o_pi, o_rv, o_sti, acR_nx, acR_re, acR_ca, acR_no, acR_if, Kc_i, Kc_n, a_lg, a_ls, a_kl, a_pk, a_sw, cw_n, cw_i, cw_l, cw_r, List.length_cons, List.length_nil, List.getElem?_cons_succ, List.getElem?_cons_zero, ↓reduceIte, decide_true, decide_false, Bool.false_eq_true, or_true, true_or, or_false, false_or, or_self, and_true, true_and, not_true_eq_false, not_false_eq_true, Nat.reduceEqDiff, Nat.reduceLT, Nat.reduceLeDiff, Nat.reduceAdd, Nat.reduceSub, Nat.reduceMul, Nat.reduceDiv, Nat.reduceMod, Nat.zero_add, Nat.add_zero, n_z, n_1, n_ltz, n_zlt, n_lt, n_eq, n_cl, n_in, nI_add, pk_mul, n_div, n_sub, nm_mod, ly_61, ly_70, hin, i8, sc_1, g, mf, m1, lb' tw m2, q]
        exact ih _)
    simp (disch := first | assumption | omega) only [r_178_0, r_178_1, r_178_5, r_178_8, r_178_9, r_178_13, r_178_15, r_178_18, r_178_19, r_178_23, r_178_25, r_178_28, r_178_30, r_178_31, r_178_34, r_178_36, r_178_38, r_178_39, r_178_42, r_178_44, r_178_47, r_178_48, r_178_50, r_178_51, r_178_55, r_178_56, r_178_59, r_178_61, r_178_62, r_178_63, r_178_66, r_178_68, r_178_69, r_178_72, r_178_75, r_178_76, r_178_77, r_178_78, r_178_80, r_178_82, r_178_84, r_178_86, r_178_89, r_178_91, r_178_93, r_178_95, r_178_98, r_178_100, r_178_103, r_178_105, r_178_107, r_178_110, r_178_113, r_178_114, r_178_117, r_178_119, r_178_121, r_178_123, r_178_126, r_178_128, r_178_129, r_178_132, r_178_135, r_178_138, r_178_141, r_178_144, r_178_147, f_add, o_bi, o_cge, o_cgt, o_clt, o_get, o_go, o_ial, o_ias, o_inc, o_ivs, o_ivv, o_lda, o_ldi, o_le, o_lt, o_pi, o_rv, o_sti, acR_nx, acR_re, acR_ca, acR_no, acR_if, Kc_i, Kc_n, a_lg, a_ls, a_kl, a_pk, a_sw, cw_n, cw_i, cw_l, cw_r, List.length_cons, List.length_nil, List.getElem?_cons_succ, List.getElem?_cons_zero, ↓reduceIte, decide_true, decide_false, Bool.false_eq_true, or_true, true_or, or_false, false_or, or_self, and_true, true_and, not_true_eq_false, not_false_eq_true, Nat.reduceEqDiff, Nat.reduceLT, Nat.reduceLeDiff, Nat.reduceAdd, Nat.reduceSub, Nat.reduceMul, Nat.reduceDiv, Nat.reduceMod, Nat.zero_add, Nat.add_zero, n_z, n_1, n_ltz, n_zlt, n_lt, n_eq, n_cl, n_in, nI_add, pk_mul, n_div, n_sub, nm_mod, hy, hin, i_M]
    exact loop _
  · have ie : i = (KL a b 16).length := by omega
    have dn := dM_n (σ.1 62) a b x y
    rw [← ie] at dn
    by_cases q : x + y = 0
    · have q' : ¬ 0 < x + y := by omega
      rw [if_pos q] at dn
      simp (disch := first | assumption | omega) only [r_178_0, r_178_1, r_178_5, r_178_8, r_178_9, r_178_13, r_178_15, r_178_18, r_178_19, r_178_23, r_178_25, r_178_28, r_178_30, r_178_31, r_178_34, r_178_36, r_178_38, r_178_39, r_178_42, r_178_44, r_178_47, r_178_48, r_178_50, r_178_51, r_178_53, r_178_55, r_178_56, r_178_59, r_178_61, r_178_62, r_178_63, r_178_66, r_178_68, r_178_69, r_178_72, r_178_75, r_178_76, r_178_77, r_178_78, r_178_80, r_178_82, r_178_84, r_178_86, r_178_89, r_178_91, r_178_93, r_178_95, r_178_98, r_178_100, r_178_103, r_178_105, r_178_107, r_178_110, r_178_114, r_178_117, r_178_119, r_178_121, r_178_123, r_178_126, r_178_128, r_178_129, r_178_132, r_178_135, r_178_138, r_178_141, r_178_144, r_178_147, f_add, o_bi, o_cge, o_cgt, o_clt, o_get, o_go, o_ial, o_ias, o_inc, o_ivs, o_ivv, o_lda, o_ldi, o_le, o_lt, o_pi, o_rv, o_sti, acR_nx, acR_re, acR_ca, acR_no, acR_if, Kc_i, Kc_n, a_lg, a_ls, a_kl, a_pk, a_sw, cw_n, cw_i, cw_l, cw_r, List.length_cons, List.length_nil, List.getElem?_cons_succ, List.getElem?_cons_zero, ↓reduceIte, decide_true, decide_false, Bool.false_eq_true, or_true, true_or, or_false, false_or, or_self, and_true, true_and, not_true_eq_false, not_false_eq_true, Nat.reduceEqDiff, Nat.reduceLT, Nat.reduceLeDiff, Nat.reduceAdd, Nat.reduceSub, Nat.reduceMul, Nat.reduceDiv, Nat.reduceMod, Nat.zero_add, Nat.add_zero, n_z, n_1, n_ltz, n_zlt, n_lt, n_eq, n_cl, n_in, nI_add, pk_mul, n_div, n_sub, nm_mod, hy, hin, q', q]
      exact store 0 _ _ dn.symm
    · have q' : 0 < x + y := by omega
      rw [if_neg q] at dn
      simp (disch := first | assumption | omega) only [r_178_0, r_178_1, r_178_5, r_178_8, r_178_9, r_178_13, r_178_15, r_178_18, r_178_19, r_178_23, r_178_25, r_178_28, r_178_30, r_178_31, r_178_34, r_178_36, r_178_38, r_178_39, r_178_42, r_178_44, r_178_47, r_178_48, r_178_50, r_178_51, r_178_53, r_178_55, r_178_56, r_178_59, r_178_61, r_178_62, r_178_63, r_178_66, r_178_68, r_178_69, r_178_72, r_178_75, r_178_76, r_178_77, r_178_78, r_178_80, r_178_82, r_178_84, r_178_86, r_178_89, r_178_91, r_178_93, r_178_95, r_178_98, r_178_100, r_178_103, r_178_105, r_178_107, r_178_110, r_178_114, r_178_117, r_178_119, r_178_121, r_178_123, r_178_126, r_178_128, r_178_129, r_178_132, r_178_135, r_178_138, r_178_141, r_178_144, r_178_147, f_add, o_bi, o_cge, o_cgt, o_clt, o_get, o_go, o_ial, o_ias, o_inc, o_ivs, o_ivv, o_lda, o_ldi, o_le, o_lt, o_pi, o_rv, o_sti, acR_nx, acR_re, acR_ca, acR_no, acR_if, Kc_i, Kc_n, a_lg, a_ls, a_kl, a_pk, a_sw, cw_n, cw_i, cw_l, cw_r, List.length_cons, List.length_nil, List.getElem?_cons_succ, List.getElem?_cons_zero, ↓reduceIte, decide_true, decide_false, Bool.false_eq_true, or_true, true_or, or_false, false_or, or_self, and_true, true_and, not_true_eq_false, not_false_eq_true, Nat.reduceEqDiff, Nat.reduceLT, Nat.reduceLeDiff, Nat.reduceAdd, Nat.reduceSub, Nat.reduceMul, Nat.reduceDiv, Nat.reduceMod, Nat.zero_add, Nat.add_zero, n_z, n_1, n_ltz, n_zlt, n_lt, n_eq, n_cl, n_in, nI_add, pk_mul, n_div, n_sub, nm_mod, hy, hin, q', q, i_M]
      exact store 1000000 _ _ dn.symm
theorem m_layTable {N : Nat} {σ : a_HP} (hv : vN N (σ.1 62)) {a b : Nat} (ha : a < 9) (hb : b < 9) (hG : ∀ j, j < (KL a b 16).length → σ.1 70 j = nI ((KL a b 16).getD j 0)) (Q : Option Value → a_HP → Prop) (hQ : ∀ T : Nat → Int32, (∀ i, i ≤ (KL a b 16).length → TT (σ.1 62) a b i T) → Q none (a_sc σ 71 T)) : Cl 178 [.ref 61, .int (nI a), .int (nI b), .int (nI (KL a b 16).length)] σ Q := by
  have l8 : (KL a b 16).length ≤ 8 := (KL_8 ⟨a, ha⟩ ⟨b, hb⟩ 16).1
  generalize hn : (KL a b 16).length = n at *
  have key := lp_dn (C := fun u => ∀ (T : Nat → Int32) x5 x6 x7 x8 x9, (∀ i, n < i + u → i ≤ n → TT (σ.1 62) a b i T) → Rn 178 3 [some (.ref 61), some (.int (nI a)), some (.int (nI b)), some (.int (nI n)), some (.int (if u ≤ n then nI (n - u) else -1)), x5, x6, x7, x8, x9] [] (a_sc σ 71 T) Q) (n + 1) (fun T x5 x6 x7 x8 x9 hT => by
    rw [r_178_3, if_neg (by omega)]
    have m0 : (-1 : Int32) < 0 := by decide
    simp (disch := first | assumption | omega) only [r_178_0, r_178_1, r_178_5, r_178_8, r_178_9, r_178_13, r_178_15, r_178_18, r_178_19, r_178_23, r_178_25, r_178_28, r_178_30, r_178_31, r_178_34, r_178_36, r_178_38, r_178_39, r_178_42, r_178_44, r_178_47, r_178_48, r_178_50, r_178_51, r_178_55, r_178_56, r_178_59, r_178_61, r_178_62, r_178_63, r_178_66, r_178_68, r_178_69, r_178_72, r_178_75, r_178_76, r_178_77, r_178_78, r_178_80, r_178_82, r_178_84, r_178_86, r_178_89, r_178_91, r_178_93, r_178_95, r_178_98, r_178_100, r_178_103, r_178_105, r_178_107, r_178_110, r_178_113, r_178_114, r_178_117, r_178_119, r_178_121, r_178_123, r_178_126, r_178_128, r_178_129, r_178_132, r_178_135, r_178_138, r_178_141, r_178_144, r_178_147, f_add, o_bi, o_cge, o_cgt, o_clt, o_get, o_go, o_ial, o_ias, o_inc, o_ivs, o_ivv, o_lda, o_ldi, o_le, o_lt, o_pi, o_rv, o_sti, o_ldi, acR_nx, acR_re, acR_ca, acR_no, acR_if, Kc_i, Kc_n, a_lg, a_ls, a_kl, a_pk, a_sw, cw_n, cw_i, cw_l, cw_r, List.length_cons, List.length_nil, List.getElem?_cons_succ, List.getElem?_cons_zero, ↓reduceIte, decide_true, decide_false, Bool.false_eq_true, or_true, true_or, or_false, false_or, or_self, and_true, true_and, not_true_eq_false, not_false_eq_true, Nat.reduceEqDiff, Nat.reduceLT, Nat.reduceLeDiff, Nat.reduceAdd, Nat.reduceSub, Nat.reduceMul, Nat.reduceDiv, Nat.reduceMod, Nat.zero_add, Nat.add_zero, m0]
    exact hQ T (fun i hi => hT i (by omega) hi)) (fun u hu ih T x5 x6 x7 x8 x9 hT => by
    rw [if_pos (show u ≤ n by omega)]
    obtain ⟨i, hi⟩ : ∃ i, i = n - u := ⟨n - u, rfl⟩
    rw [← hi]
    have nxt : nI i + (-1) = (if u + 1 ≤ n then nI (n - (u + 1)) else -1) := by
      by_cases q : u + 1 ≤ n
      · rw [if_pos q, show i = (n - (u + 1)) + 1 by omega, ← nI_add]
        rw [Int32.add_assoc, show nI 1 + (-1 : Int32) = 0 by decide, Int32.add_zero]
      · rw [if_neg q, show i = 0 by omega]
        decide
    have xl := lp_dn (C := fun x => ∀ (T : Nat → Int32) x6 x7 x8 x9, (∀ i', n < i' + u → i' ≤ n → TT (σ.1 62) a b i' T) → (∀ x' y', x' < x → y' < 31 → T (961 * i + 31 * x' + y') = nI (dM (σ.1 62) a b i x' y')) → Rn 178 11 [some (.ref 61), some (.int (nI a)), some (.int (nI b)), some (.int (nI n)), some (.int (nI i)), some (.int (nI x)), x6, x7, x8, x9] [] (a_sc σ 71 T) Q) 31 (fun T x6 x7 x8 x9 hT hX => by
      rw [r_178_11]
      simp (disch := first | assumption | omega) only [r_178_0, r_178_1, r_178_5, r_178_8, r_178_9, r_178_13, r_178_15, r_178_18, r_178_19, r_178_23, r_178_25, r_178_28, r_178_30, r_178_31, r_178_34, r_178_36, r_178_38, r_178_39, r_178_42, r_178_44, r_178_47, r_178_48, r_178_50, r_178_51, r_178_55, r_178_56, r_178_59, r_178_61, r_178_62, r_178_63, r_178_66, r_178_68, r_178_69, r_178_72, r_178_75, r_178_76, r_178_77, r_178_78, r_178_80, r_178_82, r_178_84, r_178_86, r_178_89, r_178_91, r_178_93, r_178_95, r_178_98, r_178_100, r_178_103, r_178_105, r_178_107, r_178_110, r_178_113, r_178_114, r_178_117, r_178_119, r_178_121, r_178_123, r_178_126, r_178_128, r_178_129, r_178_132, r_178_135, r_178_138, r_178_141, r_178_144, r_178_147, f_add, o_bi, o_cge, o_cgt, o_clt, o_get, o_go, o_ial, o_ias, o_inc, o_ivs, o_ivv, o_lda, o_ldi, o_le, o_lt, o_pi, o_rv, o_sti, o_ldi, acR_nx, acR_re, acR_ca, acR_no, acR_if, Kc_i, Kc_n, a_lg, a_ls, a_kl, a_pk, a_sw, cw_n, cw_i, cw_l, cw_r, List.length_cons, List.length_nil, List.getElem?_cons_succ, List.getElem?_cons_zero, ↓reduceIte, decide_true, decide_false, Bool.false_eq_true, or_true, true_or, or_false, false_or, or_self, and_true, true_and, not_true_eq_false, not_false_eq_true, Nat.reduceEqDiff, Nat.reduceLT, Nat.reduceLeDiff, Nat.reduceAdd, Nat.reduceSub, Nat.reduceMul, Nat.reduceDiv, Nat.reduceMod, Nat.zero_add, Nat.add_zero, n_z, n_1, n_ltz, n_zlt, n_lt, n_eq, n_cl, n_in, nI_add, pk_mul, n_div, n_sub, nm_mod, nxt]
      refine ih T _ _ _ _ _ (fun i' h1 h2 => ?_)
      by_cases e : i' = i
      · rw [e]; exact fun x y hx hy => hX x y hx hy
      · exact hT i' (by omega) h2) (fun x hx ix T x6 x7 x8 x9 hT hX => by
      rw [r_178_11]
      have yl := lp_dn (C := fun y => ∀ (T : Nat → Int32) x7 x8 x9, (∀ i', n < i' + u → i' ≤ n → TT (σ.1 62) a b i' T) → (∀ x' y', x' < x → y' < 31 → T (961 * i + 31 * x' + y') = nI (dM (σ.1 62) a b i x' y')) → (∀ y', y' < y → T (961 * i + 31 * x + y') = nI (dM (σ.1 62) a b i x y')) → Rn 178 21 [some (.ref 61), some (.int (nI a)), some (.int (nI b)), some (.int (nI n)), some (.int (nI i)), some (.int (nI x)), some (.int (nI y)), x7, x8, x9] [] (a_sc σ 71 T) Q) 31 (fun T x7 x8 x9 hT hX hY => by
        rw [r_178_21]
        simp (disch := first | assumption | omega) only [r_178_0, r_178_1, r_178_5, r_178_8, r_178_9, r_178_13, r_178_15, r_178_18, r_178_19, r_178_23, r_178_25, r_178_28, r_178_30, r_178_31, r_178_34, r_178_36, r_178_38, r_178_39, r_178_42, r_178_44, r_178_47, r_178_48, r_178_50, r_178_51, r_178_55, r_178_56, r_178_59, r_178_61, r_178_62, r_178_63, r_178_66, r_178_68, r_178_69, r_178_72, r_178_75, r_178_76, r_178_77, r_178_78, r_178_80, r_178_82, r_178_84, r_178_86, r_178_89, r_178_91, r_178_93, r_178_95, r_178_98, r_178_100, r_178_103, r_178_105, r_178_107, r_178_110, r_178_113, r_178_114, r_178_117, r_178_119, r_178_121, r_178_123, r_178_126, r_178_128, r_178_129, r_178_132, r_178_135, r_178_138, r_178_141, r_178_144, r_178_147, f_add, o_bi, o_cge, o_cgt, o_clt, o_get, o_go, o_ial, o_ias, o_inc, o_ivs, o_ivv, o_lda, o_ldi, o_le, o_lt, o_pi, o_rv, o_sti, o_ldi, acR_nx, acR_re, acR_ca, acR_no, acR_if, Kc_i, Kc_n, a_lg, a_ls, a_kl, a_pk, a_sw, cw_n, cw_i, cw_l, cw_r, List.length_cons, List.length_nil, List.getElem?_cons_succ, List.getElem?_cons_zero, ↓reduceIte, decide_true, decide_false, Bool.false_eq_true, or_true, true_or, or_false, false_or, or_self, and_true, true_and, not_true_eq_false, not_false_eq_true, Nat.reduceEqDiff, Nat.reduceLT, Nat.reduceLeDiff, Nat.reduceAdd, Nat.reduceSub, Nat.reduceMul, Nat.reduceDiv, Nat.reduceMod, Nat.zero_add, Nat.add_zero, n_z, n_1, n_ltz, n_zlt, n_lt, n_eq, n_cl, n_in, nI_add, pk_mul, n_div, n_sub, nm_mod]
        refine ix T _ _ _ _ hT (fun x' y' h1 h2 => ?_)
        by_cases e : x' = x
        · rw [e]; exact hY y' h2
        · exact hX x' y' (by omega) h2) (fun y hy iy T x7 x8 x9 hT hX hY => by
        have mc := m_cell hv ha hb (i := i) (by omega) (by rw [hn]; exact hG) (T := T) (fun h => hT (i + 1) (by omega) (by omega)) hx hy x7 x8 x9 Q
        rw [hn] at mc
        refine mc (fun x7 x8 x9 => ?_)
        refine iy _ _ _ _ (fun i' h1 h2 x' y' h3 h4 => ?_) (fun x' y' h1 h2 => ?_) (fun y' h1 => ?_)
        · rw [ud_1, if_neg (by omega)]; exact hT i' h1 h2 x' y' h3 h4
        · rw [ud_1, if_neg (by omega)]; exact hX x' y' h1 h2
        · rw [ud_1]
          by_cases e : y' = y
          · rw [if_pos (by omega), e]
          · rw [if_neg (by omega)]; exact hY y' (by omega))
      simp (disch := first | assumption | omega) only [r_178_0, r_178_1, r_178_5, r_178_8, r_178_9, r_178_13, r_178_15, r_178_18, r_178_19, r_178_23, r_178_25, r_178_28, r_178_30, r_178_31, r_178_34, r_178_36, r_178_38, r_178_39, r_178_42, r_178_44, r_178_47, r_178_48, r_178_50, r_178_51, r_178_55, r_178_56, r_178_59, r_178_61, r_178_62, r_178_63, r_178_66, r_178_68, r_178_69, r_178_72, r_178_75, r_178_76, r_178_77, r_178_78, r_178_80, r_178_82, r_178_84, r_178_86, r_178_89, r_178_91, r_178_93, r_178_95, r_178_98, r_178_100, r_178_103, r_178_105, r_178_107, r_178_110, r_178_113, r_178_114, r_178_117, r_178_119, r_178_121, r_178_123, r_178_126, r_178_128, r_178_129, r_178_132, r_178_135, r_178_138, r_178_141, r_178_144, r_178_147, f_add, o_bi, o_cge, o_cgt, o_clt, o_get, o_go, o_ial, o_ias, o_inc, o_ivs, o_ivv, o_lda, o_ldi, o_le, o_lt, o_pi, o_rv, o_sti, o_ldi, acR_nx, acR_re, acR_ca, acR_no, acR_if, Kc_i, Kc_n, a_lg, a_ls, a_kl, a_pk, a_sw, cw_n, cw_i, cw_l, cw_r, List.length_cons, List.length_nil, List.getElem?_cons_succ, List.getElem?_cons_zero, ↓reduceIte, decide_true, decide_false, Bool.false_eq_true, or_true, true_or, or_false, false_or, or_self, and_true, true_and, not_true_eq_false, not_false_eq_true, Nat.reduceEqDiff, Nat.reduceLT, Nat.reduceLeDiff, Nat.reduceAdd, Nat.reduceSub, Nat.reduceMul, Nat.reduceDiv, Nat.reduceMod, Nat.zero_add, Nat.add_zero, n_z, n_1, n_ltz, n_zlt, n_lt, n_eq, n_cl, n_in, nI_add, pk_mul, n_div, n_sub, nm_mod, hx]
      exact yl T _ _ _ hT hX (fun y' h => by omega))
    rw [r_178_3]
    simp (disch := first | assumption | omega) only [r_178_0, r_178_1, r_178_5, r_178_8, r_178_9, r_178_13, r_178_15, r_178_18, r_178_19, r_178_23, r_178_25, r_178_28, r_178_30, r_178_31, r_178_34, r_178_36, r_178_38, r_178_39, r_178_42, r_178_44, r_178_47, r_178_48, r_178_50, r_178_51, r_178_55, r_178_56, r_178_59, r_178_61, r_178_62, r_178_63, r_178_66, r_178_68, r_178_69, r_178_72, r_178_75, r_178_76, r_178_77, r_178_78, r_178_80, r_178_82, r_178_84, r_178_86, r_178_89, r_178_91, r_178_93, r_178_95, r_178_98, r_178_100, r_178_103, r_178_105, r_178_107, r_178_110, r_178_113, r_178_114, r_178_117, r_178_119, r_178_121, r_178_123, r_178_126, r_178_128, r_178_129, r_178_132, r_178_135, r_178_138, r_178_141, r_178_144, r_178_147, f_add, o_bi, o_cge, o_cgt, o_clt, o_get, o_go, o_ial, o_ias, o_inc, o_ivs, o_ivv, o_lda, o_ldi, o_le, o_lt, o_pi, o_rv, o_sti, o_ldi, acR_nx, acR_re, acR_ca, acR_no, acR_if, Kc_i, Kc_n, a_lg, a_ls, a_kl, a_pk, a_sw, cw_n, cw_i, cw_l, cw_r, List.length_cons, List.length_nil, List.getElem?_cons_succ, List.getElem?_cons_zero, ↓reduceIte, decide_true, decide_false, Bool.false_eq_true, or_true, true_or, or_false, false_or, or_self, and_true, true_and, not_true_eq_false, not_false_eq_true, Nat.reduceEqDiff, Nat.reduceLT, Nat.reduceLeDiff, Nat.reduceAdd, Nat.reduceSub, Nat.reduceMul, Nat.reduceDiv, Nat.reduceMod, Nat.zero_add, Nat.add_zero, n_z, n_1, n_ltz, n_zlt, n_lt, n_eq, n_cl, n_in, nI_add, pk_mul, n_div, n_sub, nm_mod]
    exact xl T _ _ _ _ hT (fun x' y' h => by omega))
  have k0 := key (σ.1 71) none none none none none (fun i h1 h2 => by omega)
  rw [sc_id, if_pos (by omega), Nat.sub_zero] at k0
  simp (disch := first | assumption | omega) only [cl_178, r_178_0, r_178_1, r_178_5, r_178_8, r_178_9, r_178_13, r_178_15, r_178_18, r_178_19, r_178_23, r_178_25, r_178_28, r_178_30, r_178_31, r_178_34, r_178_36, r_178_38, r_178_39, r_178_42, r_178_44, r_178_47, r_178_48, r_178_50, r_178_51, r_178_55, r_178_56, r_178_59, r_178_61, r_178_62, r_178_63, r_178_66, r_178_68, r_178_69, r_178_72, r_178_75, r_178_76, r_178_77, r_178_78, r_178_80, r_178_82, r_178_84, r_178_86, r_178_89, r_178_91, r_178_93, r_178_95, r_178_98, r_178_100, r_178_103, r_178_105, r_178_107, r_178_110, r_178_113, r_178_114, r_178_117, r_178_119, r_178_121, r_178_123, r_178_126, r_178_128, r_178_129, r_178_132, r_178_135, r_178_138, r_178_141, r_178_144, r_178_147, f_add, o_bi, o_cge, o_cgt, o_clt, o_get, o_go, o_ial, o_ias, o_inc, o_ivs, o_ivv, o_lda, o_ldi, o_le, o_lt, o_pi, o_rv, o_sti, acR_nx, acR_re, acR_ca, acR_no, acR_if, Kc_i, Kc_n, a_lg, a_ls, a_kl, a_pk, a_sw, cw_n, cw_i, cw_l, cw_r, List.length_cons, List.length_nil, List.getElem?_cons_succ, List.getElem?_cons_zero, ↓reduceIte, decide_true, decide_false, Bool.false_eq_true, or_true, true_or, or_false, false_or, or_self, and_true, true_and, not_true_eq_false, not_false_eq_true, Nat.reduceEqDiff, Nat.reduceLT, Nat.reduceLeDiff, Nat.reduceAdd, Nat.reduceSub, Nat.reduceMul, Nat.reduceDiv, Nat.reduceMod, Nat.zero_add, Nat.add_zero, n_z, n_1, n_ltz, n_zlt, n_lt, n_eq, n_cl, n_in, nI_add, pk_mul, n_div, n_sub, nm_mod]
  exact k0
