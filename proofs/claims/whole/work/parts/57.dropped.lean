/-! dropped; what is law without some knots -/
def T5 (σ τ : a_HP) : Prop := τ.2 = σ.2 ∧ ∀ a, a < 18 ∨ 22 < a → τ.1 a = σ.1 a
theorem T5_r (σ : a_HP) : T5 σ σ := ⟨rfl, fun _ _ => rfl⟩
theorem T5_sc {σ τ : a_HP} (h : T5 σ τ) {b : Nat} (hb : 18 ≤ b ∧ b ≤ 22) (g : Nat → Int32) : T5 σ (a_sc τ b g) := ⟨h.1, fun a ha => by rw [sc_1, if_neg (by omega)]; exact h.2 a ha⟩
theorem T5_take {σ τ : a_HP} (h : T5 σ τ) : T5 σ (hTake τ 18 1) := by
  unfold hTake
  exact T5_sc (T5_sc (T5_sc (T5_sc (T5_sc h (by omega) _) (by omega) _) (by omega) _) (by omega) _) (by omega) _
theorem iS_T5 {N : Nat} {σ τ : a_HP} (h : iS N σ 1 6 8 (σ.1 62)) (hT : T5 σ τ) : iS N τ 1 6 8 (τ.1 62) := by
  unfold iS at h ⊢
  simp only [hT.2 1 (by omega), hT.2 2 (by omega), hT.2 3 (by omega), hT.2 4 (by omega), hT.2 5 (by omega), hT.2 6 (by omega), hT.2 7 (by omega), hT.2 8 (by omega), hT.2 9 (by omega), hT.2 10 (by omega), hT.2 11 (by omega), hT.2 62 (by omega), Nat.reduceAdd] at h ⊢
  exact h
theorem Inv_T5 {N : Nat} {σ τ : a_HP} (h : Inv N σ) (hT : T5 σ τ) : Inv N τ :=
  Inv_keep h (fun a h1 _ _ => hT.2 a (by omega)) (by rw [hT.2 13 (by omega)]) (fun a h1 _ => hT.2 a (by omega)) (hT.2 62 (by omega)) (fun a h1 _ => hT.2 a (by omega)) (by rw [hT.2 61 (by omega)]) (by rw [hT.1]) (by rw [hT.1]) (by rw [hT.1])
def wo (st : Nat → Int32) (S : Int32) (k : Nat) : Int32 := if S >>> (nI k &&& 31) &&& nI 1 = 0 then st k else nI 0
def nW (f : Nat → Int32) (c : Nat) (S : Int32) : Bool := decide (pC (f 0) (fun j => f (4 + j)) (wo (fun j => f (20 + j)) S) c < f (52 + c))
theorem c_lawW {N : Nat} {σ : a_HP} (h : iS N σ 1 6 8 (σ.1 62)) {c : Nat} (hc : c < 9) (S : Int32) {τ : a_HP} (hT : T5 σ τ) (Q : Option Value → a_HP → Prop) (hQ : ∀ τ', T5 σ τ' → Q (some (.int (if nW (σ.1 62) c S = true then nI 0 else nI 1))) τ') : Cl 107 [.ref 0, .int (nI c), .int S] τ Q := by
  have hR := tRow_0 (iS_T5 h hT)
  have hT' := T5_take hT
  rw [hT.2 62 (by omega)] at hR
  generalize hτ : hTake τ 18 1 = τ1 at *
  generalize hf : σ.1 62 = f at *
  have key := lp_dn (C := fun k => ∀ G : Nat → Int32, (∀ j, j < 16 → G j = if j < k then wo (fun j => f (20 + j)) S j else f (20 + j)) → Rn 107 13 [some (.ref 0), some (.int (nI c)), some (.int S), some (.int (nI k))] [] (a_sc τ1 20 G) Q) 16 (fun G hG => by
    rw [r_107_13]
    have e : pC (τ1.1 18 0) (τ1.1 19) G c = pC (f 0) (fun j => f (4 + j)) (wo (fun j => f (20 + j)) S) c := pC_c hR.1 hR.2.1 (fun j hj => by rw [hG j hj, if_pos hj]) hc
    have e2 := hR.2.2.2 c hc
    have := hQ _ (T5_sc hT' (b := 20) (by omega) G)
    unfold nW at this
    by_cases q : pC (f 0) (fun j => f (4 + j)) (wo (fun j => f (20 + j)) S) c < f (52 + c)
    · simp (disch := first | assumption | omega) only [r_107_0, r_107_1, r_107_4, r_107_5, r_107_8, r_107_11, r_107_12, r_107_14, r_107_16, r_107_19, r_107_20, r_107_21, r_107_22, r_107_23, r_107_24, r_107_27, r_107_28, r_107_31, r_107_34, r_107_35, r_107_36, r_107_37, r_107_40, r_107_43, r_107_44, r_107_47, r_107_48, r_107_51, f_and, f_shr, o_bi, o_cge, o_eq, o_get, o_go, o_ias, o_inc, o_ivv, o_lda, o_ldi, o_pi, o_rz, o_sti, acR_nx, acR_re, acR_ca, acR_no, acR_if, Kc_i, Kc_n, a_lg, a_ls, a_kl, a_pk, a_sw, cw_n, cw_i, cw_l, cw_r, List.length_cons, List.length_nil, List.getElem?_cons_succ, List.getElem?_cons_zero, ↓reduceIte, decide_true, decide_false, Bool.false_eq_true, or_true, true_or, or_false, false_or, or_self, and_true, true_and, not_true_eq_false, not_false_eq_true, Nat.reduceEqDiff, Nat.reduceLT, Nat.reduceLeDiff, Nat.reduceAdd, Nat.reduceSub, Nat.reduceMul, Nat.reduceDiv, Nat.reduceMod, Nat.zero_add, Nat.add_zero, n_z, n_1, n_ltz, n_zlt, n_lt, n_eq, n_cl, n_in, nI_add, pk_mul, n_div, n_sub, nm_mod, ly_0, ly_18, c_isLaw aN_18, sc_1, e, e2, q]
      rw [decide_eq_true q, if_pos rfl] at this
      exact this
    · simp (disch := first | assumption | omega) only [r_107_0, r_107_1, r_107_4, r_107_5, r_107_8, r_107_11, r_107_12, r_107_14, r_107_16, r_107_19, r_107_20, r_107_21, r_107_22, r_107_23, r_107_24, r_107_27, r_107_28, r_107_31, r_107_34, r_107_35, r_107_36, r_107_37, r_107_40, r_107_43, r_107_44, r_107_47, r_107_48, r_107_51, f_and, f_shr, o_bi, o_cge, o_eq, o_get, o_go, o_ias, o_inc, o_ivv, o_lda, o_ldi, o_pi, o_rz, o_sti, acR_nx, acR_re, acR_ca, acR_no, acR_if, Kc_i, Kc_n, a_lg, a_ls, a_kl, a_pk, a_sw, cw_n, cw_i, cw_l, cw_r, List.length_cons, List.length_nil, List.getElem?_cons_succ, List.getElem?_cons_zero, ↓reduceIte, decide_true, decide_false, Bool.false_eq_true, or_true, true_or, or_false, false_or, or_self, and_true, true_and, not_true_eq_false, not_false_eq_true, Nat.reduceEqDiff, Nat.reduceLT, Nat.reduceLeDiff, Nat.reduceAdd, Nat.reduceSub, Nat.reduceMul, Nat.reduceDiv, Nat.reduceMod, Nat.zero_add, Nat.add_zero, n_z, n_1, n_ltz, n_zlt, n_lt, n_eq, n_cl, n_in, nI_add, pk_mul, n_div, n_sub, nm_mod, ly_0, ly_18, c_isLaw aN_18, sc_1, e, e2, q]
      rw [decide_eq_false q, if_neg (by decide)] at this
      exact this) (fun k hk ih G hG => by
    rw [r_107_13]
    by_cases q : S >>> (nI k &&& 31) &&& nI 1 = 0
    · simp (disch := first | assumption | omega) only [r_107_0, r_107_1, r_107_4, r_107_5, r_107_8, r_107_11, r_107_12, r_107_14, r_107_16, r_107_19, r_107_20, r_107_21, r_107_22, r_107_23, r_107_24, r_107_27, r_107_28, r_107_31, r_107_34, r_107_35, r_107_36, r_107_37, r_107_40, r_107_43, r_107_44, r_107_47, r_107_48, r_107_51, f_and, f_shr, o_bi, o_cge, o_eq, o_get, o_go, o_ias, o_inc, o_ivv, o_lda, o_ldi, o_pi, o_rz, o_sti, acR_nx, acR_re, acR_ca, acR_no, acR_if, Kc_i, Kc_n, a_lg, a_ls, a_kl, a_pk, a_sw, cw_n, cw_i, cw_l, cw_r, List.length_cons, List.length_nil, List.getElem?_cons_succ, List.getElem?_cons_zero, ↓reduceIte, decide_true, decide_false, Bool.false_eq_true, or_true, true_or, or_false, false_or, or_self, and_true, true_and, not_true_eq_false, not_false_eq_true, Nat.reduceEqDiff, Nat.reduceLT, Nat.reduceLeDiff, Nat.reduceAdd, Nat.reduceSub, Nat.reduceMul, Nat.reduceDiv, Nat.reduceMod, Nat.zero_add, Nat.add_zero, n_z, n_1, n_ltz, n_zlt, n_lt, n_eq, n_cl, n_in, nI_add, pk_mul, n_div, n_sub, nm_mod, hk, q]
      refine ih G (fun j hj => ?_)
      rw [hG j hj]
      by_cases z : j = k
      · subst z
        rw [if_neg (by omega), if_pos (by omega)]
        unfold wo
        rw [if_pos q]
      · by_cases z2 : j < k
        · rw [if_pos z2, if_pos (by omega)]
        · rw [if_neg z2, if_neg (by omega)]
    · simp (disch := first | assumption | omega) only [r_107_0, r_107_1, r_107_4, r_107_5, r_107_8, r_107_11, r_107_12, r_107_14, r_107_16, r_107_19, r_107_20, r_107_21, r_107_22, r_107_23, r_107_24, r_107_27, r_107_28, r_107_31, r_107_34, r_107_35, r_107_36, r_107_37, r_107_40, r_107_43, r_107_44, r_107_47, r_107_48, r_107_51, f_and, f_shr, o_bi, o_cge, o_eq, o_get, o_go, o_ias, o_inc, o_ivv, o_lda, o_ldi, o_pi, o_rz, o_sti, acR_nx, acR_re, acR_ca, acR_no, acR_if, Kc_i, Kc_n, a_lg, a_ls, a_kl, a_pk, a_sw, cw_n, cw_i, cw_l, cw_r, List.length_cons, List.length_nil, List.getElem?_cons_succ, List.getElem?_cons_zero, ↓reduceIte, decide_true, decide_false, Bool.false_eq_true, or_true, true_or, or_false, false_or, or_self, and_true, true_and, not_true_eq_false, not_false_eq_true, Nat.reduceEqDiff, Nat.reduceLT, Nat.reduceLeDiff, Nat.reduceAdd, Nat.reduceSub, Nat.reduceMul, Nat.reduceDiv, Nat.reduceMod, Nat.zero_add, Nat.add_zero, n_z, n_1, n_ltz, n_zlt, n_lt, n_eq, n_cl, n_in, nI_add, pk_mul, n_div, n_sub, nm_mod, ly_0, ly_18, ly_20, hk, q, wi_sc, sc_1, sc_sc]
      refine ih _ (fun j hj => ?_)
      rw [ud_1]
      by_cases z : j = k
      · subst z
        rw [if_pos rfl, if_pos (by omega)]
        unfold wo
        rw [if_neg q]
      · rw [if_neg z, hG j hj]
        by_cases z2 : j < k
        · rw [if_pos z2, if_pos (by omega)]
        · rw [if_neg z2, if_neg (by omega)])
  have k0 := key (τ1.1 20) (fun j hj => by rw [if_neg (by omega)]; exact hR.2.2.1 j hj)
  rw [sc_id] at k0
  simp (disch := first | assumption | omega) only [cl_107, r_107_0, r_107_1, r_107_4, r_107_5, r_107_8, r_107_11, r_107_12, r_107_14, r_107_16, r_107_19, r_107_20, r_107_21, r_107_22, r_107_23, r_107_24, r_107_27, r_107_28, r_107_31, r_107_34, r_107_35, r_107_36, r_107_37, r_107_40, r_107_43, r_107_44, r_107_47, r_107_48, r_107_51, f_and, f_shr, o_bi, o_cge, o_eq, o_get, o_go, o_ias, o_inc, o_ivv, o_lda, o_ldi, o_pi, o_rz, o_sti, acR_nx, acR_re, acR_ca, acR_no, acR_if, Kc_i, Kc_n, a_lg, a_ls, a_kl, a_pk, a_sw, cw_n, cw_i, cw_l, cw_r, List.length_cons, List.length_nil, List.getElem?_cons_succ, List.getElem?_cons_zero, ↓reduceIte, decide_true, decide_false, Bool.false_eq_true, or_true, true_or, or_false, false_or, or_self, and_true, true_and, not_true_eq_false, not_false_eq_true, Nat.reduceEqDiff, Nat.reduceLT, Nat.reduceLeDiff, Nat.reduceAdd, Nat.reduceSub, Nat.reduceMul, Nat.reduceDiv, Nat.reduceMod, Nat.zero_add, Nat.add_zero, n_z, n_1, n_ltz, n_zlt, n_lt, n_eq, n_cl, n_in, nI_add, pk_mul, n_div, n_sub, nm_mod, ly_0, ly_1, ly_18, c_take_18_1, hτ]
  exact k0
/-- the knots of some corners -/
def kbN (c m : Nat) : Nat → Nat
  | 0 => 0
  | i + 1 => if m.testBit i = true then kbN c m i + 2 ^ kA c i else kbN c m i
def bK (c m : Nat) : Nat → Nat → Bool
  | 0, _ => false
  | i + 1, k => bK c m i k || (m.testBit i && decide (kA c i = k))
theorem kb_or : ∀ c : Fin 9, ∀ m : Fin 16, ∀ i : Fin 4, m.val.testBit i.val = true → nI (kbN c.val m.val i.val) ||| nI 1 <<< (nI (kA c.val i.val) &&& 31) = nI (kbN c.val m.val (i.val + 1)) := by decide +kernel
theorem mb_bit : ∀ m : Fin 16, ∀ i : Fin 4, decide (nI m.val >>> (nI i.val &&& 31) &&& nI 1 = 0) = !m.val.testBit i.val := by decide +kernel
theorem kb_bit : ∀ c : Fin 9, ∀ m : Fin 16, ∀ k : Fin 16, decide (nI (kbN c.val m.val 4) >>> (nI k.val &&& 31) &&& nI 1 = 0) = !bK c.val m.val 4 k.val := by decide +kernel
theorem kb_lt : ∀ c : Fin 9, ∀ m : Fin 16, kbN c.val m.val 4 < 65536 := by decide +kernel
theorem kb_mono : ∀ c : Fin 9, ∀ m b : Fin 16, b.val < m.val → kbN c.val b.val 4 < kbN c.val m.val 4 := by decide +kernel
theorem kb_ok : ∀ c : Fin 9, ∀ m : Fin 16, okB 5 (kbN c.val m.val 4) = true ∧ pcN 5 (kbN c.val m.val 4) = pcN 5 m.val ∧ bcI (nI (kbN c.val m.val 4)) = nI (pcN 5 m.val) := by decide +kernel
theorem pc_le : ∀ m : Fin 16, pcN 5 m.val ≤ 4 := by decide +kernel
theorem kb_hole : ∀ c : Fin 9, ∀ m : Fin 16, ∀ i : Fin 4, m.val.testBit i.val = true → m.val - 2 ^ i.val < m.val ∧ pcN 5 (m.val - 2 ^ i.val) < pcN 5 m.val ∧ ∀ k : Fin 16, bK c.val (m.val - 2 ^ i.val) 4 k.val = (bK c.val m.val 4 k.val && !decide (kA c.val i.val = k.val)) := by decide +kernel
theorem m_bitP {m i : Nat} (hm : m < 16) (hi : i < 4) : (nI m >>> (nI i &&& 31) &&& nI 1 = 0) = (m.testBit i = false) := by
  have := mb_bit ⟨m, hm⟩ ⟨i, hi⟩
  apply propext
  constructor
  · intro q
    rw [decide_eq_true q] at this
    simpa using this.symm
  · intro q
    dsimp only at this
    rw [q] at this
    simpa using this
theorem c_knotBits {c m : Nat} (hc : c < 9) (hm : m < 16) (σ : a_HP) (Q : Option Value → a_HP → Prop) : Cl 105 [.int (nI c), .int (nI m)] σ Q = Q (some (.int (nI (kbN c m 4)))) σ := by
  have key := lp_up (P := fun i => Rn 105 4 [some (.int (nI c)), some (.int (nI m)), some (.int (nI (kbN c m i))), some (.int (nI i))] [] σ Q) 4 (fun i hi => by
    rw [r_105_4]
    by_cases q : m.testBit i = true
    · have q' : ¬ m.testBit i = false := by rw [q]; decide
      have ko := kb_or ⟨c, hc⟩ ⟨m, hm⟩ ⟨i, hi⟩ q
      dsimp only at ko
      simp (disch := first | assumption | omega) only [r_105_0, r_105_1, r_105_2, r_105_3, r_105_5, r_105_6, r_105_9, r_105_10, r_105_11, r_105_12, r_105_13, r_105_14, r_105_17, r_105_18, r_105_19, r_105_20, r_105_21, r_105_24, r_105_25, r_105_26, r_105_27, r_105_30, r_105_33, r_105_34, f_and, f_or, f_shl, f_shr, o_bi, o_cge, o_eq, o_go, o_inc, o_ivs, o_ldi, o_pi, o_ri, o_sti, acR_nx, acR_re, acR_ca, acR_no, acR_if, Kc_i, Kc_n, a_lg, a_ls, a_kl, a_pk, a_sw, cw_n, cw_i, cw_l, cw_r, List.length_cons, List.length_nil, List.getElem?_cons_succ, List.getElem?_cons_zero, ↓reduceIte, decide_true, decide_false, Bool.false_eq_true, or_true, true_or, or_false, false_or, or_self, and_true, true_and, not_true_eq_false, not_false_eq_true, Nat.reduceEqDiff, Nat.reduceLT, Nat.reduceLeDiff, Nat.reduceAdd, Nat.reduceSub, Nat.reduceMul, Nat.reduceDiv, Nat.reduceMod, Nat.zero_add, Nat.add_zero, n_z, n_1, n_ltz, n_zlt, n_lt, n_eq, n_cl, n_in, nI_add, pk_mul, n_div, n_sub, nm_mod, hi, m_bitP hm hi, q', c_knotAt hc hi, ko, Bool.true_eq_false]
    · have q' : m.testBit i = false := by simpa using q
      simp (disch := first | assumption | omega) only [r_105_0, r_105_1, r_105_2, r_105_3, r_105_5, r_105_6, r_105_9, r_105_10, r_105_11, r_105_12, r_105_13, r_105_14, r_105_17, r_105_18, r_105_19, r_105_20, r_105_21, r_105_24, r_105_25, r_105_26, r_105_27, r_105_30, r_105_33, r_105_34, f_and, f_or, f_shl, f_shr, o_bi, o_cge, o_eq, o_go, o_inc, o_ivs, o_ldi, o_pi, o_ri, o_sti, acR_nx, acR_re, acR_ca, acR_no, acR_if, Kc_i, Kc_n, a_lg, a_ls, a_kl, a_pk, a_sw, cw_n, cw_i, cw_l, cw_r, List.length_cons, List.length_nil, List.getElem?_cons_succ, List.getElem?_cons_zero, ↓reduceIte, decide_true, decide_false, Bool.false_eq_true, or_true, true_or, or_false, false_or, or_self, and_true, true_and, not_true_eq_false, not_false_eq_true, Nat.reduceEqDiff, Nat.reduceLT, Nat.reduceLeDiff, Nat.reduceAdd, Nat.reduceSub, Nat.reduceMul, Nat.reduceDiv, Nat.reduceMod, Nat.zero_add, Nat.add_zero, n_z, n_1, n_ltz, n_zlt, n_lt, n_eq, n_cl, n_in, nI_add, pk_mul, n_div, n_sub, nm_mod, hi, m_bitP hm hi, q', kbN, Bool.false_eq_true])
  simp (disch := first | assumption | omega) only [cl_105, r_105_0, r_105_1, r_105_2, r_105_3, r_105_5, r_105_6, r_105_9, r_105_10, r_105_11, r_105_12, r_105_13, r_105_14, r_105_17, r_105_18, r_105_19, r_105_20, r_105_21, r_105_24, r_105_25, r_105_26, r_105_27, r_105_30, r_105_33, r_105_34, f_and, f_or, f_shl, f_shr, o_bi, o_cge, o_eq, o_go, o_inc, o_ivs, o_ldi, o_pi, o_ri, o_sti, acR_nx, acR_re, acR_ca, acR_no, acR_if, Kc_i, Kc_n, a_lg, a_ls, a_kl, a_pk, a_sw, cw_n, cw_i, cw_l, cw_r, List.length_cons, List.length_nil, List.getElem?_cons_succ, List.getElem?_cons_zero, ↓reduceIte, decide_true, decide_false, Bool.false_eq_true, or_true, true_or, or_false, false_or, or_self, and_true, true_and, not_true_eq_false, not_false_eq_true, Nat.reduceEqDiff, Nat.reduceLT, Nat.reduceLeDiff, Nat.reduceAdd, Nat.reduceSub, Nat.reduceMul, Nat.reduceDiv, Nat.reduceMod, Nat.zero_add, Nat.add_zero, n_z, n_1, n_ltz, n_zlt, n_lt, n_eq, n_cl, n_in, nI_add, pk_mul, n_div, n_sub, nm_mod]
  refine Eq.trans key ?_
  rw [r_105_4]
  simp (disch := first | assumption | omega) only [r_105_0, r_105_1, r_105_2, r_105_3, r_105_5, r_105_6, r_105_9, r_105_10, r_105_11, r_105_12, r_105_13, r_105_14, r_105_17, r_105_18, r_105_19, r_105_20, r_105_21, r_105_24, r_105_25, r_105_26, r_105_27, r_105_30, r_105_33, r_105_34, f_and, f_or, f_shl, f_shr, o_bi, o_cge, o_eq, o_go, o_inc, o_ivs, o_ldi, o_pi, o_ri, o_sti, acR_nx, acR_re, acR_ca, acR_no, acR_if, Kc_i, Kc_n, a_lg, a_ls, a_kl, a_pk, a_sw, cw_n, cw_i, cw_l, cw_r, List.length_cons, List.length_nil, List.getElem?_cons_succ, List.getElem?_cons_zero, ↓reduceIte, decide_true, decide_false, Bool.false_eq_true, or_true, true_or, or_false, false_or, or_self, and_true, true_and, not_true_eq_false, not_false_eq_true, Nat.reduceEqDiff, Nat.reduceLT, Nat.reduceLeDiff, Nat.reduceAdd, Nat.reduceSub, Nat.reduceMul, Nat.reduceDiv, Nat.reduceMod, Nat.zero_add, Nat.add_zero, n_z, n_1, n_ltz, n_zlt, n_lt, n_eq, n_cl, n_in, nI_add, pk_mul, n_div, n_sub, nm_mod]
def nL (f : Nat → Int32) (c m : Nat) : Bool := decide (pC (f 0) (fun j => f (4 + j)) (fun k => if bK c m 4 k = true then nI 0 else f (20 + k)) c < f (52 + c))
theorem nW_nL (f : Nat → Int32) {c m : Nat} (hc : c < 9) (hm : m < 16) : nW f c (nI (kbN c m 4)) = nL f c m := by
  unfold nW nL
  have : pC (f 0) (fun j => f (4 + j)) (wo (fun j => f (20 + j)) (nI (kbN c m 4))) c = pC (f 0) (fun j => f (4 + j)) (fun k => if bK c m 4 k = true then nI 0 else f (20 + k)) c := pC_c rfl (fun _ _ => rfl) (fun k hk => by
    have := kb_bit ⟨c, hc⟩ ⟨m, hm⟩ ⟨k, hk⟩
    dsimp only at this
    unfold wo
    by_cases q : nI (kbN c m 4) >>> (nI k &&& 31) &&& nI 1 = 0
    · rw [decide_eq_true q] at this
      rw [if_pos q, if_neg (by rw [Bool.eq_not_of_ne (show bK c m 4 k ≠ true by intro z; rw [z] at this; cases this)]; decide)]
    · rw [decide_eq_false q] at this
      rw [if_neg q, if_pos (by cases z : bK c m 4 k; rw [z] at this; cases this; rfl)]) hc
  rw [this]
def cB (L : Nat → Bool) : Nat → Nat
  | 0 => 16
  | m + 1 => if (cB L m = 16 ∨ pcN 5 m < pcN 5 (cB L m)) ∧ L m = true then m else cB L m
def mB (L A : Nat → Bool) : Nat → Nat
  | 0 => 16
  | m + 1 => if A m = true ∧ (mB L A m = 16 ∨ pcN 5 m < pcN 5 (mB L A m)) ∧ L m = true then m else mB L A m
theorem cB_lt (L : Nat → Bool) : ∀ m, cB L m = 16 ∨ cB L m < m
  | 0 => Or.inl rfl
  | m + 1 => by
    simp only [cB]
    by_cases q : (cB L m = 16 ∨ pcN 5 m < pcN 5 (cB L m)) ∧ L m = true
    · rw [if_pos q]; right; omega
    · rw [if_neg q]
      rcases cB_lt L m with h | h
      · exact Or.inl h
      · right; omega
theorem cB_min (L : Nat → Bool) : ∀ m, m ≤ 16 → ∀ j, j < m → L j = true → cB L m ≠ 16 ∧ pcN 5 (cB L m) ≤ pcN 5 j
  | 0, _, j, hj, _ => by omega
  | m + 1, hm, j, hj, hL => by
    simp only [cB]
    by_cases q : (cB L m = 16 ∨ pcN 5 m < pcN 5 (cB L m)) ∧ L m = true
    · rw [if_pos q]
      refine ⟨by omega, ?_⟩
      by_cases z : j = m
      · rw [z]; exact Nat.le_refl _
      · have := cB_min L m (by omega) j (by omega) hL
        rcases q.1 with w | w
        · exact absurd w this.1
        · omega
    · rw [if_neg q]
      by_cases z : j = m
      · subst z
        have q2 : ¬ (cB L j = 16 ∨ pcN 5 j < pcN 5 (cB L j)) := fun w => q ⟨w, hL⟩
        exact ⟨fun w => q2 (Or.inl w), by have : ¬ pcN 5 j < pcN 5 (cB L j) := fun w => q2 (Or.inr w); omega⟩
      · exact cB_min L m (by omega) j (by omega) hL
theorem mB_cB (L A : Nat → Bool) (hA : ∀ m, m < 16 → L m = true → A m = false → ∃ j, j < m ∧ L j = true ∧ pcN 5 j < pcN 5 m) : ∀ m, m ≤ 16 → mB L A m = cB L m
  | 0, _ => rfl
  | m + 1, hm => by
    simp only [mB, cB]
    rw [mB_cB L A hA m (by omega)]
    by_cases q : (cB L m = 16 ∨ pcN 5 m < pcN 5 (cB L m)) ∧ L m = true
    · rw [if_pos q]
      cases z : A m with
      | true => rw [if_pos ⟨rfl, q⟩]
      | false =>
        exfalso
        obtain ⟨j, h1, h2, h3⟩ := hA m (by omega) q.2 z
        have := cB_min L m (by omega) j h1 h2
        rcases q.1 with w | w
        · exact this.1 w
        · omega
    · rw [if_neg q, if_neg (fun w => q w.2)]
def bI (c b : Nat) : Int32 := if b = 16 then -1 else nI (kbN c b 4)
theorem c_dropped {N : Nat} {σ : a_HP} (h : iS N σ 1 6 8 (σ.1 62)) {c : Nat} (hc : c < 9) (hl : ¬ pC (σ.1 1 0) (σ.1 2) (σ.1 3) c < σ.1 5 c) (Q : Option Value → a_HP → Prop) (hQ : ∀ τ, T5 σ τ → Q (some (.int (bI c (cB (nL (σ.1 62) c) 16)))) τ) : Cl 68 [.ref 0, .int (nI c)] σ Q := by
  have key := lp_dn (C := fun m => ∀ (τ : a_HP) x4 x5, T5 σ τ → Rn 68 29 [some (.ref 0), some (.int (nI c)), some (.int (bI c (cB (nL (σ.1 62) c) m))), some (.int (nI m)), x4, x5] [] τ Q) 16 (fun τ x4 x5 hT => by
    rw [r_68_29]
    simp (disch := first | assumption | omega) only [r_68_0, r_68_1, r_68_4, r_68_7, r_68_8, r_68_11, r_68_12, r_68_13, r_68_16, r_68_17, r_68_20, r_68_23, r_68_24, r_68_25, r_68_26, r_68_27, r_68_28, r_68_30, r_68_32, r_68_35, r_68_36, r_68_37, r_68_40, r_68_42, r_68_43, r_68_44, r_68_47, r_68_49, r_68_52, r_68_53, r_68_56, r_68_59, r_68_60, r_68_63, r_68_64, r_68_66, r_68_68, r_68_71, r_68_72, r_68_73, r_68_75, r_68_78, r_68_81, r_68_83, r_68_84, r_68_87, r_68_90, r_68_91, o_ceq, o_cge, o_eq, o_get, o_go, o_inc, o_ivs, o_ivv, o_lda, o_ldi, o_ne, o_pi, o_ri, o_sti, acR_nx, acR_re, acR_ca, acR_no, acR_if, Kc_i, Kc_n, a_lg, a_ls, a_kl, a_pk, a_sw, cw_n, cw_i, cw_l, cw_r, List.length_cons, List.length_nil, List.getElem?_cons_succ, List.getElem?_cons_zero, ↓reduceIte, decide_true, decide_false, Bool.false_eq_true, or_true, true_or, or_false, false_or, or_self, and_true, true_and, not_true_eq_false, not_false_eq_true, Nat.reduceEqDiff, Nat.reduceLT, Nat.reduceLeDiff, Nat.reduceAdd, Nat.reduceSub, Nat.reduceMul, Nat.reduceDiv, Nat.reduceMod, Nat.zero_add, Nat.add_zero, n_z, n_1, n_ltz, n_zlt, n_lt, n_eq, n_cl, n_in, nI_add, pk_mul, n_div, n_sub, nm_mod]
    exact hQ τ hT) (fun m hm ih τ x4 x5 hT => by
    rw [r_68_29]
    have kl := kb_lt ⟨c, hc⟩ ⟨m, hm⟩
    dsimp only at kl
    obtain ⟨-, -, kc⟩ := kb_ok ⟨c, hc⟩ ⟨m, hm⟩
    dsimp only at kc
    have pm := pc_le ⟨m, hm⟩
    dsimp only at pm
    simp only [cB] at ih
    have tail : (cB (nL (σ.1 62) c) m = 16 ∨ pcN 5 m < pcN 5 (cB (nL (σ.1 62) c) m)) → Rn 68 71 [some (.ref 0), some (.int (nI c)), some (.int (bI c (cB (nL (σ.1 62) c) m))), some (.int (nI m)), some (.int (nI (kbN c m 4))), some (.int (nI 1))] [] τ Q := by
      intro hf
      simp (disch := first | assumption | omega) only [r_68_0, r_68_1, r_68_4, r_68_7, r_68_8, r_68_11, r_68_12, r_68_13, r_68_16, r_68_17, r_68_20, r_68_23, r_68_24, r_68_25, r_68_26, r_68_27, r_68_28, r_68_30, r_68_32, r_68_35, r_68_36, r_68_37, r_68_40, r_68_42, r_68_43, r_68_44, r_68_47, r_68_49, r_68_52, r_68_53, r_68_56, r_68_59, r_68_60, r_68_63, r_68_64, r_68_66, r_68_68, r_68_71, r_68_72, r_68_73, r_68_75, r_68_78, r_68_81, r_68_83, r_68_84, r_68_87, r_68_90, r_68_91, o_ceq, o_cge, o_eq, o_get, o_go, o_inc, o_ivs, o_ivv, o_lda, o_ldi, o_ne, o_pi, o_ri, o_sti, acR_nx, acR_re, acR_ca, acR_no, acR_if, Kc_i, Kc_n, a_lg, a_ls, a_kl, a_pk, a_sw, cw_n, cw_i, cw_l, cw_r, List.length_cons, List.length_nil, List.getElem?_cons_succ, List.getElem?_cons_zero, ↓reduceIte, decide_true, decide_false, Bool.false_eq_true, or_true, true_or, or_false, false_or, or_self, and_true, true_and, not_true_eq_false, not_false_eq_true, Nat.reduceEqDiff, Nat.reduceLT, Nat.reduceLeDiff, Nat.reduceAdd, Nat.reduceSub, Nat.reduceMul, Nat.reduceDiv, Nat.reduceMod, Nat.zero_add, Nat.add_zero, n_z, n_1, n_ltz, n_zlt, n_lt, n_eq, n_cl, n_in, nI_add, pk_mul, n_div, n_sub, nm_mod]
      refine c_lawW h hc _ hT _ (fun τ' hT' => ?_)
      rw [nW_nL _ hc hm]
      cases q : nL (σ.1 62) c m with
      | true =>
        rw [if_pos ⟨hf, q⟩] at ih
        simp (disch := first | assumption | omega) only [r_68_0, r_68_1, r_68_4, r_68_7, r_68_8, r_68_11, r_68_12, r_68_13, r_68_16, r_68_17, r_68_20, r_68_23, r_68_24, r_68_25, r_68_26, r_68_27, r_68_28, r_68_30, r_68_32, r_68_35, r_68_36, r_68_37, r_68_40, r_68_42, r_68_43, r_68_44, r_68_47, r_68_49, r_68_52, r_68_53, r_68_56, r_68_59, r_68_60, r_68_63, r_68_64, r_68_66, r_68_68, r_68_71, r_68_72, r_68_73, r_68_75, r_68_78, r_68_81, r_68_83, r_68_84, r_68_87, r_68_90, r_68_91, o_ceq, o_cge, o_eq, o_get, o_go, o_inc, o_ivs, o_ivv, o_lda, o_ldi, o_ne, o_pi, o_ri, o_sti, acR_nx, acR_re, acR_ca, acR_no, acR_if, Kc_i, Kc_n, a_lg, a_ls, a_kl, a_pk, a_sw, cw_n, cw_i, cw_l, cw_r, List.length_cons, List.length_nil, List.getElem?_cons_succ, List.getElem?_cons_zero, ↓reduceIte, decide_true, decide_false, Bool.false_eq_true, or_true, true_or, or_false, false_or, or_self, and_true, true_and, not_true_eq_false, not_false_eq_true, Nat.reduceEqDiff, Nat.reduceLT, Nat.reduceLeDiff, Nat.reduceAdd, Nat.reduceSub, Nat.reduceMul, Nat.reduceDiv, Nat.reduceMod, Nat.zero_add, Nat.add_zero, n_z, n_1, n_ltz, n_zlt, n_lt, n_eq, n_cl, n_in, nI_add, pk_mul, n_div, n_sub, nm_mod]
        have := ih τ' (some (.int (nI (kbN c m 4)))) (some (.int (nI 1))) hT'
        rw [show bI c m = nI (kbN c m 4) by unfold bI; rw [if_neg (by omega)]] at this
        exact this
      | false =>
        rw [if_neg (by rw [q]; simp)] at ih
        simp (disch := first | assumption | omega) only [r_68_0, r_68_1, r_68_4, r_68_7, r_68_8, r_68_11, r_68_12, r_68_13, r_68_16, r_68_17, r_68_20, r_68_23, r_68_24, r_68_25, r_68_26, r_68_27, r_68_28, r_68_30, r_68_32, r_68_35, r_68_36, r_68_37, r_68_40, r_68_42, r_68_43, r_68_44, r_68_47, r_68_49, r_68_52, r_68_53, r_68_56, r_68_59, r_68_60, r_68_63, r_68_64, r_68_66, r_68_68, r_68_71, r_68_72, r_68_73, r_68_75, r_68_78, r_68_81, r_68_83, r_68_84, r_68_87, r_68_90, r_68_91, o_ceq, o_cge, o_eq, o_get, o_go, o_inc, o_ivs, o_ivv, o_lda, o_ldi, o_ne, o_pi, o_ri, o_sti, acR_nx, acR_re, acR_ca, acR_no, acR_if, Kc_i, Kc_n, a_lg, a_ls, a_kl, a_pk, a_sw, cw_n, cw_i, cw_l, cw_r, List.length_cons, List.length_nil, List.getElem?_cons_succ, List.getElem?_cons_zero, ↓reduceIte, decide_true, decide_false, Bool.false_eq_true, or_true, true_or, or_false, false_or, or_self, and_true, true_and, not_true_eq_false, not_false_eq_true, Nat.reduceEqDiff, Nat.reduceLT, Nat.reduceLeDiff, Nat.reduceAdd, Nat.reduceSub, Nat.reduceMul, Nat.reduceDiv, Nat.reduceMod, Nat.zero_add, Nat.add_zero, n_z, n_1, n_ltz, n_zlt, n_lt, n_eq, n_cl, n_in, nI_add, pk_mul, n_div, n_sub, nm_mod, Bool.false_eq_true]
        exact ih τ' _ _ hT'
    by_cases b16 : cB (nL (σ.1 62) c) m = 16
    · have eb : bI c (cB (nL (σ.1 62) c) m) = -1 := by unfold bI; rw [if_pos b16]
      have := tail (Or.inl b16)
      rw [eb] at this ⊢
      simp (disch := first | assumption | omega) only [r_68_0, r_68_1, r_68_4, r_68_7, r_68_8, r_68_11, r_68_12, r_68_13, r_68_16, r_68_17, r_68_20, r_68_23, r_68_24, r_68_25, r_68_26, r_68_27, r_68_28, r_68_30, r_68_32, r_68_35, r_68_36, r_68_37, r_68_40, r_68_42, r_68_43, r_68_44, r_68_47, r_68_49, r_68_52, r_68_53, r_68_56, r_68_59, r_68_60, r_68_63, r_68_64, r_68_66, r_68_68, r_68_72, r_68_73, r_68_75, r_68_78, r_68_81, r_68_83, r_68_84, r_68_87, r_68_90, r_68_91, o_ceq, o_cge, o_eq, o_get, o_go, o_inc, o_ivs, o_ivv, o_lda, o_ldi, o_ne, o_pi, o_ri, o_sti, acR_nx, acR_re, acR_ca, acR_no, acR_if, Kc_i, Kc_n, a_lg, a_ls, a_kl, a_pk, a_sw, cw_n, cw_i, cw_l, cw_r, List.length_cons, List.length_nil, List.getElem?_cons_succ, List.getElem?_cons_zero, ↓reduceIte, decide_true, decide_false, Bool.false_eq_true, or_true, true_or, or_false, false_or, or_self, and_true, true_and, not_true_eq_false, not_false_eq_true, Nat.reduceEqDiff, Nat.reduceLT, Nat.reduceLeDiff, Nat.reduceAdd, Nat.reduceSub, Nat.reduceMul, Nat.reduceDiv, Nat.reduceMod, Nat.zero_add, Nat.add_zero, n_z, n_1, n_ltz, n_zlt, n_lt, n_eq, n_cl, n_in, nI_add, pk_mul, n_div, n_sub, nm_mod, c_knotBits hc hm, hm]
      exact this
    · have bl : cB (nL (σ.1 62) c) m < 16 := by rcases cB_lt (nL (σ.1 62) c) m with z | z <;> omega
      have eb : bI c (cB (nL (σ.1 62) c) m) = nI (kbN c (cB (nL (σ.1 62) c) m) 4) := by unfold bI; rw [if_neg b16]
      have kl2 := kb_lt ⟨c, hc⟩ ⟨_, bl⟩
      obtain ⟨-, -, kc2⟩ := kb_ok ⟨c, hc⟩ ⟨_, bl⟩
      have pm2 := pc_le ⟨_, bl⟩
      dsimp only at kl2 kc2 pm2
      have ne : (nI (kbN c (cB (nL (σ.1 62) c) m) 4) = -1) = False := n_nm1 (by omega)
      by_cases q : pcN 5 m < pcN 5 (cB (nL (σ.1 62) c) m)
      · have := tail (Or.inr q)
        rw [eb] at this ⊢
        simp (disch := first | assumption | omega) only [r_68_0, r_68_1, r_68_4, r_68_7, r_68_8, r_68_11, r_68_12, r_68_13, r_68_16, r_68_17, r_68_20, r_68_23, r_68_24, r_68_25, r_68_26, r_68_27, r_68_28, r_68_30, r_68_32, r_68_35, r_68_36, r_68_37, r_68_40, r_68_42, r_68_43, r_68_44, r_68_47, r_68_49, r_68_52, r_68_53, r_68_56, r_68_59, r_68_60, r_68_63, r_68_64, r_68_66, r_68_68, r_68_72, r_68_73, r_68_75, r_68_78, r_68_81, r_68_83, r_68_84, r_68_87, r_68_90, r_68_91, o_ceq, o_cge, o_eq, o_get, o_go, o_inc, o_ivs, o_ivv, o_lda, o_ldi, o_ne, o_pi, o_ri, o_sti, acR_nx, acR_re, acR_ca, acR_no, acR_if, Kc_i, Kc_n, a_lg, a_ls, a_kl, a_pk, a_sw, cw_n, cw_i, cw_l, cw_r, List.length_cons, List.length_nil, List.getElem?_cons_succ, List.getElem?_cons_zero, ↓reduceIte, decide_true, decide_false, Bool.false_eq_true, or_true, true_or, or_false, false_or, or_self, and_true, true_and, not_true_eq_false, not_false_eq_true, Nat.reduceEqDiff, Nat.reduceLT, Nat.reduceLeDiff, Nat.reduceAdd, Nat.reduceSub, Nat.reduceMul, Nat.reduceDiv, Nat.reduceMod, Nat.zero_add, Nat.add_zero, n_z, n_1, n_ltz, n_zlt, n_lt, n_eq, n_cl, n_in, nI_add, pk_mul, n_div, n_sub, nm_mod, c_knotBits hc hm, hm, ne, c_bitCount, kc, kc2, q]
        exact this
      · rw [if_neg (fun w => w.1.elim b16 q)] at ih
        rw [eb] at ih ⊢
        simp (disch := first | assumption | omega) only [r_68_0, r_68_1, r_68_4, r_68_7, r_68_8, r_68_11, r_68_12, r_68_13, r_68_16, r_68_17, r_68_20, r_68_23, r_68_24, r_68_25, r_68_26, r_68_27, r_68_28, r_68_30, r_68_32, r_68_35, r_68_36, r_68_37, r_68_40, r_68_42, r_68_43, r_68_44, r_68_47, r_68_49, r_68_52, r_68_53, r_68_56, r_68_59, r_68_60, r_68_63, r_68_64, r_68_66, r_68_68, r_68_72, r_68_73, r_68_75, r_68_78, r_68_81, r_68_83, r_68_84, r_68_87, r_68_90, r_68_91, o_ceq, o_cge, o_eq, o_get, o_go, o_inc, o_ivs, o_ivv, o_lda, o_ldi, o_ne, o_pi, o_ri, o_sti, acR_nx, acR_re, acR_ca, acR_no, acR_if, Kc_i, Kc_n, a_lg, a_ls, a_kl, a_pk, a_sw, cw_n, cw_i, cw_l, cw_r, List.length_cons, List.length_nil, List.getElem?_cons_succ, List.getElem?_cons_zero, ↓reduceIte, decide_true, decide_false, Bool.false_eq_true, or_true, true_or, or_false, false_or, or_self, and_true, true_and, not_true_eq_false, not_false_eq_true, Nat.reduceEqDiff, Nat.reduceLT, Nat.reduceLeDiff, Nat.reduceAdd, Nat.reduceSub, Nat.reduceMul, Nat.reduceDiv, Nat.reduceMod, Nat.zero_add, Nat.add_zero, n_z, n_1, n_ltz, n_zlt, n_lt, n_eq, n_cl, n_in, nI_add, pk_mul, n_div, n_sub, nm_mod, c_knotBits hc hm, hm, ne, c_bitCount, kc, kc2, q]
        exact ih τ _ _ hT)
  have g1 : ¬ (c < 0 ∨ 8 < c) := by omega
  have k0 := key σ none none (T5_r σ)
  simp (disch := first | assumption | omega) only [cl_68, r_68_0, r_68_1, r_68_4, r_68_7, r_68_8, r_68_11, r_68_12, r_68_13, r_68_16, r_68_17, r_68_20, r_68_23, r_68_24, r_68_25, r_68_26, r_68_27, r_68_28, r_68_30, r_68_32, r_68_35, r_68_36, r_68_37, r_68_40, r_68_42, r_68_43, r_68_44, r_68_47, r_68_49, r_68_52, r_68_53, r_68_56, r_68_59, r_68_60, r_68_63, r_68_64, r_68_66, r_68_68, r_68_71, r_68_72, r_68_73, r_68_75, r_68_78, r_68_81, r_68_83, r_68_84, r_68_87, r_68_90, r_68_91, o_ceq, o_cge, o_eq, o_get, o_go, o_inc, o_ivs, o_ivv, o_lda, o_ldi, o_ne, o_pi, o_ri, o_sti, acR_nx, acR_re, acR_ca, acR_no, acR_if, Kc_i, Kc_n, a_lg, a_ls, a_kl, a_pk, a_sw, cw_n, cw_i, cw_l, cw_r, List.length_cons, List.length_nil, List.getElem?_cons_succ, List.getElem?_cons_zero, ↓reduceIte, decide_true, decide_false, Bool.false_eq_true, or_true, true_or, or_false, false_or, or_self, and_true, true_and, not_true_eq_false, not_false_eq_true, Nat.reduceEqDiff, Nat.reduceLT, Nat.reduceLeDiff, Nat.reduceAdd, Nat.reduceSub, Nat.reduceMul, Nat.reduceDiv, Nat.reduceMod, Nat.zero_add, Nat.add_zero, n_z, n_1, n_ltz, n_zlt, n_lt, n_eq, n_cl, n_in, nI_add, pk_mul, n_div, n_sub, nm_mod, ly_0, ly_1, c_isClause, g1, c_isLaw aN_1, hl]
  exact k0

/-! dropped: the reference -/
def aA (st : Nat → Int32) (c m : Nat) : Nat → Bool
  | 0 => true
  | i + 1 => if m.testBit i = true then aA st c m i && decide (¬ st (kA c i) = 0) else aA st c m i
def bV (b : Bool) : Int32 := if b = true then nI 1 else nI 0
theorem m_bitsK {c m : Nat} (hc : c < 9) (hm : m < 16) (σ : a_HP) (Q : Option Value → a_HP → Prop) : Cl 124 [.int (nI (kbN c m 4))] σ Q = Q (some (.int (nI (pcN 5 m)))) σ := by
  have kl := kb_lt ⟨c, hc⟩ ⟨m, hm⟩
  obtain ⟨k1, k2, -⟩ := kb_ok ⟨c, hc⟩ ⟨m, hm⟩
  dsimp only at kl k1 k2
  simp (disch := first | assumption | omega) only [cl_124, r_124_0, r_124_1, r_124_2, r_124_3, r_124_5, r_124_8, r_124_11, r_124_12, r_124_13, r_124_14, r_124_15, r_124_16, r_124_17, r_124_20, r_124_21, f_and, f_sub, o_bi, o_eq, o_go, o_inc, o_ldi, o_pi, o_ri, o_sti, acR_nx, acR_re, acR_ca, acR_no, acR_if, Kc_i, Kc_n, a_lg, a_ls, a_kl, a_pk, a_sw, cw_n, cw_i, cw_l, cw_r, List.length_cons, List.length_nil, List.getElem?_cons_succ, List.getElem?_cons_zero, ↓reduceIte, decide_true, decide_false, Bool.false_eq_true, or_true, true_or, or_false, false_or, or_self, and_true, true_and, not_true_eq_false, not_false_eq_true, Nat.reduceEqDiff, Nat.reduceLT, Nat.reduceLeDiff, Nat.reduceAdd, Nat.reduceSub, Nat.reduceMul, Nat.reduceDiv, Nat.reduceMod, Nat.zero_add, Nat.add_zero, n_z, n_1, n_ltz, n_zlt, n_lt, n_eq, n_cl, n_in, nI_add, pk_mul, n_div, n_sub, nm_mod]
  rw [m_bitsF _ _ _ 5 _ 0 k1 (by omega), k2, Nat.zero_add]
theorem m_dropped {N : Nat} {σ : a_HP} (hv : vN N (σ.1 62)) {c : Nat} (hc : c < 9) (hl : ¬ pC (σ.1 62 0) (fun j => σ.1 62 (4 + j)) (fun j => σ.1 62 (20 + j)) c < σ.1 62 (52 + c)) (hL0 : nL (σ.1 62) c 0 = false) (Q : Option Value → a_HP → Prop) (hQ : ∀ g, Q (some (.int (bI c (mB (nL (σ.1 62) c) (fun m => aA (fun j => σ.1 62 (20 + j)) c m 4) 16)))) (a_sc σ 64 g)) : Cl 172 [.ref 61, .int (nI c)] σ Q := by
  have vk := vKn_of hv
  have mi := m_isLaw aT_62 hc σ vk
  generalize hf : σ.1 62 = f at *
  generalize hLm : nL f c = L at *
  generalize hAm : (fun m => aA (fun j => f (20 + j)) c m 4) = A at *
  have mBl : ∀ m, mB L A m = 16 ∨ mB L A m < m := by
    intro m
    induction m with
    | zero => exact Or.inl rfl
    | succ m ih =>
      simp only [mB]
      by_cases q : A m = true ∧ (mB L A m = 16 ∨ pcN 5 m < pcN 5 (mB L A m)) ∧ L m = true
      · rw [if_pos q]; right; omega
      · rw [if_neg q]; omega
  have key := lp_dn (C := fun t => ∀ g x4 x5 x6 x7, Rn 172 29 [some (.ref 61), some (.int (nI c)), some (.int (bI c (mB L A (t + 1)))), some (.int (nI (t + 1))), x4, x5, x6, x7] [] (a_sc σ 64 g) Q) 15 (fun g x4 x5 x6 x7 => by
    rw [r_172_29]
    simp (disch := first | assumption | omega) only [r_172_0, r_172_1, r_172_4, r_172_7, r_172_8, r_172_11, r_172_12, r_172_13, r_172_16, r_172_17, r_172_20, r_172_23, r_172_24, r_172_25, r_172_26, r_172_27, r_172_28, r_172_30, r_172_32, r_172_35, r_172_36, r_172_39, r_172_40, r_172_42, r_172_43, r_172_45, r_172_46, r_172_50, r_172_51, r_172_54, r_172_55, r_172_57, r_172_60, r_172_62, r_172_63, r_172_65, r_172_68, r_172_71, r_172_73, r_172_76, r_172_77, r_172_80, r_172_82, r_172_84, r_172_85, r_172_86, r_172_89, r_172_90, r_172_93, r_172_94, r_172_96, r_172_98, r_172_99, r_172_101, r_172_102, r_172_103, r_172_105, r_172_106, r_172_109, r_172_111, r_172_113, r_172_114, r_172_115, r_172_116, r_172_119, r_172_122, r_172_123, r_172_124, r_172_127, r_172_129, r_172_132, r_172_133, r_172_136, r_172_139, r_172_141, r_172_144, r_172_145, r_172_148, r_172_151, r_172_153, r_172_154, r_172_157, r_172_158, r_172_161, r_172_162, r_172_164, r_172_166, r_172_169, r_172_171, r_172_174, r_172_175, r_172_178, r_172_179, r_172_182, r_172_185, r_172_187, r_172_190, r_172_191, r_172_192, r_172_195, r_172_198, r_172_199, f_add, f_or, f_shl, o_bi, o_ceq, o_cge, o_clt, o_cne, o_eq, o_get, o_go, o_ial, o_ias, o_inc, o_ivs, o_ivv, o_lda, o_ldi, o_le, o_ne, o_pi, o_ri, o_sti, acR_nx, acR_re, acR_ca, acR_no, acR_if, Kc_i, Kc_n, a_lg, a_ls, a_kl, a_pk, a_sw, cw_n, cw_i, cw_l, cw_r, List.length_cons, List.length_nil, List.getElem?_cons_succ, List.getElem?_cons_zero, ↓reduceIte, decide_true, decide_false, Bool.false_eq_true, or_true, true_or, or_false, false_or, or_self, and_true, true_and, not_true_eq_false, not_false_eq_true, Nat.reduceEqDiff, Nat.reduceLT, Nat.reduceLeDiff, Nat.reduceAdd, Nat.reduceSub, Nat.reduceMul, Nat.reduceDiv, Nat.reduceMod, Nat.zero_add, Nat.add_zero, n_z, n_1, n_ltz, n_zlt, n_lt, n_eq, n_cl, n_in, nI_add, pk_mul, n_div, n_sub, nm_mod]
    exact hQ g) (fun t ht ih g x4 x5 x6 x7 => by
    rw [r_172_29]
    have hm : t + 1 < 16 := by omega
    generalize hmm : t + 1 = m at *
    have ihs : mB L A (m + 1) = if A m = true ∧ (mB L A m = 16 ∨ pcN 5 m < pcN 5 (mB L A m)) ∧ L m = true then m else mB L A m := rfl
    rw [ihs] at ih
    have eA : A m = aA (fun j => f (20 + j)) c m 4 := by rw [← hAm]
    have eL : L m = nL f c m := by rw [← hLm]
    have em : bI c m = nI (kbN c m 4) := by unfold bI; rw [if_neg (by omega)]
    have kl := kb_lt ⟨c, hc⟩ ⟨m, hm⟩
    have pm := pc_le ⟨m, hm⟩
    dsimp only at kl pm
    have bls := mBl m
    generalize mB L A m = b at *
    simp (disch := first | assumption | omega) only [r_172_0, r_172_1, r_172_4, r_172_7, r_172_8, r_172_11, r_172_12, r_172_13, r_172_16, r_172_17, r_172_20, r_172_23, r_172_24, r_172_25, r_172_26, r_172_27, r_172_28, r_172_30, r_172_32, r_172_35, r_172_36, r_172_39, r_172_40, r_172_42, r_172_43, r_172_45, r_172_46, r_172_50, r_172_51, r_172_54, r_172_55, r_172_57, r_172_60, r_172_62, r_172_63, r_172_65, r_172_68, r_172_71, r_172_73, r_172_76, r_172_77, r_172_80, r_172_82, r_172_84, r_172_85, r_172_86, r_172_89, r_172_90, r_172_93, r_172_94, r_172_96, r_172_98, r_172_99, r_172_101, r_172_102, r_172_103, r_172_105, r_172_106, r_172_109, r_172_111, r_172_113, r_172_114, r_172_115, r_172_116, r_172_119, r_172_122, r_172_123, r_172_124, r_172_127, r_172_129, r_172_132, r_172_133, r_172_136, r_172_139, r_172_141, r_172_144, r_172_145, r_172_148, r_172_151, r_172_153, r_172_154, r_172_157, r_172_158, r_172_161, r_172_162, r_172_164, r_172_166, r_172_169, r_172_171, r_172_174, r_172_175, r_172_178, r_172_179, r_172_182, r_172_185, r_172_187, r_172_190, r_172_191, r_172_192, r_172_195, r_172_198, r_172_199, f_add, f_or, f_shl, o_bi, o_ceq, o_cge, o_clt, o_cne, o_eq, o_get, o_go, o_ial, o_ias, o_inc, o_ivs, o_ivv, o_lda, o_ldi, o_le, o_ne, o_pi, o_ri, o_sti, acR_nx, acR_re, acR_ca, acR_no, acR_if, Kc_i, Kc_n, a_lg, a_ls, a_kl, a_pk, a_sw, cw_n, cw_i, cw_l, cw_r, List.length_cons, List.length_nil, List.getElem?_cons_succ, List.getElem?_cons_zero, ↓reduceIte, decide_true, decide_false, Bool.false_eq_true, or_true, true_or, or_false, false_or, or_self, and_true, true_and, not_true_eq_false, not_false_eq_true, Nat.reduceEqDiff, Nat.reduceLT, Nat.reduceLeDiff, Nat.reduceAdd, Nat.reduceSub, Nat.reduceMul, Nat.reduceDiv, Nat.reduceMod, Nat.zero_add, Nat.add_zero, n_z, n_1, n_ltz, n_zlt, n_lt, n_eq, n_cl, n_in, nI_add, pk_mul, n_div, n_sub, nm_mod, hm, ly_61, m_layAside, sc_1, sc_sc, hf]
    have last : ∀ g x7, aRow f (fun k => if bK c m 4 k = true then nI 0 else f (20 + k)) g → Rn 172 48 [some (.ref 61), some (.int (nI c)), some (.int (bI c b)), some (.int (nI m)), some (.int (nI (kbN c m 4))), some (.int (bV (A m))), some (.int (nI 4)), x7] [] (a_sc σ 64 g) Q := by
      intro g x7 hg
      rw [r_172_48]
      have hvA := aRow_ok hv hg (fun j hj => by
        by_cases q : bK c m 4 j = true
        · rw [if_pos q]; exact ⟨0, by omega, rfl⟩
        · rw [if_neg q]; exact (hv.2.2.2.2.1 j hj).2.1)
      have mlA := m_isLaw aT_64 hc (a_sc σ 64 g) hvA
      have sA : (a_sc σ 64 g).1 64 = g := rfl
      have ep : pC (g 0) (fun j => g (4 + j)) (fun j => g (20 + j)) c = pC (f 0) (fun j => f (4 + j)) (fun k => if bK c m 4 k = true then nI 0 else f (20 + k)) c := pC_c hg.1 hg.2.1 hg.2.2.1 hc
      rw [sA, ep, hg.2.2.2 c hc] at mlA
      have ih1 := ih g
      have tail : (b = 16 ∨ pcN 5 m < pcN 5 b) → Rn 172 164 [some (.ref 61), some (.int (nI c)), some (.int (bI c b)), some (.int (nI m)), some (.int (nI (kbN c m 4))), some (.int (bV (A m))), some (.int (nI 1)), x7] [] (a_sc σ 64 g) Q := by
        intro hb
        cases q : A m with
        | false =>
          rw [if_neg (by rw [q]; simp)] at ih1
          simp (disch := first | assumption | omega) only [r_172_0, r_172_1, r_172_4, r_172_7, r_172_8, r_172_11, r_172_12, r_172_13, r_172_16, r_172_17, r_172_20, r_172_23, r_172_24, r_172_25, r_172_26, r_172_27, r_172_28, r_172_30, r_172_32, r_172_35, r_172_36, r_172_39, r_172_40, r_172_42, r_172_43, r_172_45, r_172_46, r_172_50, r_172_51, r_172_54, r_172_55, r_172_57, r_172_60, r_172_62, r_172_63, r_172_65, r_172_68, r_172_71, r_172_73, r_172_76, r_172_77, r_172_80, r_172_82, r_172_84, r_172_85, r_172_86, r_172_89, r_172_90, r_172_93, r_172_94, r_172_96, r_172_98, r_172_99, r_172_101, r_172_102, r_172_103, r_172_105, r_172_106, r_172_109, r_172_111, r_172_113, r_172_114, r_172_115, r_172_116, r_172_119, r_172_122, r_172_123, r_172_124, r_172_127, r_172_129, r_172_132, r_172_133, r_172_136, r_172_139, r_172_141, r_172_144, r_172_145, r_172_148, r_172_151, r_172_153, r_172_154, r_172_157, r_172_158, r_172_161, r_172_162, r_172_164, r_172_166, r_172_169, r_172_171, r_172_174, r_172_175, r_172_178, r_172_179, r_172_182, r_172_185, r_172_187, r_172_190, r_172_191, r_172_192, r_172_195, r_172_198, r_172_199, f_add, f_or, f_shl, o_bi, o_ceq, o_cge, o_clt, o_cne, o_eq, o_get, o_go, o_ial, o_ias, o_inc, o_ivs, o_ivv, o_lda, o_ldi, o_le, o_ne, o_pi, o_ri, o_sti, acR_nx, acR_re, acR_ca, acR_no, acR_if, Kc_i, Kc_n, a_lg, a_ls, a_kl, a_pk, a_sw, cw_n, cw_i, cw_l, cw_r, List.length_cons, List.length_nil, List.getElem?_cons_succ, List.getElem?_cons_zero, ↓reduceIte, decide_true, decide_false, Bool.false_eq_true, or_true, true_or, or_false, false_or, or_self, and_true, true_and, not_true_eq_false, not_false_eq_true, Nat.reduceEqDiff, Nat.reduceLT, Nat.reduceLeDiff, Nat.reduceAdd, Nat.reduceSub, Nat.reduceMul, Nat.reduceDiv, Nat.reduceMod, Nat.zero_add, Nat.add_zero, n_z, n_1, n_ltz, n_zlt, n_lt, n_eq, n_cl, n_in, nI_add, pk_mul, n_div, n_sub, nm_mod, bV]
          exact ih1 _ _ _ _
        | true =>
          by_cases q2 : pC (f 0) (fun j => f (4 + j)) (fun k => if bK c m 4 k = true then nI 0 else f (20 + k)) c < f (52 + c)
          · have : L m = true := by rw [eL]; exact decide_eq_true q2
            rw [if_pos ⟨q, hb, this⟩, em] at ih1
            simp (disch := first | assumption | omega) only [r_172_0, r_172_1, r_172_4, r_172_7, r_172_8, r_172_11, r_172_12, r_172_13, r_172_16, r_172_17, r_172_20, r_172_23, r_172_24, r_172_25, r_172_26, r_172_27, r_172_28, r_172_30, r_172_32, r_172_35, r_172_36, r_172_39, r_172_40, r_172_42, r_172_43, r_172_45, r_172_46, r_172_50, r_172_51, r_172_54, r_172_55, r_172_57, r_172_60, r_172_62, r_172_63, r_172_65, r_172_68, r_172_71, r_172_73, r_172_76, r_172_77, r_172_80, r_172_82, r_172_84, r_172_85, r_172_86, r_172_89, r_172_90, r_172_93, r_172_94, r_172_96, r_172_98, r_172_99, r_172_101, r_172_102, r_172_103, r_172_105, r_172_106, r_172_109, r_172_111, r_172_113, r_172_114, r_172_115, r_172_116, r_172_119, r_172_122, r_172_123, r_172_124, r_172_127, r_172_129, r_172_132, r_172_133, r_172_136, r_172_139, r_172_141, r_172_144, r_172_145, r_172_148, r_172_151, r_172_153, r_172_154, r_172_157, r_172_158, r_172_161, r_172_162, r_172_164, r_172_166, r_172_169, r_172_171, r_172_174, r_172_175, r_172_178, r_172_179, r_172_182, r_172_185, r_172_187, r_172_190, r_172_191, r_172_192, r_172_195, r_172_198, r_172_199, f_add, f_or, f_shl, o_bi, o_ceq, o_cge, o_clt, o_cne, o_eq, o_get, o_go, o_ial, o_ias, o_inc, o_ivs, o_ivv, o_lda, o_ldi, o_le, o_ne, o_pi, o_ri, o_sti, acR_nx, acR_re, acR_ca, acR_no, acR_if, Kc_i, Kc_n, a_lg, a_ls, a_kl, a_pk, a_sw, cw_n, cw_i, cw_l, cw_r, List.length_cons, List.length_nil, List.getElem?_cons_succ, List.getElem?_cons_zero, ↓reduceIte, decide_true, decide_false, Bool.false_eq_true, or_true, true_or, or_false, false_or, or_self, and_true, true_and, not_true_eq_false, not_false_eq_true, Nat.reduceEqDiff, Nat.reduceLT, Nat.reduceLeDiff, Nat.reduceAdd, Nat.reduceSub, Nat.reduceMul, Nat.reduceDiv, Nat.reduceMod, Nat.zero_add, Nat.add_zero, n_z, n_1, n_ltz, n_zlt, n_lt, n_eq, n_cl, n_in, nI_add, pk_mul, n_div, n_sub, nm_mod, ly_61, bV, mlA, q2]
            exact ih1 _ _ _ _
          · have : L m = false := by rw [eL]; exact decide_eq_false q2
            rw [if_neg (by rw [this]; simp)] at ih1
            simp (disch := first | assumption | omega) only [r_172_0, r_172_1, r_172_4, r_172_7, r_172_8, r_172_11, r_172_12, r_172_13, r_172_16, r_172_17, r_172_20, r_172_23, r_172_24, r_172_25, r_172_26, r_172_27, r_172_28, r_172_30, r_172_32, r_172_35, r_172_36, r_172_39, r_172_40, r_172_42, r_172_43, r_172_45, r_172_46, r_172_50, r_172_51, r_172_54, r_172_55, r_172_57, r_172_60, r_172_62, r_172_63, r_172_65, r_172_68, r_172_71, r_172_73, r_172_76, r_172_77, r_172_80, r_172_82, r_172_84, r_172_85, r_172_86, r_172_89, r_172_90, r_172_93, r_172_94, r_172_96, r_172_98, r_172_99, r_172_101, r_172_102, r_172_103, r_172_105, r_172_106, r_172_109, r_172_111, r_172_113, r_172_114, r_172_115, r_172_116, r_172_119, r_172_122, r_172_123, r_172_124, r_172_127, r_172_129, r_172_132, r_172_133, r_172_136, r_172_139, r_172_141, r_172_144, r_172_145, r_172_148, r_172_151, r_172_153, r_172_154, r_172_157, r_172_158, r_172_161, r_172_162, r_172_164, r_172_166, r_172_169, r_172_171, r_172_174, r_172_175, r_172_178, r_172_179, r_172_182, r_172_185, r_172_187, r_172_190, r_172_191, r_172_192, r_172_195, r_172_198, r_172_199, f_add, f_or, f_shl, o_bi, o_ceq, o_cge, o_clt, o_cne, o_eq, o_get, o_go, o_ial, o_ias, o_inc, o_ivs, o_ivv, o_lda, o_ldi, o_le, o_ne, o_pi, o_ri, o_sti, acR_nx, acR_re, acR_ca, acR_no, acR_if, Kc_i, Kc_n, a_lg, a_ls, a_kl, a_pk, a_sw, cw_n, cw_i, cw_l, cw_r, List.length_cons, List.length_nil, List.getElem?_cons_succ, List.getElem?_cons_zero, ↓reduceIte, decide_true, decide_false, Bool.false_eq_true, or_true, true_or, or_false, false_or, or_self, and_true, true_and, not_true_eq_false, not_false_eq_true, Nat.reduceEqDiff, Nat.reduceLT, Nat.reduceLeDiff, Nat.reduceAdd, Nat.reduceSub, Nat.reduceMul, Nat.reduceDiv, Nat.reduceMod, Nat.zero_add, Nat.add_zero, n_z, n_1, n_ltz, n_zlt, n_lt, n_eq, n_cl, n_in, nI_add, pk_mul, n_div, n_sub, nm_mod, ly_61, bV, mlA, q2]
            exact ih1 _ _ _ _
      by_cases b16 : b = 16
      · have eb : bI c b = -1 := by unfold bI; rw [if_pos b16]
        have := tail (Or.inl b16)
        rw [eb] at this ⊢
        simp (disch := first | assumption | omega) only [r_172_0, r_172_1, r_172_4, r_172_7, r_172_8, r_172_11, r_172_12, r_172_13, r_172_16, r_172_17, r_172_20, r_172_23, r_172_24, r_172_25, r_172_26, r_172_27, r_172_28, r_172_30, r_172_32, r_172_35, r_172_36, r_172_39, r_172_40, r_172_42, r_172_43, r_172_45, r_172_46, r_172_50, r_172_51, r_172_54, r_172_55, r_172_57, r_172_60, r_172_62, r_172_63, r_172_65, r_172_68, r_172_71, r_172_73, r_172_76, r_172_77, r_172_80, r_172_82, r_172_84, r_172_85, r_172_86, r_172_89, r_172_90, r_172_93, r_172_94, r_172_96, r_172_98, r_172_99, r_172_101, r_172_102, r_172_103, r_172_105, r_172_106, r_172_109, r_172_111, r_172_113, r_172_114, r_172_115, r_172_116, r_172_119, r_172_122, r_172_123, r_172_124, r_172_127, r_172_129, r_172_132, r_172_133, r_172_136, r_172_139, r_172_141, r_172_144, r_172_145, r_172_148, r_172_151, r_172_153, r_172_154, r_172_157, r_172_158, r_172_161, r_172_162, r_172_166, r_172_169, r_172_171, r_172_174, r_172_175, r_172_178, r_172_179, r_172_182, r_172_185, r_172_187, r_172_190, r_172_191, r_172_192, r_172_195, r_172_198, r_172_199, f_add, f_or, f_shl, o_bi, o_ceq, o_cge, o_clt, o_cne, o_eq, o_get, o_go, o_ial, o_ias, o_inc, o_ivs, o_ivv, o_lda, o_ldi, o_le, o_ne, o_pi, o_ri, o_sti, acR_nx, acR_re, acR_ca, acR_no, acR_if, Kc_i, Kc_n, a_lg, a_ls, a_kl, a_pk, a_sw, cw_n, cw_i, cw_l, cw_r, List.length_cons, List.length_nil, List.getElem?_cons_succ, List.getElem?_cons_zero, ↓reduceIte, decide_true, decide_false, Bool.false_eq_true, or_true, true_or, or_false, false_or, or_self, and_true, true_and, not_true_eq_false, not_false_eq_true, Nat.reduceEqDiff, Nat.reduceLT, Nat.reduceLeDiff, Nat.reduceAdd, Nat.reduceSub, Nat.reduceMul, Nat.reduceDiv, Nat.reduceMod, Nat.zero_add, Nat.add_zero, n_z, n_1, n_ltz, n_zlt, n_lt, n_eq, n_cl, n_in, nI_add, pk_mul, n_div, n_sub, nm_mod]
        exact this
      · have bl : b < 16 := by omega
        have eb : bI c b = nI (kbN c b 4) := by unfold bI; rw [if_neg b16]
        have kl2 := kb_lt ⟨c, hc⟩ ⟨_, bl⟩
        have pm2 := pc_le ⟨_, bl⟩
        have km := kb_mono ⟨c, hc⟩ ⟨m, hm⟩ ⟨b, bl⟩ (by show b < m; omega)
        dsimp only at kl2 pm2 km
        have ne : (nI (kbN c b 4) = -1) = False := n_nm1 (by omega)
        by_cases q : pcN 5 m < pcN 5 b
        · have := tail (Or.inr q)
          rw [eb] at this ⊢
          simp (disch := first | assumption | omega) only [r_172_0, r_172_1, r_172_4, r_172_7, r_172_8, r_172_11, r_172_12, r_172_13, r_172_16, r_172_17, r_172_20, r_172_23, r_172_24, r_172_25, r_172_26, r_172_27, r_172_28, r_172_30, r_172_32, r_172_35, r_172_36, r_172_39, r_172_40, r_172_42, r_172_43, r_172_45, r_172_46, r_172_50, r_172_51, r_172_54, r_172_55, r_172_57, r_172_60, r_172_62, r_172_63, r_172_65, r_172_68, r_172_71, r_172_73, r_172_76, r_172_77, r_172_80, r_172_82, r_172_84, r_172_85, r_172_86, r_172_89, r_172_90, r_172_93, r_172_94, r_172_96, r_172_98, r_172_99, r_172_101, r_172_102, r_172_103, r_172_105, r_172_106, r_172_109, r_172_111, r_172_113, r_172_114, r_172_115, r_172_116, r_172_119, r_172_122, r_172_123, r_172_124, r_172_127, r_172_129, r_172_132, r_172_133, r_172_136, r_172_139, r_172_141, r_172_144, r_172_145, r_172_148, r_172_151, r_172_153, r_172_154, r_172_157, r_172_158, r_172_161, r_172_162, r_172_166, r_172_169, r_172_171, r_172_174, r_172_175, r_172_178, r_172_179, r_172_182, r_172_185, r_172_187, r_172_190, r_172_191, r_172_192, r_172_195, r_172_198, r_172_199, f_add, f_or, f_shl, o_bi, o_ceq, o_cge, o_clt, o_cne, o_eq, o_get, o_go, o_ial, o_ias, o_inc, o_ivs, o_ivv, o_lda, o_ldi, o_le, o_ne, o_pi, o_ri, o_sti, acR_nx, acR_re, acR_ca, acR_no, acR_if, Kc_i, Kc_n, a_lg, a_ls, a_kl, a_pk, a_sw, cw_n, cw_i, cw_l, cw_r, List.length_cons, List.length_nil, List.getElem?_cons_succ, List.getElem?_cons_zero, ↓reduceIte, decide_true, decide_false, Bool.false_eq_true, or_true, true_or, or_false, false_or, or_self, and_true, true_and, not_true_eq_false, not_false_eq_true, Nat.reduceEqDiff, Nat.reduceLT, Nat.reduceLeDiff, Nat.reduceAdd, Nat.reduceSub, Nat.reduceMul, Nat.reduceDiv, Nat.reduceMod, Nat.zero_add, Nat.add_zero, n_z, n_1, n_ltz, n_zlt, n_lt, n_eq, n_cl, n_in, nI_add, pk_mul, n_div, n_sub, nm_mod, ne, m_bitsK hc hm, m_bitsK hc bl, q]
          exact this
        · rw [if_neg (fun w => w.2.1.elim b16 q), eb] at ih1
          rw [eb]
          have km' : ¬ kbN c m 4 < kbN c b 4 := by omega
          have z0 : ¬ nI 0 = nI 1 := by decide
          by_cases q2 : pcN 5 m = pcN 5 b
          · simp (disch := first | assumption | omega) only [r_172_0, r_172_1, r_172_4, r_172_7, r_172_8, r_172_11, r_172_12, r_172_13, r_172_16, r_172_17, r_172_20, r_172_23, r_172_24, r_172_25, r_172_26, r_172_27, r_172_28, r_172_30, r_172_32, r_172_35, r_172_36, r_172_39, r_172_40, r_172_42, r_172_43, r_172_45, r_172_46, r_172_50, r_172_51, r_172_54, r_172_55, r_172_57, r_172_60, r_172_62, r_172_63, r_172_65, r_172_68, r_172_71, r_172_73, r_172_76, r_172_77, r_172_80, r_172_82, r_172_84, r_172_85, r_172_86, r_172_89, r_172_90, r_172_93, r_172_94, r_172_96, r_172_98, r_172_99, r_172_101, r_172_102, r_172_103, r_172_105, r_172_106, r_172_109, r_172_111, r_172_113, r_172_114, r_172_115, r_172_116, r_172_119, r_172_122, r_172_123, r_172_124, r_172_127, r_172_129, r_172_132, r_172_133, r_172_136, r_172_139, r_172_141, r_172_144, r_172_145, r_172_148, r_172_151, r_172_153, r_172_154, r_172_157, r_172_158, r_172_161, r_172_162, r_172_164, r_172_166, r_172_169, r_172_171, r_172_174, r_172_175, r_172_178, r_172_179, r_172_182, r_172_185, r_172_187, r_172_190, r_172_191, r_172_192, r_172_195, r_172_198, r_172_199, f_add, f_or, f_shl, o_bi, o_ceq, o_cge, o_clt, o_cne, o_eq, o_get, o_go, o_ial, o_ias, o_inc, o_ivs, o_ivv, o_lda, o_ldi, o_le, o_ne, o_pi, o_ri, o_sti, acR_nx, acR_re, acR_ca, acR_no, acR_if, Kc_i, Kc_n, a_lg, a_ls, a_kl, a_pk, a_sw, cw_n, cw_i, cw_l, cw_r, List.length_cons, List.length_nil, List.getElem?_cons_succ, List.getElem?_cons_zero, ↓reduceIte, decide_true, decide_false, Bool.false_eq_true, or_true, true_or, or_false, false_or, or_self, and_true, true_and, not_true_eq_false, not_false_eq_true, Nat.reduceEqDiff, Nat.reduceLT, Nat.reduceLeDiff, Nat.reduceAdd, Nat.reduceSub, Nat.reduceMul, Nat.reduceDiv, Nat.reduceMod, Nat.zero_add, Nat.add_zero, n_z, n_1, n_ltz, n_zlt, n_lt, n_eq, n_cl, n_in, nI_add, pk_mul, n_div, n_sub, nm_mod, ne, m_bitsK hc hm, m_bitsK hc bl, q, q2, km', Nat.lt_irrefl]
            cases q3 : A m
            · simp (disch := first | assumption | omega) only [r_172_0, r_172_1, r_172_4, r_172_7, r_172_8, r_172_11, r_172_12, r_172_13, r_172_16, r_172_17, r_172_20, r_172_23, r_172_24, r_172_25, r_172_26, r_172_27, r_172_28, r_172_30, r_172_32, r_172_35, r_172_36, r_172_39, r_172_40, r_172_42, r_172_43, r_172_45, r_172_46, r_172_50, r_172_51, r_172_54, r_172_55, r_172_57, r_172_60, r_172_62, r_172_63, r_172_65, r_172_68, r_172_71, r_172_73, r_172_76, r_172_77, r_172_80, r_172_82, r_172_84, r_172_85, r_172_86, r_172_89, r_172_90, r_172_93, r_172_94, r_172_96, r_172_98, r_172_99, r_172_101, r_172_102, r_172_103, r_172_105, r_172_106, r_172_109, r_172_111, r_172_113, r_172_114, r_172_115, r_172_116, r_172_119, r_172_122, r_172_123, r_172_124, r_172_127, r_172_129, r_172_132, r_172_133, r_172_136, r_172_139, r_172_141, r_172_144, r_172_145, r_172_148, r_172_151, r_172_153, r_172_154, r_172_157, r_172_158, r_172_161, r_172_162, r_172_164, r_172_166, r_172_169, r_172_171, r_172_174, r_172_175, r_172_178, r_172_179, r_172_182, r_172_185, r_172_187, r_172_190, r_172_191, r_172_192, r_172_195, r_172_198, r_172_199, f_add, f_or, f_shl, o_bi, o_ceq, o_cge, o_clt, o_cne, o_eq, o_get, o_go, o_ial, o_ias, o_inc, o_ivs, o_ivv, o_lda, o_ldi, o_le, o_ne, o_pi, o_ri, o_sti, acR_nx, acR_re, acR_ca, acR_no, acR_if, Kc_i, Kc_n, a_lg, a_ls, a_kl, a_pk, a_sw, cw_n, cw_i, cw_l, cw_r, List.length_cons, List.length_nil, List.getElem?_cons_succ, List.getElem?_cons_zero, ↓reduceIte, decide_true, decide_false, Bool.false_eq_true, or_true, true_or, or_false, false_or, or_self, and_true, true_and, not_true_eq_false, not_false_eq_true, Nat.reduceEqDiff, Nat.reduceLT, Nat.reduceLeDiff, Nat.reduceAdd, Nat.reduceSub, Nat.reduceMul, Nat.reduceDiv, Nat.reduceMod, Nat.zero_add, Nat.add_zero, n_z, n_1, n_ltz, n_zlt, n_lt, n_eq, n_cl, n_in, nI_add, pk_mul, n_div, n_sub, nm_mod, bV]
              exact ih1 _ _ _ _
            · simp (disch := first | assumption | omega) only [r_172_0, r_172_1, r_172_4, r_172_7, r_172_8, r_172_11, r_172_12, r_172_13, r_172_16, r_172_17, r_172_20, r_172_23, r_172_24, r_172_25, r_172_26, r_172_27, r_172_28, r_172_30, r_172_32, r_172_35, r_172_36, r_172_39, r_172_40, r_172_42, r_172_43, r_172_45, r_172_46, r_172_50, r_172_51, r_172_54, r_172_55, r_172_57, r_172_60, r_172_62, r_172_63, r_172_65, r_172_68, r_172_71, r_172_73, r_172_76, r_172_77, r_172_80, r_172_82, r_172_84, r_172_85, r_172_86, r_172_89, r_172_90, r_172_93, r_172_94, r_172_96, r_172_98, r_172_99, r_172_101, r_172_102, r_172_103, r_172_105, r_172_106, r_172_109, r_172_111, r_172_113, r_172_114, r_172_115, r_172_116, r_172_119, r_172_122, r_172_123, r_172_124, r_172_127, r_172_129, r_172_132, r_172_133, r_172_136, r_172_139, r_172_141, r_172_144, r_172_145, r_172_148, r_172_151, r_172_153, r_172_154, r_172_157, r_172_158, r_172_161, r_172_162, r_172_164, r_172_166, r_172_169, r_172_171, r_172_174, r_172_175, r_172_178, r_172_179, r_172_182, r_172_185, r_172_187, r_172_190, r_172_191, r_172_192, r_172_195, r_172_198, r_172_199, f_add, f_or, f_shl, o_bi, o_ceq, o_cge, o_clt, o_cne, o_eq, o_get, o_go, o_ial, o_ias, o_inc, o_ivs, o_ivv, o_lda, o_ldi, o_le, o_ne, o_pi, o_ri, o_sti, acR_nx, acR_re, acR_ca, acR_no, acR_if, Kc_i, Kc_n, a_lg, a_ls, a_kl, a_pk, a_sw, cw_n, cw_i, cw_l, cw_r, List.length_cons, List.length_nil, List.getElem?_cons_succ, List.getElem?_cons_zero, ↓reduceIte, decide_true, decide_false, Bool.false_eq_true, or_true, true_or, or_false, false_or, or_self, and_true, true_and, not_true_eq_false, not_false_eq_true, Nat.reduceEqDiff, Nat.reduceLT, Nat.reduceLeDiff, Nat.reduceAdd, Nat.reduceSub, Nat.reduceMul, Nat.reduceDiv, Nat.reduceMod, Nat.zero_add, Nat.add_zero, n_z, n_1, n_ltz, n_zlt, n_lt, n_eq, n_cl, n_in, nI_add, pk_mul, n_div, n_sub, nm_mod, bV]
              exact ih1 _ _ _ _
          · simp (disch := first | assumption | omega) only [r_172_0, r_172_1, r_172_4, r_172_7, r_172_8, r_172_11, r_172_12, r_172_13, r_172_16, r_172_17, r_172_20, r_172_23, r_172_24, r_172_25, r_172_26, r_172_27, r_172_28, r_172_30, r_172_32, r_172_35, r_172_36, r_172_39, r_172_40, r_172_42, r_172_43, r_172_45, r_172_46, r_172_50, r_172_51, r_172_54, r_172_55, r_172_57, r_172_60, r_172_62, r_172_63, r_172_65, r_172_68, r_172_71, r_172_73, r_172_76, r_172_77, r_172_80, r_172_82, r_172_84, r_172_85, r_172_86, r_172_89, r_172_90, r_172_93, r_172_94, r_172_96, r_172_98, r_172_99, r_172_101, r_172_102, r_172_103, r_172_105, r_172_106, r_172_109, r_172_111, r_172_113, r_172_114, r_172_115, r_172_116, r_172_119, r_172_122, r_172_123, r_172_124, r_172_127, r_172_129, r_172_132, r_172_133, r_172_136, r_172_139, r_172_141, r_172_144, r_172_145, r_172_148, r_172_151, r_172_153, r_172_154, r_172_157, r_172_158, r_172_161, r_172_162, r_172_164, r_172_166, r_172_169, r_172_171, r_172_174, r_172_175, r_172_178, r_172_179, r_172_182, r_172_185, r_172_187, r_172_190, r_172_191, r_172_192, r_172_195, r_172_198, r_172_199, f_add, f_or, f_shl, o_bi, o_ceq, o_cge, o_clt, o_cne, o_eq, o_get, o_go, o_ial, o_ias, o_inc, o_ivs, o_ivv, o_lda, o_ldi, o_le, o_ne, o_pi, o_ri, o_sti, acR_nx, acR_re, acR_ca, acR_no, acR_if, Kc_i, Kc_n, a_lg, a_ls, a_kl, a_pk, a_sw, cw_n, cw_i, cw_l, cw_r, List.length_cons, List.length_nil, List.getElem?_cons_succ, List.getElem?_cons_zero, ↓reduceIte, decide_true, decide_false, Bool.false_eq_true, or_true, true_or, or_false, false_or, or_self, and_true, true_and, not_true_eq_false, not_false_eq_true, Nat.reduceEqDiff, Nat.reduceLT, Nat.reduceLeDiff, Nat.reduceAdd, Nat.reduceSub, Nat.reduceMul, Nat.reduceDiv, Nat.reduceMod, Nat.zero_add, Nat.add_zero, n_z, n_1, n_ltz, n_zlt, n_lt, n_eq, n_cl, n_in, nI_add, pk_mul, n_div, n_sub, nm_mod, ne, m_bitsK hc hm, m_bitsK hc bl, q, q2]
            cases q3 : A m
            · simp (disch := first | assumption | omega) only [r_172_0, r_172_1, r_172_4, r_172_7, r_172_8, r_172_11, r_172_12, r_172_13, r_172_16, r_172_17, r_172_20, r_172_23, r_172_24, r_172_25, r_172_26, r_172_27, r_172_28, r_172_30, r_172_32, r_172_35, r_172_36, r_172_39, r_172_40, r_172_42, r_172_43, r_172_45, r_172_46, r_172_50, r_172_51, r_172_54, r_172_55, r_172_57, r_172_60, r_172_62, r_172_63, r_172_65, r_172_68, r_172_71, r_172_73, r_172_76, r_172_77, r_172_80, r_172_82, r_172_84, r_172_85, r_172_86, r_172_89, r_172_90, r_172_93, r_172_94, r_172_96, r_172_98, r_172_99, r_172_101, r_172_102, r_172_103, r_172_105, r_172_106, r_172_109, r_172_111, r_172_113, r_172_114, r_172_115, r_172_116, r_172_119, r_172_122, r_172_123, r_172_124, r_172_127, r_172_129, r_172_132, r_172_133, r_172_136, r_172_139, r_172_141, r_172_144, r_172_145, r_172_148, r_172_151, r_172_153, r_172_154, r_172_157, r_172_158, r_172_161, r_172_162, r_172_164, r_172_166, r_172_169, r_172_171, r_172_174, r_172_175, r_172_178, r_172_179, r_172_182, r_172_185, r_172_187, r_172_190, r_172_191, r_172_192, r_172_195, r_172_198, r_172_199, f_add, f_or, f_shl, o_bi, o_ceq, o_cge, o_clt, o_cne, o_eq, o_get, o_go, o_ial, o_ias, o_inc, o_ivs, o_ivv, o_lda, o_ldi, o_le, o_ne, o_pi, o_ri, o_sti, acR_nx, acR_re, acR_ca, acR_no, acR_if, Kc_i, Kc_n, a_lg, a_ls, a_kl, a_pk, a_sw, cw_n, cw_i, cw_l, cw_r, List.length_cons, List.length_nil, List.getElem?_cons_succ, List.getElem?_cons_zero, ↓reduceIte, decide_true, decide_false, Bool.false_eq_true, or_true, true_or, or_false, false_or, or_self, and_true, true_and, not_true_eq_false, not_false_eq_true, Nat.reduceEqDiff, Nat.reduceLT, Nat.reduceLeDiff, Nat.reduceAdd, Nat.reduceSub, Nat.reduceMul, Nat.reduceDiv, Nat.reduceMod, Nat.zero_add, Nat.add_zero, n_z, n_1, n_ltz, n_zlt, n_lt, n_eq, n_cl, n_in, nI_add, pk_mul, n_div, n_sub, nm_mod, bV]
              exact ih1 _ _ _ _
            · simp (disch := first | assumption | omega) only [r_172_0, r_172_1, r_172_4, r_172_7, r_172_8, r_172_11, r_172_12, r_172_13, r_172_16, r_172_17, r_172_20, r_172_23, r_172_24, r_172_25, r_172_26, r_172_27, r_172_28, r_172_30, r_172_32, r_172_35, r_172_36, r_172_39, r_172_40, r_172_42, r_172_43, r_172_45, r_172_46, r_172_50, r_172_51, r_172_54, r_172_55, r_172_57, r_172_60, r_172_62, r_172_63, r_172_65, r_172_68, r_172_71, r_172_73, r_172_76, r_172_77, r_172_80, r_172_82, r_172_84, r_172_85, r_172_86, r_172_89, r_172_90, r_172_93, r_172_94, r_172_96, r_172_98, r_172_99, r_172_101, r_172_102, r_172_103, r_172_105, r_172_106, r_172_109, r_172_111, r_172_113, r_172_114, r_172_115, r_172_116, r_172_119, r_172_122, r_172_123, r_172_124, r_172_127, r_172_129, r_172_132, r_172_133, r_172_136, r_172_139, r_172_141, r_172_144, r_172_145, r_172_148, r_172_151, r_172_153, r_172_154, r_172_157, r_172_158, r_172_161, r_172_162, r_172_164, r_172_166, r_172_169, r_172_171, r_172_174, r_172_175, r_172_178, r_172_179, r_172_182, r_172_185, r_172_187, r_172_190, r_172_191, r_172_192, r_172_195, r_172_198, r_172_199, f_add, f_or, f_shl, o_bi, o_ceq, o_cge, o_clt, o_cne, o_eq, o_get, o_go, o_ial, o_ias, o_inc, o_ivs, o_ivv, o_lda, o_ldi, o_le, o_ne, o_pi, o_ri, o_sti, acR_nx, acR_re, acR_ca, acR_no, acR_if, Kc_i, Kc_n, a_lg, a_ls, a_kl, a_pk, a_sw, cw_n, cw_i, cw_l, cw_r, List.length_cons, List.length_nil, List.getElem?_cons_succ, List.getElem?_cons_zero, ↓reduceIte, decide_true, decide_false, Bool.false_eq_true, or_true, true_or, or_false, false_or, or_self, and_true, true_and, not_true_eq_false, not_false_eq_true, Nat.reduceEqDiff, Nat.reduceLT, Nat.reduceLeDiff, Nat.reduceAdd, Nat.reduceSub, Nat.reduceMul, Nat.reduceDiv, Nat.reduceMod, Nat.zero_add, Nat.add_zero, n_z, n_1, n_ltz, n_zlt, n_lt, n_eq, n_cl, n_in, nI_add, pk_mul, n_div, n_sub, nm_mod, bV]
              exact ih1 _ _ _ _
    have inner := lp_dn (C := fun i => ∀ g x7, aRow f (fun k => if bK c m i k = true then nI 0 else f (20 + k)) g → Rn 172 48 [some (.ref 61), some (.int (nI c)), some (.int (bI c b)), some (.int (nI m)), some (.int (nI (kbN c m i))), some (.int (bV (aA (fun j => f (20 + j)) c m i))), some (.int (nI i)), x7] [] (a_sc σ 64 g) Q) 4 (fun g x7 hg => by rw [← eA]; exact last g x7 hg) (fun i hi ii g x7 hg => by
      rw [r_172_48]
      have kl := kA_lt hc hi
      have e20 : 20 + kA c i < 481 := by omega
      by_cases q : m.testBit i = true
      · have q' : ¬ m.testBit i = false := by rw [q]; decide
        have ko := kb_or ⟨c, hc⟩ ⟨m, hm⟩ ⟨i, hi⟩ q
        dsimp only at ko
        have pn := pos_ne (hv.2.2.2.2.1 (kA c i) kl).2.1
        have ss : ∀ st : Nat → Int32, aA st c m (i + 1) = (aA st c m i && decide (¬ st (kA c i) = 0)) := fun st => by simp only [aA]; rw [if_pos q]
        rw [ss] at ii
        have hg' : aRow f (fun k => if bK c m (i + 1) k = true then nI 0 else f (20 + k)) (upd g (20 + kA c i) (nI 0)) := by
          refine ⟨?_, fun j hj => ?_, fun j hj => ?_, fun e he => ?_⟩
          · rw [ud_1, if_neg (by omega)]; exact hg.1
          · rw [ud_1, if_neg (by omega)]; exact hg.2.1 j hj
          · rw [ud_1]
            simp only [bK, q, Bool.true_and]
            by_cases z : kA c i = j
            · rw [if_pos (by omega), if_pos (by simp [z])]
            · rw [if_neg (by omega), hg.2.2.1 j hj]
              simp [z]
          · rw [ud_1, if_neg (by omega)]; exact hg.2.2.2 e he
        have ii1 := ii _ (some (.int (nI (kA c i)))) hg'
        cases r : aA (fun j => f (20 + j)) c m i with
        | false =>
          rw [r] at ii1
          simp (disch := first | assumption | omega) only [r_172_0, r_172_1, r_172_4, r_172_7, r_172_8, r_172_11, r_172_12, r_172_13, r_172_16, r_172_17, r_172_20, r_172_23, r_172_24, r_172_25, r_172_26, r_172_27, r_172_28, r_172_30, r_172_32, r_172_35, r_172_36, r_172_39, r_172_40, r_172_42, r_172_43, r_172_45, r_172_46, r_172_50, r_172_51, r_172_54, r_172_55, r_172_57, r_172_60, r_172_62, r_172_63, r_172_65, r_172_68, r_172_71, r_172_73, r_172_76, r_172_77, r_172_80, r_172_82, r_172_84, r_172_85, r_172_86, r_172_89, r_172_90, r_172_93, r_172_94, r_172_96, r_172_98, r_172_99, r_172_101, r_172_102, r_172_103, r_172_105, r_172_106, r_172_109, r_172_111, r_172_113, r_172_114, r_172_115, r_172_116, r_172_119, r_172_122, r_172_123, r_172_124, r_172_127, r_172_129, r_172_132, r_172_133, r_172_136, r_172_139, r_172_141, r_172_144, r_172_145, r_172_148, r_172_151, r_172_153, r_172_154, r_172_157, r_172_158, r_172_161, r_172_162, r_172_164, r_172_166, r_172_169, r_172_171, r_172_174, r_172_175, r_172_178, r_172_179, r_172_182, r_172_185, r_172_187, r_172_190, r_172_191, r_172_192, r_172_195, r_172_198, r_172_199, f_add, f_or, f_shl, o_bi, o_ceq, o_cge, o_clt, o_cne, o_eq, o_get, o_go, o_ial, o_ias, o_inc, o_ivs, o_ivv, o_lda, o_ldi, o_le, o_ne, o_pi, o_ri, o_sti, acR_nx, acR_re, acR_ca, acR_no, acR_if, Kc_i, Kc_n, a_lg, a_ls, a_kl, a_pk, a_sw, cw_n, cw_i, cw_l, cw_r, List.length_cons, List.length_nil, List.getElem?_cons_succ, List.getElem?_cons_zero, ↓reduceIte, decide_true, decide_false, Bool.false_eq_true, or_true, true_or, or_false, false_or, or_self, and_true, true_and, not_true_eq_false, not_false_eq_true, Nat.reduceEqDiff, Nat.reduceLT, Nat.reduceLeDiff, Nat.reduceAdd, Nat.reduceSub, Nat.reduceMul, Nat.reduceDiv, Nat.reduceMod, Nat.zero_add, Nat.add_zero, n_z, n_1, n_ltz, n_zlt, n_lt, n_eq, n_cl, n_in, nI_add, pk_mul, n_div, n_sub, nm_mod, ly_61, ly_62, ly_64, hi, m_corner hc hi, m_has, m_bitP hm hi, q', Bool.true_eq_false, bV, ko, e20, sc_1, wi_sc, sc_sc, hf]
          exact ii1
        | true =>
          rw [r] at ii1
          by_cases s : f (20 + kA c i) = 0
          · have s' : ¬ 0 < f (20 + kA c i) := by rw [pn]; exact fun w => w s
            have : decide (¬ f (20 + kA c i) = 0) = false := by simp [s]
            rw [this] at ii1
            simp (disch := first | assumption | omega) only [r_172_0, r_172_1, r_172_4, r_172_7, r_172_8, r_172_11, r_172_12, r_172_13, r_172_16, r_172_17, r_172_20, r_172_23, r_172_24, r_172_25, r_172_26, r_172_27, r_172_28, r_172_30, r_172_32, r_172_35, r_172_36, r_172_39, r_172_40, r_172_42, r_172_43, r_172_45, r_172_46, r_172_50, r_172_51, r_172_54, r_172_55, r_172_57, r_172_60, r_172_62, r_172_63, r_172_65, r_172_68, r_172_71, r_172_73, r_172_76, r_172_77, r_172_80, r_172_82, r_172_84, r_172_85, r_172_86, r_172_89, r_172_90, r_172_93, r_172_94, r_172_96, r_172_98, r_172_99, r_172_101, r_172_102, r_172_103, r_172_105, r_172_106, r_172_109, r_172_111, r_172_113, r_172_114, r_172_115, r_172_116, r_172_119, r_172_122, r_172_123, r_172_124, r_172_127, r_172_129, r_172_132, r_172_133, r_172_136, r_172_139, r_172_141, r_172_144, r_172_145, r_172_148, r_172_151, r_172_153, r_172_154, r_172_157, r_172_158, r_172_161, r_172_162, r_172_164, r_172_166, r_172_169, r_172_171, r_172_174, r_172_175, r_172_178, r_172_179, r_172_182, r_172_185, r_172_187, r_172_190, r_172_191, r_172_192, r_172_195, r_172_198, r_172_199, f_add, f_or, f_shl, o_bi, o_ceq, o_cge, o_clt, o_cne, o_eq, o_get, o_go, o_ial, o_ias, o_inc, o_ivs, o_ivv, o_lda, o_ldi, o_le, o_ne, o_pi, o_ri, o_sti, acR_nx, acR_re, acR_ca, acR_no, acR_if, Kc_i, Kc_n, a_lg, a_ls, a_kl, a_pk, a_sw, cw_n, cw_i, cw_l, cw_r, List.length_cons, List.length_nil, List.getElem?_cons_succ, List.getElem?_cons_zero, ↓reduceIte, decide_true, decide_false, Bool.false_eq_true, or_true, true_or, or_false, false_or, or_self, and_true, true_and, not_true_eq_false, not_false_eq_true, Nat.reduceEqDiff, Nat.reduceLT, Nat.reduceLeDiff, Nat.reduceAdd, Nat.reduceSub, Nat.reduceMul, Nat.reduceDiv, Nat.reduceMod, Nat.zero_add, Nat.add_zero, n_z, n_1, n_ltz, n_zlt, n_lt, n_eq, n_cl, n_in, nI_add, pk_mul, n_div, n_sub, nm_mod, ly_61, ly_62, ly_64, hi, m_corner hc hi, m_has, m_bitP hm hi, q', Bool.true_eq_false, bV, ko, e20, sc_1, wi_sc, sc_sc, hf, s']
            exact ii1
          · have s' : 0 < f (20 + kA c i) := by rw [pn]; exact s
            have : decide (¬ f (20 + kA c i) = 0) = true := by simp [s]
            rw [this] at ii1
            simp (disch := first | assumption | omega) only [r_172_0, r_172_1, r_172_4, r_172_7, r_172_8, r_172_11, r_172_12, r_172_13, r_172_16, r_172_17, r_172_20, r_172_23, r_172_24, r_172_25, r_172_26, r_172_27, r_172_28, r_172_30, r_172_32, r_172_35, r_172_36, r_172_39, r_172_40, r_172_42, r_172_43, r_172_45, r_172_46, r_172_50, r_172_51, r_172_54, r_172_55, r_172_57, r_172_60, r_172_62, r_172_63, r_172_65, r_172_68, r_172_71, r_172_73, r_172_76, r_172_77, r_172_80, r_172_82, r_172_84, r_172_85, r_172_86, r_172_89, r_172_90, r_172_93, r_172_94, r_172_96, r_172_98, r_172_99, r_172_101, r_172_102, r_172_103, r_172_105, r_172_106, r_172_109, r_172_111, r_172_113, r_172_114, r_172_115, r_172_116, r_172_119, r_172_122, r_172_123, r_172_124, r_172_127, r_172_129, r_172_132, r_172_133, r_172_136, r_172_139, r_172_141, r_172_144, r_172_145, r_172_148, r_172_151, r_172_153, r_172_154, r_172_157, r_172_158, r_172_161, r_172_162, r_172_164, r_172_166, r_172_169, r_172_171, r_172_174, r_172_175, r_172_178, r_172_179, r_172_182, r_172_185, r_172_187, r_172_190, r_172_191, r_172_192, r_172_195, r_172_198, r_172_199, f_add, f_or, f_shl, o_bi, o_ceq, o_cge, o_clt, o_cne, o_eq, o_get, o_go, o_ial, o_ias, o_inc, o_ivs, o_ivv, o_lda, o_ldi, o_le, o_ne, o_pi, o_ri, o_sti, acR_nx, acR_re, acR_ca, acR_no, acR_if, Kc_i, Kc_n, a_lg, a_ls, a_kl, a_pk, a_sw, cw_n, cw_i, cw_l, cw_r, List.length_cons, List.length_nil, List.getElem?_cons_succ, List.getElem?_cons_zero, ↓reduceIte, decide_true, decide_false, Bool.false_eq_true, or_true, true_or, or_false, false_or, or_self, and_true, true_and, not_true_eq_false, not_false_eq_true, Nat.reduceEqDiff, Nat.reduceLT, Nat.reduceLeDiff, Nat.reduceAdd, Nat.reduceSub, Nat.reduceMul, Nat.reduceDiv, Nat.reduceMod, Nat.zero_add, Nat.add_zero, n_z, n_1, n_ltz, n_zlt, n_lt, n_eq, n_cl, n_in, nI_add, pk_mul, n_div, n_sub, nm_mod, ly_61, ly_62, ly_64, hi, m_corner hc hi, m_has, m_bitP hm hi, q', Bool.true_eq_false, bV, ko, e20, sc_1, wi_sc, sc_sc, hf, s']
            exact ii1
      · have q' : m.testBit i = false := by simpa using q
        have e1 : kbN c m (i + 1) = kbN c m i := by simp only [kbN]; rw [if_neg q]
        have e2 : aA (fun j => f (20 + j)) c m (i + 1) = aA (fun j => f (20 + j)) c m i := by simp only [aA]; rw [if_neg q]
        have e3 : (fun k => if bK c m (i + 1) k = true then nI 0 else f (20 + k)) = (fun k => if bK c m i k = true then nI 0 else f (20 + k)) := by
          funext k
          simp only [bK, q', Bool.false_and, Bool.or_false]
        rw [e1, e2, e3] at ii
        simp (disch := first | assumption | omega) only [r_172_0, r_172_1, r_172_4, r_172_7, r_172_8, r_172_11, r_172_12, r_172_13, r_172_16, r_172_17, r_172_20, r_172_23, r_172_24, r_172_25, r_172_26, r_172_27, r_172_28, r_172_30, r_172_32, r_172_35, r_172_36, r_172_39, r_172_40, r_172_42, r_172_43, r_172_45, r_172_46, r_172_50, r_172_51, r_172_54, r_172_55, r_172_57, r_172_60, r_172_62, r_172_63, r_172_65, r_172_68, r_172_71, r_172_73, r_172_76, r_172_77, r_172_80, r_172_82, r_172_84, r_172_85, r_172_86, r_172_89, r_172_90, r_172_93, r_172_94, r_172_96, r_172_98, r_172_99, r_172_101, r_172_102, r_172_103, r_172_105, r_172_106, r_172_109, r_172_111, r_172_113, r_172_114, r_172_115, r_172_116, r_172_119, r_172_122, r_172_123, r_172_124, r_172_127, r_172_129, r_172_132, r_172_133, r_172_136, r_172_139, r_172_141, r_172_144, r_172_145, r_172_148, r_172_151, r_172_153, r_172_154, r_172_157, r_172_158, r_172_161, r_172_162, r_172_164, r_172_166, r_172_169, r_172_171, r_172_174, r_172_175, r_172_178, r_172_179, r_172_182, r_172_185, r_172_187, r_172_190, r_172_191, r_172_192, r_172_195, r_172_198, r_172_199, f_add, f_or, f_shl, o_bi, o_ceq, o_cge, o_clt, o_cne, o_eq, o_get, o_go, o_ial, o_ias, o_inc, o_ivs, o_ivv, o_lda, o_ldi, o_le, o_ne, o_pi, o_ri, o_sti, acR_nx, acR_re, acR_ca, acR_no, acR_if, Kc_i, Kc_n, a_lg, a_ls, a_kl, a_pk, a_sw, cw_n, cw_i, cw_l, cw_r, List.length_cons, List.length_nil, List.getElem?_cons_succ, List.getElem?_cons_zero, ↓reduceIte, decide_true, decide_false, Bool.false_eq_true, or_true, true_or, or_false, false_or, or_self, and_true, true_and, not_true_eq_false, not_false_eq_true, Nat.reduceEqDiff, Nat.reduceLT, Nat.reduceLeDiff, Nat.reduceAdd, Nat.reduceSub, Nat.reduceMul, Nat.reduceDiv, Nat.reduceMod, Nat.zero_add, Nat.add_zero, n_z, n_1, n_ltz, n_zlt, n_lt, n_eq, n_cl, n_in, nI_add, pk_mul, n_div, n_sub, nm_mod, hi, m_corner hc hi, m_has, m_bitP hm hi, q']
        exact ii g _ hg)
    refine inner _ _ ⟨as_at _ _ (by omega), fun j hj => as_at _ _ (by omega), fun j hj => ?_, fun e he => as_at _ _ (by omega)⟩
    rw [as_at _ _ (by omega)]
    simp only [bK, Bool.false_eq_true, if_false])
  have k0 := key (σ.1 64) none none none none
  rw [sc_id] at k0
  have b1 : mB L A (0 + 1) = 16 := by
    simp only [mB, hL0, Bool.false_eq_true, and_false, if_false]
  rw [b1, show bI c 16 = -1 from rfl] at k0
  have g1 : ¬ (c < 0 ∨ 8 < c) := by omega
  simp (disch := first | assumption | omega) only [cl_172, r_172_0, r_172_1, r_172_4, r_172_7, r_172_8, r_172_11, r_172_12, r_172_13, r_172_16, r_172_17, r_172_20, r_172_23, r_172_24, r_172_25, r_172_26, r_172_27, r_172_28, r_172_30, r_172_32, r_172_35, r_172_36, r_172_39, r_172_40, r_172_42, r_172_43, r_172_45, r_172_46, r_172_50, r_172_51, r_172_54, r_172_55, r_172_57, r_172_60, r_172_62, r_172_63, r_172_65, r_172_68, r_172_71, r_172_73, r_172_76, r_172_77, r_172_80, r_172_82, r_172_84, r_172_85, r_172_86, r_172_89, r_172_90, r_172_93, r_172_94, r_172_96, r_172_98, r_172_99, r_172_101, r_172_102, r_172_103, r_172_105, r_172_106, r_172_109, r_172_111, r_172_113, r_172_114, r_172_115, r_172_116, r_172_119, r_172_122, r_172_123, r_172_124, r_172_127, r_172_129, r_172_132, r_172_133, r_172_136, r_172_139, r_172_141, r_172_144, r_172_145, r_172_148, r_172_151, r_172_153, r_172_154, r_172_157, r_172_158, r_172_161, r_172_162, r_172_164, r_172_166, r_172_169, r_172_171, r_172_174, r_172_175, r_172_178, r_172_179, r_172_182, r_172_185, r_172_187, r_172_190, r_172_191, r_172_192, r_172_195, r_172_198, r_172_199, f_add, f_or, f_shl, o_bi, o_ceq, o_cge, o_clt, o_cne, o_eq, o_get, o_go, o_ial, o_ias, o_inc, o_ivs, o_ivv, o_lda, o_ldi, o_le, o_ne, o_pi, o_ri, o_sti, acR_nx, acR_re, acR_ca, acR_no, acR_if, Kc_i, Kc_n, a_lg, a_ls, a_kl, a_pk, a_sw, cw_n, cw_i, cw_l, cw_r, List.length_cons, List.length_nil, List.getElem?_cons_succ, List.getElem?_cons_zero, ↓reduceIte, decide_true, decide_false, Bool.false_eq_true, or_true, true_or, or_false, false_or, or_self, and_true, true_and, not_true_eq_false, not_false_eq_true, Nat.reduceEqDiff, Nat.reduceLT, Nat.reduceLeDiff, Nat.reduceAdd, Nat.reduceSub, Nat.reduceMul, Nat.reduceDiv, Nat.reduceMod, Nat.zero_add, Nat.add_zero, n_z, n_1, n_ltz, n_zlt, n_lt, n_eq, n_cl, n_in, nI_add, pk_mul, n_div, n_sub, nm_mod, ly_61, m_isClause, g1, mi, hl]
  exact k0
theorem hole_ex (st : Nat → Int32) (c m : Nat) : ∀ n, n ≤ 4 → aA st c m n = false → ∃ i, i < n ∧ m.testBit i = true ∧ st (kA c i) = 0
  | 0, _, h => by cases h
  | n + 1, hn, h => by
    simp only [aA] at h
    by_cases q : m.testBit n = true
    · rw [if_pos q] at h
      by_cases z : st (kA c n) = 0
      · exact ⟨n, by omega, q, z⟩
      · obtain ⟨i, h1, h2⟩ := hole_ex st c m n (by omega) (by simpa [z] using h)
        exact ⟨i, by omega, h2⟩
    · rw [if_neg q] at h
      obtain ⟨i, h1, h2⟩ := hole_ex st c m n (by omega) h
      exact ⟨i, by omega, h2⟩
theorem pr_dropped {N : Nat} {σ : a_HP} (h : Inv N σ) (c : Int32) : Pair N 68 172 [.int c] σ := by
  unfold Pair
  by_cases hc : c < nI 0 ∨ nI 8 < c
  · simp (disch := first | assumption | omega) only [cl_68, r_68_0, r_68_1, r_68_4, r_68_7, r_68_8, r_68_11, r_68_12, r_68_13, r_68_16, r_68_17, r_68_20, r_68_23, r_68_24, r_68_25, r_68_26, r_68_27, r_68_28, r_68_30, r_68_32, r_68_35, r_68_36, r_68_37, r_68_40, r_68_42, r_68_43, r_68_44, r_68_47, r_68_49, r_68_52, r_68_53, r_68_56, r_68_59, r_68_60, r_68_63, r_68_64, r_68_66, r_68_68, r_68_71, r_68_72, r_68_73, r_68_75, r_68_78, r_68_81, r_68_83, r_68_84, r_68_87, r_68_90, r_68_91, o_ceq, o_cge, o_eq, o_get, o_go, o_inc, o_ivs, o_ivv, o_lda, o_ldi, o_ne, o_pi, o_ri, o_sti, cl_172, r_172_0, r_172_1, r_172_4, r_172_7, r_172_8, r_172_11, r_172_12, r_172_13, r_172_16, r_172_17, r_172_20, r_172_23, r_172_24, r_172_25, r_172_26, r_172_27, r_172_28, r_172_30, r_172_32, r_172_35, r_172_36, r_172_39, r_172_40, r_172_42, r_172_43, r_172_45, r_172_46, r_172_50, r_172_51, r_172_54, r_172_55, r_172_57, r_172_60, r_172_62, r_172_63, r_172_65, r_172_68, r_172_71, r_172_73, r_172_76, r_172_77, r_172_80, r_172_82, r_172_84, r_172_85, r_172_86, r_172_89, r_172_90, r_172_93, r_172_94, r_172_96, r_172_98, r_172_99, r_172_101, r_172_102, r_172_103, r_172_105, r_172_106, r_172_109, r_172_111, r_172_113, r_172_114, r_172_115, r_172_116, r_172_119, r_172_122, r_172_123, r_172_124, r_172_127, r_172_129, r_172_132, r_172_133, r_172_136, r_172_139, r_172_141, r_172_144, r_172_145, r_172_148, r_172_151, r_172_153, r_172_154, r_172_157, r_172_158, r_172_161, r_172_162, r_172_164, r_172_166, r_172_169, r_172_171, r_172_174, r_172_175, r_172_178, r_172_179, r_172_182, r_172_185, r_172_187, r_172_190, r_172_191, r_172_192, r_172_195, r_172_198, r_172_199, f_add, f_or, f_shl, o_bi, o_ceq, o_cge, o_clt, o_cne, o_eq, o_get, o_go, o_ial, o_ias, o_inc, o_ivs, o_ivv, o_lda, o_ldi, o_le, o_ne, o_pi, o_ri, o_sti, acR_nx, acR_re, acR_ca, acR_no, acR_if, Kc_i, Kc_n, a_lg, a_ls, a_kl, a_pk, a_sw, cw_n, cw_i, cw_l, cw_r, List.length_cons, List.length_nil, List.getElem?_cons_succ, List.getElem?_cons_zero, ↓reduceIte, decide_true, decide_false, Bool.false_eq_true, or_true, true_or, or_false, false_or, or_self, and_true, true_and, not_true_eq_false, not_false_eq_true, Nat.reduceEqDiff, Nat.reduceLT, Nat.reduceLeDiff, Nat.reduceAdd, Nat.reduceSub, Nat.reduceMul, Nat.reduceDiv, Nat.reduceMod, Nat.zero_add, Nat.add_zero, n_z, n_1, ly_0, ly_61, c_isClause, m_isClause, hc, c_bad, m_bad]
    exact ⟨⟨_, rfl, rfl⟩, Inv_ref h (by omega)⟩
  · obtain ⟨c, -, c2, rfl⟩ := rng (by omega) (by omega) hc
    have hc9 : c < 9 := by omega
    have g1 : ¬ (c < 0 ∨ 8 < c) := by omega
    have ep : pC (σ.1 1 0) (σ.1 2) (σ.1 3) c = pC (σ.1 62 0) (fun j => σ.1 62 (4 + j)) (fun j => σ.1 62 (20 + j)) c := pC_c (h.1.1.1 0 (by omega)) (fun k hk => (h.1.1.2.1 k hk).1) (fun k hk => (h.1.1.2.1 k hk).2.1) hc9
    have ew : σ.1 5 c = σ.1 62 (52 + c) := h.1.1.2.2 c hc9
    by_cases hl : pC (σ.1 62 0) (fun j => σ.1 62 (4 + j)) (fun j => σ.1 62 (20 + j)) c < σ.1 62 (52 + c)
    · have mi := m_isLaw aT_62 hc9 σ (vKn_of h.1.2.1)
      simp (disch := first | assumption | omega) only [cl_68, r_68_0, r_68_1, r_68_4, r_68_7, r_68_8, r_68_11, r_68_12, r_68_13, r_68_16, r_68_17, r_68_20, r_68_23, r_68_24, r_68_25, r_68_26, r_68_27, r_68_28, r_68_30, r_68_32, r_68_35, r_68_36, r_68_37, r_68_40, r_68_42, r_68_43, r_68_44, r_68_47, r_68_49, r_68_52, r_68_53, r_68_56, r_68_59, r_68_60, r_68_63, r_68_64, r_68_66, r_68_68, r_68_71, r_68_72, r_68_73, r_68_75, r_68_78, r_68_81, r_68_83, r_68_84, r_68_87, r_68_90, r_68_91, o_ceq, o_cge, o_eq, o_get, o_go, o_inc, o_ivs, o_ivv, o_lda, o_ldi, o_ne, o_pi, o_ri, o_sti, cl_172, r_172_0, r_172_1, r_172_4, r_172_7, r_172_8, r_172_11, r_172_12, r_172_13, r_172_16, r_172_17, r_172_20, r_172_23, r_172_24, r_172_25, r_172_26, r_172_27, r_172_28, r_172_30, r_172_32, r_172_35, r_172_36, r_172_39, r_172_40, r_172_42, r_172_43, r_172_45, r_172_46, r_172_50, r_172_51, r_172_54, r_172_55, r_172_57, r_172_60, r_172_62, r_172_63, r_172_65, r_172_68, r_172_71, r_172_73, r_172_76, r_172_77, r_172_80, r_172_82, r_172_84, r_172_85, r_172_86, r_172_89, r_172_90, r_172_93, r_172_94, r_172_96, r_172_98, r_172_99, r_172_101, r_172_102, r_172_103, r_172_105, r_172_106, r_172_109, r_172_111, r_172_113, r_172_114, r_172_115, r_172_116, r_172_119, r_172_122, r_172_123, r_172_124, r_172_127, r_172_129, r_172_132, r_172_133, r_172_136, r_172_139, r_172_141, r_172_144, r_172_145, r_172_148, r_172_151, r_172_153, r_172_154, r_172_157, r_172_158, r_172_161, r_172_162, r_172_164, r_172_166, r_172_169, r_172_171, r_172_174, r_172_175, r_172_178, r_172_179, r_172_182, r_172_185, r_172_187, r_172_190, r_172_191, r_172_192, r_172_195, r_172_198, r_172_199, f_add, f_or, f_shl, o_bi, o_ceq, o_cge, o_clt, o_cne, o_eq, o_get, o_go, o_ial, o_ias, o_inc, o_ivs, o_ivv, o_lda, o_ldi, o_le, o_ne, o_pi, o_ri, o_sti, acR_nx, acR_re, acR_ca, acR_no, acR_if, Kc_i, Kc_n, a_lg, a_ls, a_kl, a_pk, a_sw, cw_n, cw_i, cw_l, cw_r, List.length_cons, List.length_nil, List.getElem?_cons_succ, List.getElem?_cons_zero, ↓reduceIte, decide_true, decide_false, Bool.false_eq_true, or_true, true_or, or_false, false_or, or_self, and_true, true_and, not_true_eq_false, not_false_eq_true, Nat.reduceEqDiff, Nat.reduceLT, Nat.reduceLeDiff, Nat.reduceAdd, Nat.reduceSub, Nat.reduceMul, Nat.reduceDiv, Nat.reduceMod, Nat.zero_add, Nat.add_zero, n_z, n_1, n_ltz, n_zlt, n_lt, n_eq, n_cl, n_in, nI_add, pk_mul, n_div, n_sub, nm_mod, ly_0, ly_1, ly_61, c_isClause, m_isClause, g1, c_isLaw aN_1, ep, ew, mi, hl]
      exact ⟨⟨_, rfl, rfl⟩, Inv_N (Nat.le_succ N) h⟩
    · refine c_dropped h.1 hc9 (by rw [ep, ew]; exact hl) _ (fun τ hT => ?_)
      have e62 : τ.1 62 = σ.1 62 := hT.2 62 (by omega)
      have nLc : ∀ m m', (∀ k, k < 16 → (if bK c m 4 k = true then nI 0 else σ.1 62 (20 + k)) = (if bK c m' 4 k = true then nI 0 else σ.1 62 (20 + k))) → nL (σ.1 62) c m = nL (σ.1 62) c m' := by
        intro m m' q
        unfold nL
        rw [pC_c rfl (fun _ _ => rfl) q hc9]
      refine m_dropped (σ := τ) (N := N) (by rw [e62]; exact h.1.2.1) hc9 (by rw [e62]; exact hl) ?_ _ (fun g => ⟨⟨_, rfl, ?_⟩, ?_⟩)
      · rw [e62]
        have b0 : ∀ k, bK c 0 4 k = false := by intro k; simp [bK]
        unfold nL
        simp only [b0, Bool.false_eq_true, if_false]
        exact decide_eq_false hl
      · rw [e62, mB_cB _ _ ?_ 16 (by omega)]
        · intro m hm hL hA
          obtain ⟨i, hi, ht, hz⟩ := hole_ex _ c m 4 (by omega) hA
          obtain ⟨k1, k2, k3⟩ := kb_hole ⟨c, hc9⟩ ⟨m, hm⟩ ⟨i, hi⟩ ht
          refine ⟨m - 2 ^ i, k1, ?_, k2⟩
          rw [← hL]
          apply nLc
          intro k hk
          have := k3 ⟨k, hk⟩
          dsimp only at this
          rw [this]
          by_cases z : kA c i = k
          · subst z
            simp only [decide_true, Bool.not_true, Bool.and_false, Bool.false_eq_true, if_false]
            rw [hz, nI_0]
            split <;> rfl
          · simp [z]
      · have i1 : Inv (N + 1) τ := Inv_N (Nat.le_succ N) (Inv_T5 h hT)
        exact i1
