/-! texts: tokens, as both take them -/
def isL (d : Nat) : Bool := decide (97 ≤ d) && decide (d ≤ 122)
def isF (d : Nat) : Bool := decide (48 ≤ d) && decide (d ≤ 57)
def isP (d : Nat) : Bool := decide (d = 32)
def scn (P : Nat → Bool) (z : Nat) (t : Nat → Nat) : Nat → Nat → Nat
  | 0, p => p
  | n + 1, p => if p < z ∧ P (t p) = true then scn P z t n (p + 1) else p
def sE (P : Nat → Bool) (z : Nat) (t : Nat → Nat) (p : Nat) : Nat := scn P z t (z - p) p
theorem sE_step {P : Nat → Bool} {z : Nat} {t : Nat → Nat} {p : Nat} (h : p < z) (hp : P (t p) = true) : sE P z t p = sE P z t (p + 1) := by
  unfold sE
  rw [show z - p = (z - (p + 1)) + 1 by omega]
  simp only [scn]
  rw [if_pos ⟨h, hp⟩]
theorem sE_stop {P : Nat → Bool} {z : Nat} {t : Nat → Nat} {p : Nat} (h : ¬ (p < z ∧ P (t p) = true)) : sE P z t p = p := by
  unfold sE
  cases z - p with
  | zero => rfl
  | succ n => simp only [scn]; rw [if_neg h]
theorem sE_ind {P : Nat → Bool} {z : Nat} {t : Nat → Nat} {M : Nat → Prop} (h0 : ∀ p, p ≤ z → ¬ (p < z ∧ P (t p) = true) → M p) (h1 : ∀ p, p < z → P (t p) = true → M (p + 1) → M p) : ∀ n p, z - p = n → p ≤ z → M p
  | 0, p, hn, hp => h0 p hp (by omega)
  | n + 1, p, hn, hp => by
    by_cases q : P (t p) = true
    · exact h1 p (by omega) q (sE_ind h0 h1 n (p + 1) (by omega) (by omega))
    · exact h0 p hp (fun z => q z.2)
theorem sE_ge {P : Nat → Bool} {z : Nat} {t : Nat → Nat} {p : Nat} (hp : p ≤ z) : p ≤ sE P z t p ∧ sE P z t p ≤ z := by
  refine sE_ind (P := P) (z := z) (t := t) (M := fun p => p ≤ sE P z t p ∧ sE P z t p ≤ z) (fun p hp h => ?_) (fun p h1 h2 ih => ?_) _ p rfl hp
  · rw [sE_stop h]; omega
  · rw [sE_step h1 h2]; omega
theorem sE_in {P : Nat → Bool} {z : Nat} {t : Nat → Nat} {p : Nat} (hp : p ≤ z) : ∀ j, p ≤ j → j < sE P z t p → P (t j) = true := by
  refine sE_ind (P := P) (z := z) (t := t) (M := fun p => ∀ j, p ≤ j → j < sE P z t p → P (t j) = true) (fun p hp h j h1 h2 => ?_) (fun p h1 h2 ih j h3 h4 => ?_) _ p rfl hp
  · rw [sE_stop h] at h2; omega
  · rw [sE_step h1 h2] at h4
    by_cases q : j = p
    · rw [q]; exact h2
    · exact ih j (by omega) h4
theorem sE_end {P : Nat → Bool} {z : Nat} {t : Nat → Nat} {p : Nat} (hp : p ≤ z) : ¬ (sE P z t p < z ∧ P (t (sE P z t p)) = true) := by
  refine sE_ind (P := P) (z := z) (t := t) (M := fun p => ¬ (sE P z t p < z ∧ P (t (sE P z t p)) = true)) (fun p hp h => ?_) (fun p h1 h2 ih => ?_) _ p rfl hp
  · rw [sE_stop h]; exact h
  · rw [sE_step h1 h2]; exact ih
def isW (t : Nat → Nat) (s e : Nat) (w : List Nat) : Bool := decide (e - s = w.length) && (decide (t s = w.getD 0 0) && (decide (t (s + 1) = w.getD 1 0) && (decide (t (s + 2) = w.getD 2 0) && (decide (w.length = 3) || decide (t (s + 3) = w.getD 3 0)))))
def wNet : List Nat := [110, 101, 116]
def wKnot : List Nat := [107, 110, 111, 116]
def wWide : List Nat := [119, 105, 100, 101]
def wk (t : Nat → Nat) (s e : Nat) : Nat := if isW t s e wNet = true then 0 else if isW t s e wKnot = true then 1 else if isW t s e wWide = true then 2 else 6
def tS (z : Nat) (t : Nat → Nat) (p : Nat) : Nat := sE isP z t p
def tEs (z : Nat) (t : Nat → Nat) (s : Nat) : Nat := if ¬ s < z then s else if isL (t s) = true then sE isL z t s else if isF (t s) = true then sE isF z t s else s + 1
def tKs (z : Nat) (t : Nat → Nat) (s : Nat) : Nat := if ¬ s < z then 5 else if isL (t s) = true then wk t s (sE isL z t s) else if isF (t s) = true then (if sE isF z t s - s ≤ 2 then 3 else 6) else if t s = 59 then 4 else 6
def tVs (z : Nat) (t : Nat → Nat) (s : Nat) : Nat := if sE isF z t s - s = 1 then t s - 48 else 10 * (t s - 48) + (t (s + 1) - 48)
def tE (z : Nat) (t : Nat → Nat) (p : Nat) : Nat := tEs z t (tS z t p)
def tKd (z : Nat) (t : Nat → Nat) (p : Nat) : Nat := tKs z t (tS z t p)
def tV (z : Nat) (t : Nat → Nat) (p : Nat) : Nat := tVs z t (tS z t p)
/-! the class's text: the object and the rows -/
def TS (σ : a_HP) (o R : Nat → Int32) : a_HP := a_sc (a_sc σ 13 o) 15 R
theorem TS_13 (σ : a_HP) (o R : Nat → Int32) : (TS σ o R).1 13 = o := rfl
theorem TS_14 (σ : a_HP) (o R : Nat → Int32) : (TS σ o R).1 14 = σ.1 14 := rfl
theorem TS_15 (σ : a_HP) (o R : Nat → Int32) : (TS σ o R).1 15 = R := rfl
theorem TS_w13 (σ : a_HP) (o R : Nat → Int32) (k : Nat) (v : Int32) : a_wi (TS σ o R) 13 k v = TS σ (upd o k v) R := by
  unfold TS
  simp only [wi_sc, sc_1, sc_cm _ (show 13 < 15 by omega), sc_un, sc_sc, Nat.reduceEqDiff, if_true, if_false]
theorem TS_w15 (σ : a_HP) (o R : Nat → Int32) (k : Nat) (v : Int32) : a_wi (TS σ o R) 15 k v = TS σ o (upd R k v) := by
  unfold TS
  simp only [wi_sc, sc_1, sc_sc, if_true]
theorem ud_id (f : Nat → Int32) {k : Nat} {v : Int32} (h : f k = v) : upd f k v = f := by
  funext j
  rw [ud_1]
  by_cases q : j = k
  · rw [if_pos q, q, h]
  · rw [if_neg q]
theorem ud_sw (f : Nat → Int32) {k l : Nat} (h : k ≠ l) (v w : Int32) : upd (upd f k v) l w = upd (upd f l w) k v := by
  funext j
  simp only [ud_1]
  by_cases q : j = l
  · rw [if_pos q, if_neg (by omega), if_pos q]
  · rw [if_neg q, if_neg q]
theorem c_isL {d : Nat} (hd : d < 2147483648) (σ : a_HP) (Q : Option Value → a_HP → Prop) : Cl 49 [.int (nI d)] σ Q = if isL d = true then Q (some (.int (nI 1))) σ else Q (some (.int (nI 0))) σ := by
  unfold isL
  by_cases h1 : d < 97
  · have h2 : ¬ 97 ≤ d := by omega
    simp (disch := first | assumption | omega) only [cl_49, r_49_0, r_49_1, r_49_3, r_49_6, r_49_7, r_49_9, r_49_12, r_49_13, r_49_16, r_49_17, o_cgt, o_clt, o_go, o_ldi, o_pi, o_rz, acR_nx, acR_re, acR_ca, acR_no, acR_if, Kc_i, Kc_n, a_lg, a_ls, a_kl, a_pk, a_sw, cw_n, cw_i, cw_l, cw_r, List.length_cons, List.length_nil, List.getElem?_cons_succ, List.getElem?_cons_zero, ↓reduceIte, decide_true, decide_false, Bool.false_eq_true, or_true, true_or, or_false, false_or, or_self, and_true, true_and, not_true_eq_false, not_false_eq_true, Nat.reduceEqDiff, Nat.reduceLT, Nat.reduceLeDiff, Nat.reduceAdd, Nat.reduceSub, Nat.reduceMul, Nat.reduceDiv, Nat.reduceMod, Nat.zero_add, Nat.add_zero, n_z, n_1, n_ltz, n_zlt, n_lt, n_eq, n_cl, n_in, nI_add, pk_mul, n_div, n_sub, nm_mod, h1, h2, Bool.false_and]
  · have h2 : 97 ≤ d := by omega
    by_cases h3 : 122 < d
    · have h4 : ¬ d ≤ 122 := by omega
      simp (disch := first | assumption | omega) only [cl_49, r_49_0, r_49_1, r_49_3, r_49_6, r_49_7, r_49_9, r_49_12, r_49_13, r_49_16, r_49_17, o_cgt, o_clt, o_go, o_ldi, o_pi, o_rz, acR_nx, acR_re, acR_ca, acR_no, acR_if, Kc_i, Kc_n, a_lg, a_ls, a_kl, a_pk, a_sw, cw_n, cw_i, cw_l, cw_r, List.length_cons, List.length_nil, List.getElem?_cons_succ, List.getElem?_cons_zero, ↓reduceIte, decide_true, decide_false, Bool.false_eq_true, or_true, true_or, or_false, false_or, or_self, and_true, true_and, not_true_eq_false, not_false_eq_true, Nat.reduceEqDiff, Nat.reduceLT, Nat.reduceLeDiff, Nat.reduceAdd, Nat.reduceSub, Nat.reduceMul, Nat.reduceDiv, Nat.reduceMod, Nat.zero_add, Nat.add_zero, n_z, n_1, n_ltz, n_zlt, n_lt, n_eq, n_cl, n_in, nI_add, pk_mul, n_div, n_sub, nm_mod, h1, h2, h3, h4, Bool.and_false]
    · have h4 : d ≤ 122 := by omega
      simp (disch := first | assumption | omega) only [cl_49, r_49_0, r_49_1, r_49_3, r_49_6, r_49_7, r_49_9, r_49_12, r_49_13, r_49_16, r_49_17, o_cgt, o_clt, o_go, o_ldi, o_pi, o_rz, acR_nx, acR_re, acR_ca, acR_no, acR_if, Kc_i, Kc_n, a_lg, a_ls, a_kl, a_pk, a_sw, cw_n, cw_i, cw_l, cw_r, List.length_cons, List.length_nil, List.getElem?_cons_succ, List.getElem?_cons_zero, ↓reduceIte, decide_true, decide_false, Bool.false_eq_true, or_true, true_or, or_false, false_or, or_self, and_true, true_and, not_true_eq_false, not_false_eq_true, Nat.reduceEqDiff, Nat.reduceLT, Nat.reduceLeDiff, Nat.reduceAdd, Nat.reduceSub, Nat.reduceMul, Nat.reduceDiv, Nat.reduceMod, Nat.zero_add, Nat.add_zero, n_z, n_1, n_ltz, n_zlt, n_lt, n_eq, n_cl, n_in, nI_add, pk_mul, n_div, n_sub, nm_mod, h1, h2, h3, h4, Bool.and_self]
theorem c_isF {d : Nat} (hd : d < 2147483648) (σ : a_HP) (Q : Option Value → a_HP → Prop) : Cl 50 [.int (nI d)] σ Q = if isF d = true then Q (some (.int (nI 1))) σ else Q (some (.int (nI 0))) σ := by
  unfold isF
  by_cases h1 : d < 48
  · have h2 : ¬ 48 ≤ d := by omega
    simp (disch := first | assumption | omega) only [cl_50, r_50_0, r_50_1, r_50_3, r_50_6, r_50_7, r_50_9, r_50_12, r_50_13, r_50_16, r_50_17, o_cgt, o_clt, o_go, o_ldi, o_pi, o_rz, acR_nx, acR_re, acR_ca, acR_no, acR_if, Kc_i, Kc_n, a_lg, a_ls, a_kl, a_pk, a_sw, cw_n, cw_i, cw_l, cw_r, List.length_cons, List.length_nil, List.getElem?_cons_succ, List.getElem?_cons_zero, ↓reduceIte, decide_true, decide_false, Bool.false_eq_true, or_true, true_or, or_false, false_or, or_self, and_true, true_and, not_true_eq_false, not_false_eq_true, Nat.reduceEqDiff, Nat.reduceLT, Nat.reduceLeDiff, Nat.reduceAdd, Nat.reduceSub, Nat.reduceMul, Nat.reduceDiv, Nat.reduceMod, Nat.zero_add, Nat.add_zero, n_z, n_1, n_ltz, n_zlt, n_lt, n_eq, n_cl, n_in, nI_add, pk_mul, n_div, n_sub, nm_mod, h1, h2, Bool.false_and]
  · have h2 : 48 ≤ d := by omega
    by_cases h3 : 57 < d
    · have h4 : ¬ d ≤ 57 := by omega
      simp (disch := first | assumption | omega) only [cl_50, r_50_0, r_50_1, r_50_3, r_50_6, r_50_7, r_50_9, r_50_12, r_50_13, r_50_16, r_50_17, o_cgt, o_clt, o_go, o_ldi, o_pi, o_rz, acR_nx, acR_re, acR_ca, acR_no, acR_if, Kc_i, Kc_n, a_lg, a_ls, a_kl, a_pk, a_sw, cw_n, cw_i, cw_l, cw_r, List.length_cons, List.length_nil, List.getElem?_cons_succ, List.getElem?_cons_zero, ↓reduceIte, decide_true, decide_false, Bool.false_eq_true, or_true, true_or, or_false, false_or, or_self, and_true, true_and, not_true_eq_false, not_false_eq_true, Nat.reduceEqDiff, Nat.reduceLT, Nat.reduceLeDiff, Nat.reduceAdd, Nat.reduceSub, Nat.reduceMul, Nat.reduceDiv, Nat.reduceMod, Nat.zero_add, Nat.add_zero, n_z, n_1, n_ltz, n_zlt, n_lt, n_eq, n_cl, n_in, nI_add, pk_mul, n_div, n_sub, nm_mod, h1, h2, h3, h4, Bool.and_false]
    · have h4 : d ≤ 57 := by omega
      simp (disch := first | assumption | omega) only [cl_50, r_50_0, r_50_1, r_50_3, r_50_6, r_50_7, r_50_9, r_50_12, r_50_13, r_50_16, r_50_17, o_cgt, o_clt, o_go, o_ldi, o_pi, o_rz, acR_nx, acR_re, acR_ca, acR_no, acR_if, Kc_i, Kc_n, a_lg, a_ls, a_kl, a_pk, a_sw, cw_n, cw_i, cw_l, cw_r, List.length_cons, List.length_nil, List.getElem?_cons_succ, List.getElem?_cons_zero, ↓reduceIte, decide_true, decide_false, Bool.false_eq_true, or_true, true_or, or_false, false_or, or_self, and_true, true_and, not_true_eq_false, not_false_eq_true, Nat.reduceEqDiff, Nat.reduceLT, Nat.reduceLeDiff, Nat.reduceAdd, Nat.reduceSub, Nat.reduceMul, Nat.reduceDiv, Nat.reduceMod, Nat.zero_add, Nat.add_zero, n_z, n_1, n_ltz, n_zlt, n_lt, n_eq, n_cl, n_in, nI_add, pk_mul, n_div, n_sub, nm_mod, h1, h2, h3, h4, Bool.and_self]
theorem sb_2 : (a_sb 72).length = 3 := by decide
theorem sb_3 : (a_sb 73).length = 4 := by decide
theorem sb_4 : (a_sb 74).length = 4 := by decide
theorem sb_20 : (a_sb 72).getD 0 0 = nI 110 := by decide
theorem sb_21 : (a_sb 72).getD 1 0 = nI 101 := by decide
theorem sb_22 : (a_sb 72).getD 2 0 = nI 116 := by decide
theorem sb_30 : (a_sb 73).getD 0 0 = nI 107 := by decide
theorem sb_31 : (a_sb 73).getD 1 0 = nI 110 := by decide
theorem sb_32 : (a_sb 73).getD 2 0 = nI 111 := by decide
theorem sb_33 : (a_sb 73).getD 3 0 = nI 116 := by decide
theorem sb_40 : (a_sb 74).getD 0 0 = nI 119 := by decide
theorem sb_41 : (a_sb 74).getD 1 0 = nI 105 := by decide
theorem sb_42 : (a_sb 74).getD 2 0 = nI 100 := by decide
theorem sb_43 : (a_sb 74).getD 3 0 = nI 101 := by decide
/-- a text of z bytes lies there -/
def tx (z : Nat) (t : Nat → Nat) (r : Nat → Int32) : Prop := z ≤ 150 ∧ ∀ j, j < z → r j = nI (t j) ∧ t j ≤ 127
theorem c_isNet {z : Nat} {t : Nat → Nat} {σ : a_HP} (ht : tx z t (σ.1 14)) {o R : Nat → Int32} {s e : Nat} (h4 : o 4 = nI e) (h6 : o 6 = nI s) (hse : s ≤ e) (hez : e ≤ z) (Q : Option Value → a_HP → Prop) : Cl 47 [.ref 13, .ref 72] (TS σ o R) Q = if isW t s e wNet = true then Q (some (.int (nI 1))) (TS σ o R) else Q (some (.int (nI 0))) (TS σ o R) := by
  obtain ⟨hz, ht⟩ := ht
  unfold isW wNet
  by_cases l : e - s = 3
  · obtain ⟨t0, u0⟩ := ht s (by omega)
    obtain ⟨t1, u1⟩ := ht (s + 1) (by omega)
    obtain ⟨t2, u2⟩ := ht (s + 2) (by omega)
    have b0 : s < 150 := by omega
    have b1 : s + 1 < 150 := by omega
    have b2 : s + 2 < 150 := by omega
    simp (disch := first | assumption | omega) only [cl_47, r_47_0, r_47_1, r_47_4, r_47_5, r_47_8, r_47_9, r_47_10, r_47_13, r_47_16, r_47_17, r_47_18, r_47_19, r_47_20, r_47_21, r_47_22, r_47_25, r_47_28, r_47_29, r_47_32, r_47_33, r_47_36, r_47_37, r_47_38, r_47_39, r_47_40, r_47_41, r_47_44, r_47_47, r_47_48, r_47_49, r_47_52, r_47_55, r_47_56, f_add, f_sub, o_bal, o_bi, o_ceq, o_cge, o_get, o_go, o_inc, o_lda, o_ldi, o_pi, o_rz, o_sch, o_sln, o_sti, acR_nx, acR_re, acR_ca, acR_no, acR_if, Kc_i, Kc_n, a_lg, a_ls, a_kl, a_pk, a_sw, cw_n, cw_i, cw_l, cw_r, List.length_cons, List.length_nil, List.getElem?_cons_succ, List.getElem?_cons_zero, ↓reduceIte, decide_true, decide_false, Bool.false_eq_true, or_true, true_or, or_false, false_or, or_self, and_true, true_and, not_true_eq_false, not_false_eq_true, Nat.reduceEqDiff, Nat.reduceLT, Nat.reduceLeDiff, Nat.reduceAdd, Nat.reduceSub, Nat.reduceMul, Nat.reduceDiv, Nat.reduceMod, Nat.zero_add, Nat.add_zero, n_z, n_1, n_ltz, n_zlt, n_lt, n_eq, n_cl, n_in, nI_add, pk_mul, n_div, n_sub, nm_mod, ly_13, ly_14, TS_13, TS_14, h4, h6, sb_2, sb_20, sb_21, sb_22, l, t0, t1, t2, b0, b1, b2, List.getD_cons_zero, List.getD_cons_succ]
    by_cases q0 : t s = 110 <;> by_cases q1 : t (s + 1) = 101 <;> by_cases q2 : t (s + 2) = 116 <;> simp [q0, q1, q2]
  · simp (disch := first | assumption | omega) only [cl_47, r_47_0, r_47_1, r_47_4, r_47_5, r_47_8, r_47_9, r_47_10, r_47_13, r_47_16, r_47_17, r_47_18, r_47_19, r_47_21, r_47_22, r_47_25, r_47_28, r_47_29, r_47_32, r_47_33, r_47_36, r_47_37, r_47_38, r_47_39, r_47_40, r_47_41, r_47_44, r_47_47, r_47_48, r_47_49, r_47_52, r_47_55, r_47_56, f_add, f_sub, o_bal, o_bi, o_ceq, o_cge, o_get, o_go, o_inc, o_lda, o_ldi, o_pi, o_rz, o_sch, o_sln, o_sti, acR_nx, acR_re, acR_ca, acR_no, acR_if, Kc_i, Kc_n, a_lg, a_ls, a_kl, a_pk, a_sw, cw_n, cw_i, cw_l, cw_r, List.length_cons, List.length_nil, List.getElem?_cons_succ, List.getElem?_cons_zero, ↓reduceIte, decide_true, decide_false, Bool.false_eq_true, or_true, true_or, or_false, false_or, or_self, and_true, true_and, not_true_eq_false, not_false_eq_true, Nat.reduceEqDiff, Nat.reduceLT, Nat.reduceLeDiff, Nat.reduceAdd, Nat.reduceSub, Nat.reduceMul, Nat.reduceDiv, Nat.reduceMod, Nat.zero_add, Nat.add_zero, n_z, n_1, n_ltz, n_zlt, n_lt, n_eq, n_cl, n_in, nI_add, pk_mul, n_div, n_sub, nm_mod, ly_13, ly_14, TS_13, TS_14, h4, h6, sb_2, l, Bool.false_and]
theorem c_isKnotW {z : Nat} {t : Nat → Nat} {σ : a_HP} (ht : tx z t (σ.1 14)) {o R : Nat → Int32} {s e : Nat} (h4 : o 4 = nI e) (h6 : o 6 = nI s) (hse : s ≤ e) (hez : e ≤ z) (Q : Option Value → a_HP → Prop) : Cl 47 [.ref 13, .ref 73] (TS σ o R) Q = if isW t s e wKnot = true then Q (some (.int (nI 1))) (TS σ o R) else Q (some (.int (nI 0))) (TS σ o R) := by
  obtain ⟨hz, ht⟩ := ht
  unfold isW wKnot
  by_cases l : e - s = 4
  · obtain ⟨t0, u0⟩ := ht s (by omega)
    obtain ⟨t1, u1⟩ := ht (s + 1) (by omega)
    obtain ⟨t2, u2⟩ := ht (s + 2) (by omega)
    obtain ⟨t3, u3⟩ := ht (s + 3) (by omega)
    have b0 : s < 150 := by omega
    have b1 : s + 1 < 150 := by omega
    have b2 : s + 2 < 150 := by omega
    have b3 : s + 3 < 150 := by omega
    simp (disch := first | assumption | omega) only [cl_47, r_47_0, r_47_1, r_47_4, r_47_5, r_47_8, r_47_9, r_47_10, r_47_13, r_47_16, r_47_17, r_47_18, r_47_19, r_47_20, r_47_21, r_47_22, r_47_25, r_47_28, r_47_29, r_47_32, r_47_33, r_47_36, r_47_37, r_47_38, r_47_39, r_47_40, r_47_41, r_47_44, r_47_47, r_47_48, r_47_49, r_47_52, r_47_55, r_47_56, f_add, f_sub, o_bal, o_bi, o_ceq, o_cge, o_get, o_go, o_inc, o_lda, o_ldi, o_pi, o_rz, o_sch, o_sln, o_sti, acR_nx, acR_re, acR_ca, acR_no, acR_if, Kc_i, Kc_n, a_lg, a_ls, a_kl, a_pk, a_sw, cw_n, cw_i, cw_l, cw_r, List.length_cons, List.length_nil, List.getElem?_cons_succ, List.getElem?_cons_zero, ↓reduceIte, decide_true, decide_false, Bool.false_eq_true, or_true, true_or, or_false, false_or, or_self, and_true, true_and, not_true_eq_false, not_false_eq_true, Nat.reduceEqDiff, Nat.reduceLT, Nat.reduceLeDiff, Nat.reduceAdd, Nat.reduceSub, Nat.reduceMul, Nat.reduceDiv, Nat.reduceMod, Nat.zero_add, Nat.add_zero, n_z, n_1, n_ltz, n_zlt, n_lt, n_eq, n_cl, n_in, nI_add, pk_mul, n_div, n_sub, nm_mod, ly_13, ly_14, TS_13, TS_14, h4, h6, sb_3, sb_30, sb_31, sb_32, sb_33, l, t0, t1, t2, t3, b0, b1, b2, b3, List.getD_cons_zero, List.getD_cons_succ]
    by_cases q0 : t s = 107 <;> by_cases q1 : t (s + 1) = 110 <;> by_cases q2 : t (s + 2) = 111 <;> by_cases q3 : t (s + 3) = 116 <;> simp [q0, q1, q2, q3]
  · simp (disch := first | assumption | omega) only [cl_47, r_47_0, r_47_1, r_47_4, r_47_5, r_47_8, r_47_9, r_47_10, r_47_13, r_47_16, r_47_17, r_47_18, r_47_19, r_47_21, r_47_22, r_47_25, r_47_28, r_47_29, r_47_32, r_47_33, r_47_36, r_47_37, r_47_38, r_47_39, r_47_40, r_47_41, r_47_44, r_47_47, r_47_48, r_47_49, r_47_52, r_47_55, r_47_56, f_add, f_sub, o_bal, o_bi, o_ceq, o_cge, o_get, o_go, o_inc, o_lda, o_ldi, o_pi, o_rz, o_sch, o_sln, o_sti, acR_nx, acR_re, acR_ca, acR_no, acR_if, Kc_i, Kc_n, a_lg, a_ls, a_kl, a_pk, a_sw, cw_n, cw_i, cw_l, cw_r, List.length_cons, List.length_nil, List.getElem?_cons_succ, List.getElem?_cons_zero, ↓reduceIte, decide_true, decide_false, Bool.false_eq_true, or_true, true_or, or_false, false_or, or_self, and_true, true_and, not_true_eq_false, not_false_eq_true, Nat.reduceEqDiff, Nat.reduceLT, Nat.reduceLeDiff, Nat.reduceAdd, Nat.reduceSub, Nat.reduceMul, Nat.reduceDiv, Nat.reduceMod, Nat.zero_add, Nat.add_zero, n_z, n_1, n_ltz, n_zlt, n_lt, n_eq, n_cl, n_in, nI_add, pk_mul, n_div, n_sub, nm_mod, ly_13, ly_14, TS_13, TS_14, h4, h6, sb_3, l, Bool.false_and]
theorem c_isWideW {z : Nat} {t : Nat → Nat} {σ : a_HP} (ht : tx z t (σ.1 14)) {o R : Nat → Int32} {s e : Nat} (h4 : o 4 = nI e) (h6 : o 6 = nI s) (hse : s ≤ e) (hez : e ≤ z) (Q : Option Value → a_HP → Prop) : Cl 47 [.ref 13, .ref 74] (TS σ o R) Q = if isW t s e wWide = true then Q (some (.int (nI 1))) (TS σ o R) else Q (some (.int (nI 0))) (TS σ o R) := by
  obtain ⟨hz, ht⟩ := ht
  unfold isW wWide
  by_cases l : e - s = 4
  · obtain ⟨t0, u0⟩ := ht s (by omega)
    obtain ⟨t1, u1⟩ := ht (s + 1) (by omega)
    obtain ⟨t2, u2⟩ := ht (s + 2) (by omega)
    obtain ⟨t3, u3⟩ := ht (s + 3) (by omega)
    have b0 : s < 150 := by omega
    have b1 : s + 1 < 150 := by omega
    have b2 : s + 2 < 150 := by omega
    have b3 : s + 3 < 150 := by omega
    simp (disch := first | assumption | omega) only [cl_47, r_47_0, r_47_1, r_47_4, r_47_5, r_47_8, r_47_9, r_47_10, r_47_13, r_47_16, r_47_17, r_47_18, r_47_19, r_47_20, r_47_21, r_47_22, r_47_25, r_47_28, r_47_29, r_47_32, r_47_33, r_47_36, r_47_37, r_47_38, r_47_39, r_47_40, r_47_41, r_47_44, r_47_47, r_47_48, r_47_49, r_47_52, r_47_55, r_47_56, f_add, f_sub, o_bal, o_bi, o_ceq, o_cge, o_get, o_go, o_inc, o_lda, o_ldi, o_pi, o_rz, o_sch, o_sln, o_sti, acR_nx, acR_re, acR_ca, acR_no, acR_if, Kc_i, Kc_n, a_lg, a_ls, a_kl, a_pk, a_sw, cw_n, cw_i, cw_l, cw_r, List.length_cons, List.length_nil, List.getElem?_cons_succ, List.getElem?_cons_zero, ↓reduceIte, decide_true, decide_false, Bool.false_eq_true, or_true, true_or, or_false, false_or, or_self, and_true, true_and, not_true_eq_false, not_false_eq_true, Nat.reduceEqDiff, Nat.reduceLT, Nat.reduceLeDiff, Nat.reduceAdd, Nat.reduceSub, Nat.reduceMul, Nat.reduceDiv, Nat.reduceMod, Nat.zero_add, Nat.add_zero, n_z, n_1, n_ltz, n_zlt, n_lt, n_eq, n_cl, n_in, nI_add, pk_mul, n_div, n_sub, nm_mod, ly_13, ly_14, TS_13, TS_14, h4, h6, sb_4, sb_40, sb_41, sb_42, sb_43, l, t0, t1, t2, t3, b0, b1, b2, b3, List.getD_cons_zero, List.getD_cons_succ]
    by_cases q0 : t s = 119 <;> by_cases q1 : t (s + 1) = 105 <;> by_cases q2 : t (s + 2) = 100 <;> by_cases q3 : t (s + 3) = 101 <;> simp [q0, q1, q2, q3]
  · simp (disch := first | assumption | omega) only [cl_47, r_47_0, r_47_1, r_47_4, r_47_5, r_47_8, r_47_9, r_47_10, r_47_13, r_47_16, r_47_17, r_47_18, r_47_19, r_47_21, r_47_22, r_47_25, r_47_28, r_47_29, r_47_32, r_47_33, r_47_36, r_47_37, r_47_38, r_47_39, r_47_40, r_47_41, r_47_44, r_47_47, r_47_48, r_47_49, r_47_52, r_47_55, r_47_56, f_add, f_sub, o_bal, o_bi, o_ceq, o_cge, o_get, o_go, o_inc, o_lda, o_ldi, o_pi, o_rz, o_sch, o_sln, o_sti, acR_nx, acR_re, acR_ca, acR_no, acR_if, Kc_i, Kc_n, a_lg, a_ls, a_kl, a_pk, a_sw, cw_n, cw_i, cw_l, cw_r, List.length_cons, List.length_nil, List.getElem?_cons_succ, List.getElem?_cons_zero, ↓reduceIte, decide_true, decide_false, Bool.false_eq_true, or_true, true_or, or_false, false_or, or_self, and_true, true_and, not_true_eq_false, not_false_eq_true, Nat.reduceEqDiff, Nat.reduceLT, Nat.reduceLeDiff, Nat.reduceAdd, Nat.reduceSub, Nat.reduceMul, Nat.reduceDiv, Nat.reduceMod, Nat.zero_add, Nat.add_zero, n_z, n_1, n_ltz, n_zlt, n_lt, n_eq, n_cl, n_in, nI_add, pk_mul, n_div, n_sub, nm_mod, ly_13, ly_14, TS_13, TS_14, h4, h6, sb_4, l, Bool.false_and]
theorem c_takeWord {z : Nat} {t : Nat → Nat} {σ : a_HP} (ht : tx z t (σ.1 14)) {o R : Nat → Int32} {s : Nat} (h0 : o 0 = nI z) (h4 : o 4 = nI s) (h6 : o 6 = nI s) (hs : s ≤ z) (Q : Option Value → a_HP → Prop) : Cl 46 [.ref 13] (TS σ o R) Q = Q none (TS σ (upd (upd o 4 (nI (sE isL z t s))) 5 (nI (wk t s (sE isL z t s)))) R) := by
  obtain ⟨hz, htt⟩ := ht
  have scan := sE_ind (P := isL) (z := z) (t := t) (M := fun p => ∀ o : Nat → Int32, o 0 = nI z → o 4 = nI p → Rn 46 0 [some (.ref 13)] [] (TS σ o R) Q = Rn 46 39 [some (.ref 13)] [] (TS σ (upd o 4 (nI (sE isL z t p))) R) Q) (fun p hp h o h0 h4 => by
    rw [sE_stop h, ud_id o h4, r_46_0]
    by_cases q : p < z
    · obtain ⟨t0, u0⟩ := htt p q
      have b0 : p < 150 := by omega
      have q2 : ¬ isL (t p) = true := fun w => h ⟨q, w⟩
      have q3 : t p < 2147483648 := by omega
      simp (disch := first | assumption | omega) only [r_46_1, r_46_4, r_46_5, r_46_8, r_46_11, r_46_12, r_46_15, r_46_16, r_46_19, r_46_20, r_46_23, r_46_26, r_46_27, r_46_28, r_46_31, r_46_32, r_46_33, r_46_36, r_46_40, r_46_42, r_46_45, r_46_48, r_46_49, r_46_50, r_46_53, r_46_56, r_46_57, r_46_59, r_46_62, r_46_65, r_46_66, r_46_67, r_46_70, r_46_73, r_46_74, r_46_75, r_46_77, r_46_80, r_46_83, r_46_84, r_46_87, r_46_89, r_46_92, f_add, o_bal, o_bi, o_cge, o_dup, o_eq, o_get, o_go, o_ivs, o_ivv, o_lda, o_lds, o_pi, o_put, o_rv, acR_nx, acR_re, acR_ca, acR_no, acR_if, Kc_i, Kc_n, a_lg, a_ls, a_kl, a_pk, a_sw, cw_n, cw_i, cw_l, cw_r, List.length_cons, List.length_nil, List.getElem?_cons_succ, List.getElem?_cons_zero, ↓reduceIte, decide_true, decide_false, Bool.false_eq_true, or_true, true_or, or_false, false_or, or_self, and_true, true_and, not_true_eq_false, not_false_eq_true, Nat.reduceEqDiff, Nat.reduceLT, Nat.reduceLeDiff, Nat.reduceAdd, Nat.reduceSub, Nat.reduceMul, Nat.reduceDiv, Nat.reduceMod, Nat.zero_add, Nat.add_zero, n_z, n_1, n_ltz, n_zlt, n_lt, n_eq, n_cl, n_in, nI_add, pk_mul, n_div, n_sub, nm_mod, ly_13, ly_14, TS_13, TS_14, h0, h4, q, t0, b0, c_isL q3, q2]
    · simp (disch := first | assumption | omega) only [r_46_1, r_46_4, r_46_5, r_46_8, r_46_11, r_46_12, r_46_15, r_46_16, r_46_19, r_46_20, r_46_23, r_46_26, r_46_27, r_46_28, r_46_31, r_46_32, r_46_33, r_46_36, r_46_40, r_46_42, r_46_45, r_46_48, r_46_49, r_46_50, r_46_53, r_46_56, r_46_57, r_46_59, r_46_62, r_46_65, r_46_66, r_46_67, r_46_70, r_46_73, r_46_74, r_46_75, r_46_77, r_46_80, r_46_83, r_46_84, r_46_87, r_46_89, r_46_92, f_add, o_bal, o_bi, o_cge, o_dup, o_eq, o_get, o_go, o_ivs, o_ivv, o_lda, o_lds, o_pi, o_put, o_rv, o_lda, acR_nx, acR_re, acR_ca, acR_no, acR_if, Kc_i, Kc_n, a_lg, a_ls, a_kl, a_pk, a_sw, cw_n, cw_i, cw_l, cw_r, List.length_cons, List.length_nil, List.getElem?_cons_succ, List.getElem?_cons_zero, ↓reduceIte, decide_true, decide_false, Bool.false_eq_true, or_true, true_or, or_false, false_or, or_self, and_true, true_and, not_true_eq_false, not_false_eq_true, Nat.reduceEqDiff, Nat.reduceLT, Nat.reduceLeDiff, Nat.reduceAdd, Nat.reduceSub, Nat.reduceMul, Nat.reduceDiv, Nat.reduceMod, Nat.zero_add, Nat.add_zero, n_z, n_1, n_ltz, n_zlt, n_lt, n_eq, n_cl, n_in, nI_add, pk_mul, n_div, n_sub, nm_mod, ly_13, ly_14, TS_13, TS_14, h0, h4, q]) (fun p h1 h2 ih o h0 h4 => by
    rw [sE_step h1 h2, r_46_0]
    obtain ⟨t0, u0⟩ := htt p h1
    have b0 : p < 150 := by omega
    have q3 : t p < 2147483648 := by omega
    have := ih (upd o 4 (nI (p + 1))) (by rw [ud_1, if_neg (by omega)]; exact h0) (by rw [ud_1, if_pos rfl])
    rw [ud_ud] at this
    simp (disch := first | assumption | omega) only [r_46_1, r_46_4, r_46_5, r_46_8, r_46_11, r_46_12, r_46_15, r_46_16, r_46_19, r_46_20, r_46_23, r_46_26, r_46_27, r_46_28, r_46_31, r_46_32, r_46_33, r_46_36, r_46_40, r_46_42, r_46_45, r_46_48, r_46_49, r_46_50, r_46_53, r_46_56, r_46_57, r_46_59, r_46_62, r_46_65, r_46_66, r_46_67, r_46_70, r_46_73, r_46_74, r_46_75, r_46_77, r_46_80, r_46_83, r_46_84, r_46_87, r_46_89, r_46_92, f_add, o_bal, o_bi, o_cge, o_dup, o_eq, o_get, o_go, o_ivs, o_ivv, o_lda, o_lds, o_pi, o_put, o_rv, acR_nx, acR_re, acR_ca, acR_no, acR_if, Kc_i, Kc_n, a_lg, a_ls, a_kl, a_pk, a_sw, cw_n, cw_i, cw_l, cw_r, List.length_cons, List.length_nil, List.getElem?_cons_succ, List.getElem?_cons_zero, ↓reduceIte, decide_true, decide_false, Bool.false_eq_true, or_true, true_or, or_false, false_or, or_self, and_true, true_and, not_true_eq_false, not_false_eq_true, Nat.reduceEqDiff, Nat.reduceLT, Nat.reduceLeDiff, Nat.reduceAdd, Nat.reduceSub, Nat.reduceMul, Nat.reduceDiv, Nat.reduceMod, Nat.zero_add, Nat.add_zero, n_z, n_1, n_ltz, n_zlt, n_lt, n_eq, n_cl, n_in, nI_add, pk_mul, n_div, n_sub, nm_mod, ly_13, ly_14, TS_13, TS_14, TS_w13, h0, h4, h1, t0, b0, c_isL q3, h2]
    exact this) _ s rfl hs o h0 h4
  obtain ⟨e1, e2⟩ := sE_ge (P := isL) (t := t) hs
  generalize sE isL z t s = e at *
  simp (disch := first | assumption | omega) only [cl_46, acR_nx, acR_re, acR_ca, acR_no, acR_if, Kc_i, Kc_n, a_lg, a_ls, a_kl, a_pk, a_sw, cw_n, cw_i, cw_l, cw_r, List.length_cons, List.length_nil, List.getElem?_cons_succ, List.getElem?_cons_zero, ↓reduceIte, decide_true, decide_false, Bool.false_eq_true, or_true, true_or, or_false, false_or, or_self, and_true, true_and, not_true_eq_false, not_false_eq_true, Nat.reduceEqDiff, Nat.reduceLT, Nat.reduceLeDiff, Nat.reduceAdd, Nat.reduceSub, Nat.reduceMul, Nat.reduceDiv, Nat.reduceMod, Nat.zero_add, Nat.add_zero]
  rw [scan]
  have g4 : upd o 4 (nI e) 4 = nI e := by rw [ud_1, if_pos rfl]
  have g6 : upd o 4 (nI e) 6 = nI s := by rw [ud_1, if_neg (by omega)]; exact h6
  have c1 := c_isNet (R := R) ⟨hz, htt⟩ g4 g6 e1 e2
  have c2 := c_isKnotW (R := R) ⟨hz, htt⟩ g4 g6 e1 e2
  have c3 := c_isWideW (R := R) ⟨hz, htt⟩ g4 g6 e1 e2
  unfold wk
  by_cases q1 : isW t s e wNet = true
  · simp (disch := first | assumption | omega) only [r_46_1, r_46_4, r_46_5, r_46_8, r_46_11, r_46_12, r_46_15, r_46_16, r_46_19, r_46_20, r_46_23, r_46_26, r_46_27, r_46_28, r_46_31, r_46_32, r_46_33, r_46_36, r_46_39, r_46_40, r_46_42, r_46_45, r_46_48, r_46_49, r_46_50, r_46_53, r_46_56, r_46_57, r_46_59, r_46_62, r_46_65, r_46_66, r_46_67, r_46_70, r_46_73, r_46_74, r_46_75, r_46_77, r_46_80, r_46_83, r_46_84, r_46_87, r_46_89, r_46_92, f_add, o_bal, o_bi, o_cge, o_dup, o_eq, o_get, o_go, o_ivs, o_ivv, o_lda, o_lds, o_pi, o_put, o_rv, acR_nx, acR_re, acR_ca, acR_no, acR_if, Kc_i, Kc_n, a_lg, a_ls, a_kl, a_pk, a_sw, cw_n, cw_i, cw_l, cw_r, List.length_cons, List.length_nil, List.getElem?_cons_succ, List.getElem?_cons_zero, ↓reduceIte, decide_true, decide_false, Bool.false_eq_true, or_true, true_or, or_false, false_or, or_self, and_true, true_and, not_true_eq_false, not_false_eq_true, Nat.reduceEqDiff, Nat.reduceLT, Nat.reduceLeDiff, Nat.reduceAdd, Nat.reduceSub, Nat.reduceMul, Nat.reduceDiv, Nat.reduceMod, Nat.zero_add, Nat.add_zero, n_z, n_1, n_ltz, n_zlt, n_lt, n_eq, n_cl, n_in, nI_add, pk_mul, n_div, n_sub, nm_mod, ly_13, c1, q1, TS_w13]
  · by_cases q2 : isW t s e wKnot = true
    · simp (disch := first | assumption | omega) only [r_46_1, r_46_4, r_46_5, r_46_8, r_46_11, r_46_12, r_46_15, r_46_16, r_46_19, r_46_20, r_46_23, r_46_26, r_46_27, r_46_28, r_46_31, r_46_32, r_46_33, r_46_36, r_46_39, r_46_40, r_46_42, r_46_45, r_46_48, r_46_49, r_46_50, r_46_53, r_46_56, r_46_57, r_46_59, r_46_62, r_46_65, r_46_66, r_46_67, r_46_70, r_46_73, r_46_74, r_46_75, r_46_77, r_46_80, r_46_83, r_46_84, r_46_87, r_46_89, r_46_92, f_add, o_bal, o_bi, o_cge, o_dup, o_eq, o_get, o_go, o_ivs, o_ivv, o_lda, o_lds, o_pi, o_put, o_rv, acR_nx, acR_re, acR_ca, acR_no, acR_if, Kc_i, Kc_n, a_lg, a_ls, a_kl, a_pk, a_sw, cw_n, cw_i, cw_l, cw_r, List.length_cons, List.length_nil, List.getElem?_cons_succ, List.getElem?_cons_zero, ↓reduceIte, decide_true, decide_false, Bool.false_eq_true, or_true, true_or, or_false, false_or, or_self, and_true, true_and, not_true_eq_false, not_false_eq_true, Nat.reduceEqDiff, Nat.reduceLT, Nat.reduceLeDiff, Nat.reduceAdd, Nat.reduceSub, Nat.reduceMul, Nat.reduceDiv, Nat.reduceMod, Nat.zero_add, Nat.add_zero, n_z, n_1, n_ltz, n_zlt, n_lt, n_eq, n_cl, n_in, nI_add, pk_mul, n_div, n_sub, nm_mod, ly_13, c1, q1, c2, q2, TS_w13]
    · by_cases q3 : isW t s e wWide = true
      · simp (disch := first | assumption | omega) only [r_46_1, r_46_4, r_46_5, r_46_8, r_46_11, r_46_12, r_46_15, r_46_16, r_46_19, r_46_20, r_46_23, r_46_26, r_46_27, r_46_28, r_46_31, r_46_32, r_46_33, r_46_36, r_46_39, r_46_40, r_46_42, r_46_45, r_46_48, r_46_49, r_46_50, r_46_53, r_46_56, r_46_57, r_46_59, r_46_62, r_46_65, r_46_66, r_46_67, r_46_70, r_46_73, r_46_74, r_46_75, r_46_77, r_46_80, r_46_83, r_46_84, r_46_87, r_46_89, r_46_92, f_add, o_bal, o_bi, o_cge, o_dup, o_eq, o_get, o_go, o_ivs, o_ivv, o_lda, o_lds, o_pi, o_put, o_rv, acR_nx, acR_re, acR_ca, acR_no, acR_if, Kc_i, Kc_n, a_lg, a_ls, a_kl, a_pk, a_sw, cw_n, cw_i, cw_l, cw_r, List.length_cons, List.length_nil, List.getElem?_cons_succ, List.getElem?_cons_zero, ↓reduceIte, decide_true, decide_false, Bool.false_eq_true, or_true, true_or, or_false, false_or, or_self, and_true, true_and, not_true_eq_false, not_false_eq_true, Nat.reduceEqDiff, Nat.reduceLT, Nat.reduceLeDiff, Nat.reduceAdd, Nat.reduceSub, Nat.reduceMul, Nat.reduceDiv, Nat.reduceMod, Nat.zero_add, Nat.add_zero, n_z, n_1, n_ltz, n_zlt, n_lt, n_eq, n_cl, n_in, nI_add, pk_mul, n_div, n_sub, nm_mod, ly_13, c1, q1, c2, q2, c3, q3, TS_w13]
      · simp (disch := first | assumption | omega) only [r_46_1, r_46_4, r_46_5, r_46_8, r_46_11, r_46_12, r_46_15, r_46_16, r_46_19, r_46_20, r_46_23, r_46_26, r_46_27, r_46_28, r_46_31, r_46_32, r_46_33, r_46_36, r_46_39, r_46_40, r_46_42, r_46_45, r_46_48, r_46_49, r_46_50, r_46_53, r_46_56, r_46_57, r_46_59, r_46_62, r_46_65, r_46_66, r_46_67, r_46_70, r_46_73, r_46_74, r_46_75, r_46_77, r_46_80, r_46_83, r_46_84, r_46_87, r_46_89, r_46_92, f_add, o_bal, o_bi, o_cge, o_dup, o_eq, o_get, o_go, o_ivs, o_ivv, o_lda, o_lds, o_pi, o_put, o_rv, acR_nx, acR_re, acR_ca, acR_no, acR_if, Kc_i, Kc_n, a_lg, a_ls, a_kl, a_pk, a_sw, cw_n, cw_i, cw_l, cw_r, List.length_cons, List.length_nil, List.getElem?_cons_succ, List.getElem?_cons_zero, ↓reduceIte, decide_true, decide_false, Bool.false_eq_true, or_true, true_or, or_false, false_or, or_self, and_true, true_and, not_true_eq_false, not_false_eq_true, Nat.reduceEqDiff, Nat.reduceLT, Nat.reduceLeDiff, Nat.reduceAdd, Nat.reduceSub, Nat.reduceMul, Nat.reduceDiv, Nat.reduceMod, Nat.zero_add, Nat.add_zero, n_z, n_1, n_ltz, n_zlt, n_lt, n_eq, n_cl, n_in, nI_add, pk_mul, n_div, n_sub, nm_mod, ly_13, c1, q1, c2, q2, c3, q3, TS_w13]
