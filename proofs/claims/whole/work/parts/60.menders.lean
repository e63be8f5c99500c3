/-! menders: what both reckon -/
def ch (c i : Nat) : Nat := if i < 4 then kA c i else 16
def mn (v : Int32) (m : Nat) : Int32 := if nI 9 < v + nI m then nI 9 else v + nI m
theorem mn_eq (a b : Int32) : (if a < b then a else b) = (if b < a then b else a) := by
  by_cases h1 : a < b
  · have h2 : ¬ b < a := fun h => absurd (Int32.lt_iff_toInt_lt.mp h) (by have := Int32.lt_iff_toInt_lt.mp h1; omega)
    rw [if_pos h1, if_neg h2]
  · by_cases h2 : b < a
    · rw [if_neg h1, if_pos h2]
    · rw [if_neg h1, if_neg h2]
      apply Int32.toInt_inj.mp
      have h3 : ¬ a.toInt < b.toInt := fun h => h1 (Int32.lt_iff_toInt_lt.mpr h)
      have h4 : ¬ b.toInt < a.toInt := fun h => h2 (Int32.lt_iff_toInt_lt.mpr h)
      omega
def mS (m : Nat) (st : Nat → Int32) (x : Nat) : Nat → Int32 := if x < 16 then upd st x (mn (st x) m) else st
def nM (f : Nat → Int32) (c m x y : Nat) : Bool := decide (pC (f 0) (fun j => f (4 + j)) (mS m (mS m (fun j => f (20 + j)) x) y) c < f (52 + c))
def gv (nl : Bool) (x : Bool) (m : Nat) : Int32 := (if nl = true then nI 0 else nI 10) - (if x = true then nI m else nI 0)
def gG (f : Nat → Int32) (c m own other : Nat) : Int32 := gv (nM f c m own other) (decide (own < 16)) m
def mayN (f : Nat → Int32) (c k : Nat) : Bool := decide (k = 16) || (hK c k && decide (¬ f (20 + k) = 0))
def allB (p : Nat → Bool) : Nat → Bool
  | 0 => true
  | i + 1 => allB p i && p i
def rst (f : Nat → Int32) (c m own other : Nat) : Bool := allB (fun k => !mayN f c k || !decide (gG f c m own other < gG f c m k other)) 17
def fr {α : Type} (s : α → Nat → α) (z : α) : Nat → α
  | 0 => z
  | i + 1 => s (fr s z i) i
def stp (R : Nat → Nat → Bool) (x : Nat) (acc : Int32 × Int32) (y : Nat) : Int32 × Int32 := if R x y = true then (acc.1 + nI 1, if acc.2 = -1 then nI (17 * x + y) else acc.2) else acc
def RR (f : Nat → Int32) (a b m x y : Nat) : Bool := mayN f a x && (mayN f b y && (rst f a m x y && rst f b m y x))
theorem hK_ch : ∀ c : Fin 9, ∀ k : Fin 16, hK c.val k.val = (decide (kA c.val 0 = k.val) || (decide (kA c.val 1 = k.val) || (decide (kA c.val 2 = k.val) || decide (kA c.val 3 = k.val)))) := by decide +kernel
theorem fr_ch {α : Type} {c : Nat} (hc : c < 9) (s : α → Nat → α) (z : α) (h : ∀ acc k, k < 17 → (hK c k || decide (k = 16)) = false → s acc k = acc) : fr s z 17 = fr (fun acc i => s acc (ch c i)) z 5 := by
  rcases (show c = 0 ∨ c = 1 ∨ c = 2 ∨ c = 3 ∨ c = 4 ∨ c = 5 ∨ c = 6 ∨ c = 7 ∨ c = 8 by omega) with rfl | rfl | rfl | rfl | rfl | rfl | rfl | rfl | rfl
  all_goals simp (disch := decide) only [fr, h]
  all_goals rfl
theorem allB_ch {c : Nat} (hc : c < 9) (p : Nat → Bool) (h : ∀ k, k < 17 → (hK c k || decide (k = 16)) = false → p k = true) : allB p 17 = allB (fun i => p (ch c i)) 5 := by
  rcases (show c = 0 ∨ c = 1 ∨ c = 2 ∨ c = 3 ∨ c = 4 ∨ c = 5 ∨ c = 6 ∨ c = 7 ∨ c = 8 by omega) with rfl | rfl | rfl | rfl | rfl | rfl | rfl | rfl | rfl
  all_goals simp (disch := decide) only [allB, h, Bool.and_true]
  all_goals rfl
theorem mayN_off {f : Nat → Int32} {c k : Nat} (h : (hK c k || decide (k = 16)) = false) : mayN f c k = false := by
  unfold mayN
  rw [Bool.or_eq_false_iff] at h
  rw [h.1, h.2]
  rfl
theorem tot_eq (f : Nat → Int32) {a b : Nat} (ha : a < 9) (hb : b < 9) (m : Nat) (z : Int32 × Int32) : fr (fun acc x => fr (stp (RR f a b m) x) acc 17) z 17 = fr (fun acc i => fr (fun acc j => stp (RR f a b m) (ch a i) acc (ch b j)) acc 5) z 5 := by
  have inner : ∀ x acc, fr (stp (RR f a b m) x) acc 17 = fr (fun acc j => stp (RR f a b m) x acc (ch b j)) acc 5 := fun x acc => fr_ch hb _ _ (fun acc k _ h => by
    unfold stp RR
    rw [mayN_off h]
    simp)
  rw [fr_ch ha _ _ (fun acc k _ h => by
    have : ∀ n, fr (stp (RR f a b m) k) acc n = acc := by
      intro n
      induction n with
      | zero => rfl
      | succ n ih =>
        simp only [fr, ih]
        unfold stp RR
        rw [mayN_off h]
        simp
    exact this 17)]
  simp only [inner]
theorem mS_cm (m : Nat) (st : Nat → Int32) (x y k : Nat) : mS m (mS m st x) y k = mS m (mS m st y) x k := by
  by_cases h : x = y
  · rw [h]
  · unfold mS
    by_cases hx : x < 16
    · by_cases hy : y < 16
      · simp only [hx, hy, if_true, ud_1]
        by_cases q1 : k = x
        · by_cases q2 : k = y
          · omega
          · rw [if_neg q2, if_pos q1, if_pos q1, if_neg h]
        · by_cases q2 : k = y
          · rw [if_pos q2, if_neg q1, if_pos q2, if_neg (fun z => h z.symm)]
          · rw [if_neg q2, if_neg q1, if_neg q1, if_neg q2]
      · simp only [hx, hy, if_true, if_false]
    · simp only [hx, if_false]
theorem nM_cm (f : Nat → Int32) {c : Nat} (hc : c < 9) (m x y : Nat) : nM f c m x y = nM f c m y x := by
  unfold nM
  rw [pC_c rfl (fun _ _ => rfl) (fun k _ => mS_cm m _ x y k) hc]
theorem mS_c {m : Nat} {s s' : Nat → Int32} (h : ∀ k, k < 16 → s k = s' k) (x : Nat) : ∀ k, k < 16 → mS m s x k = mS m s' x k := by
  intro k hk
  unfold mS
  by_cases hx : x < 16
  · rw [if_pos hx, if_pos hx, ud_1, ud_1, h x hx, h k hk]
  · rw [if_neg hx, if_neg hx]; exact h k hk
theorem mS_ok {m : Nat} (hm : m ≤ 9) {s : Nat → Int32} (h : ∀ k, k < 16 → ∃ d : Nat, d ≤ 9 ∧ s k = nI d) (x : Nat) : ∀ k, k < 16 → ∃ d : Nat, d ≤ 9 ∧ mS m s x k = nI d := by
  intro k hk
  unfold mS
  by_cases hx : x < 16
  · rw [if_pos hx, ud_1]
    by_cases q : k = x
    · rw [if_pos q]
      obtain ⟨d, hd, e⟩ := h x hx
      unfold mn
      rw [e, nI_add]
      by_cases z : 9 < d + m
      · rw [if_pos (by rw [n_lt (by omega) (by omega)]; exact z)]; exact ⟨9, by omega, rfl⟩
      · rw [if_neg (by rw [n_lt (by omega) (by omega)]; exact z)]; exact ⟨d + m, by omega, rfl⟩
    · rw [if_neg q]; exact h k hk
  · rw [if_neg hx]; exact h k hk
/-! the reference -/
theorem m_mayChoose {N : Nat} {σ : a_HP} (hv : vN N (σ.1 62)) {c k : Nat} (hc : c < 9) (hk : k < 17) (Q : Option Value → a_HP → Prop) : Cl 191 [.ref 61, .int (nI c), .int (nI k)] σ Q = if mayN (σ.1 62) c k = true then Q (some (.int (nI 1))) σ else Q (some (.int (nI 0))) σ := by
  unfold mayN
  by_cases k16 : k = 16
  · simp (disch := first | assumption | omega) only [cl_191, r_191_0, r_191_1, r_191_3, r_191_6, r_191_7, r_191_8, r_191_11, r_191_14, r_191_15, r_191_18, r_191_20, r_191_21, r_191_22, r_191_23, r_191_26, r_191_27, r_191_30, r_191_31, f_add, o_bi, o_ceq, o_eq, o_get, o_go, o_ial, o_ivs, o_lda, o_ldi, o_le, o_pi, o_rz, acR_nx, acR_re, acR_ca, acR_no, acR_if, Kc_i, Kc_n, a_lg, a_ls, a_kl, a_pk, a_sw, cw_n, cw_i, cw_l, cw_r, List.length_cons, List.length_nil, List.getElem?_cons_succ, List.getElem?_cons_zero, ↓reduceIte, decide_true, decide_false, Bool.false_eq_true, or_true, true_or, or_false, false_or, or_self, and_true, true_and, not_true_eq_false, not_false_eq_true, Nat.reduceEqDiff, Nat.reduceLT, Nat.reduceLeDiff, Nat.reduceAdd, Nat.reduceSub, Nat.reduceMul, Nat.reduceDiv, Nat.reduceMod, Nat.zero_add, Nat.add_zero, n_z, n_1, n_ltz, n_zlt, n_lt, n_eq, n_cl, n_in, nI_add, pk_mul, n_div, n_sub, nm_mod, k16, Bool.true_or]
  · have k2 : k < 16 := by omega
    have k3 : k < 2147483648 := by omega
    have e20 : 20 + k < 481 := by omega
    have pn := pos_ne (hv.2.2.2.2.1 k k2).2.1
    cases q : hK c k with
    | false =>
      simp (disch := first | assumption | omega) only [cl_191, r_191_0, r_191_1, r_191_3, r_191_6, r_191_7, r_191_8, r_191_11, r_191_14, r_191_15, r_191_18, r_191_20, r_191_21, r_191_22, r_191_23, r_191_26, r_191_27, r_191_30, r_191_31, f_add, o_bi, o_ceq, o_eq, o_get, o_go, o_ial, o_ivs, o_lda, o_ldi, o_le, o_pi, o_rz, acR_nx, acR_re, acR_ca, acR_no, acR_if, Kc_i, Kc_n, a_lg, a_ls, a_kl, a_pk, a_sw, cw_n, cw_i, cw_l, cw_r, List.length_cons, List.length_nil, List.getElem?_cons_succ, List.getElem?_cons_zero, ↓reduceIte, decide_true, decide_false, Bool.false_eq_true, or_true, true_or, or_false, false_or, or_self, and_true, true_and, not_true_eq_false, not_false_eq_true, Nat.reduceEqDiff, Nat.reduceLT, Nat.reduceLeDiff, Nat.reduceAdd, Nat.reduceSub, Nat.reduceMul, Nat.reduceDiv, Nat.reduceMod, Nat.zero_add, Nat.add_zero, n_z, n_1, n_ltz, n_zlt, n_lt, n_eq, n_cl, n_in, nI_add, pk_mul, n_div, n_sub, nm_mod, k16, m_isAt hc k3, q, Bool.false_or, Bool.false_and]
    | true =>
      by_cases s : σ.1 62 (20 + k) = 0
      · have s' : ¬ 0 < σ.1 62 (20 + k) := by rw [pn]; exact fun w => w s
        simp (disch := first | assumption | omega) only [cl_191, r_191_0, r_191_1, r_191_3, r_191_6, r_191_7, r_191_8, r_191_11, r_191_14, r_191_15, r_191_18, r_191_20, r_191_21, r_191_22, r_191_23, r_191_26, r_191_27, r_191_30, r_191_31, f_add, o_bi, o_ceq, o_eq, o_get, o_go, o_ial, o_ivs, o_lda, o_ldi, o_le, o_pi, o_rz, acR_nx, acR_re, acR_ca, acR_no, acR_if, Kc_i, Kc_n, a_lg, a_ls, a_kl, a_pk, a_sw, cw_n, cw_i, cw_l, cw_r, List.length_cons, List.length_nil, List.getElem?_cons_succ, List.getElem?_cons_zero, ↓reduceIte, decide_true, decide_false, Bool.false_eq_true, or_true, true_or, or_false, false_or, or_self, and_true, true_and, not_true_eq_false, not_false_eq_true, Nat.reduceEqDiff, Nat.reduceLT, Nat.reduceLeDiff, Nat.reduceAdd, Nat.reduceSub, Nat.reduceMul, Nat.reduceDiv, Nat.reduceMod, Nat.zero_add, Nat.add_zero, n_z, n_1, n_ltz, n_zlt, n_lt, n_eq, n_cl, n_in, nI_add, pk_mul, n_div, n_sub, nm_mod, ly_61, ly_62, k16, m_isAt hc k3, q, Bool.false_or, Bool.true_and, e20, s]
        rfl
      · have s' : 0 < σ.1 62 (20 + k) := by rw [pn]; exact s
        simp (disch := first | assumption | omega) only [cl_191, r_191_0, r_191_1, r_191_3, r_191_6, r_191_7, r_191_8, r_191_11, r_191_14, r_191_15, r_191_18, r_191_20, r_191_21, r_191_22, r_191_23, r_191_26, r_191_27, r_191_30, r_191_31, f_add, o_bi, o_ceq, o_eq, o_get, o_go, o_ial, o_ivs, o_lda, o_ldi, o_le, o_pi, o_rz, acR_nx, acR_re, acR_ca, acR_no, acR_if, Kc_i, Kc_n, a_lg, a_ls, a_kl, a_pk, a_sw, cw_n, cw_i, cw_l, cw_r, List.length_cons, List.length_nil, List.getElem?_cons_succ, List.getElem?_cons_zero, ↓reduceIte, decide_true, decide_false, Bool.false_eq_true, or_true, true_or, or_false, false_or, or_self, and_true, true_and, not_true_eq_false, not_false_eq_true, Nat.reduceEqDiff, Nat.reduceLT, Nat.reduceLeDiff, Nat.reduceAdd, Nat.reduceSub, Nat.reduceMul, Nat.reduceDiv, Nat.reduceMod, Nat.zero_add, Nat.add_zero, n_z, n_1, n_ltz, n_zlt, n_lt, n_eq, n_cl, n_in, nI_add, pk_mul, n_div, n_sub, nm_mod, ly_61, ly_62, k16, m_isAt hc k3, q, Bool.false_or, Bool.true_and, e20, s', s]
theorem m_mends {x m : Nat} (hx : x < 17) (σ : a_HP) (Q : Option Value → a_HP → Prop) : Cl 192 [.ref 61, .int (nI x), .int (nI m)] σ Q = Q none (a_sc σ 64 (if x < 16 then upd (σ.1 64) (20 + x) (mn (σ.1 64 (20 + x)) m) else σ.1 64)) := by
  by_cases h : x < 16
  · have e20 : 20 + x < 481 := by omega
    unfold mn
    by_cases q : nI 9 < σ.1 64 (20 + x) + nI m
    · simp (disch := first | assumption | omega) only [cl_192, r_192_0, r_192_1, r_192_3, r_192_6, r_192_7, r_192_10, r_192_12, r_192_13, r_192_14, r_192_15, r_192_16, r_192_17, r_192_18, r_192_19, r_192_22, r_192_24, r_192_25, r_192_26, r_192_27, r_192_29, r_192_32, r_192_34, r_192_37, r_192_38, r_192_39, f_add, o_bi, o_cge, o_cle, o_get, o_go, o_ial, o_ias, o_lda, o_ldi, o_pi, o_rv, o_sti, acR_nx, acR_re, acR_ca, acR_no, acR_if, Kc_i, Kc_n, a_lg, a_ls, a_kl, a_pk, a_sw, cw_n, cw_i, cw_l, cw_r, List.length_cons, List.length_nil, List.getElem?_cons_succ, List.getElem?_cons_zero, ↓reduceIte, decide_true, decide_false, Bool.false_eq_true, or_true, true_or, or_false, false_or, or_self, and_true, true_and, not_true_eq_false, not_false_eq_true, Nat.reduceEqDiff, Nat.reduceLT, Nat.reduceLeDiff, Nat.reduceAdd, Nat.reduceSub, Nat.reduceMul, Nat.reduceDiv, Nat.reduceMod, Nat.zero_add, Nat.add_zero, n_z, n_1, n_lt, n_in, n_cl, ly_61, ly_64, h, e20, q, wi_sc, nI_add 20 x]
    · simp (disch := first | assumption | omega) only [cl_192, r_192_0, r_192_1, r_192_3, r_192_6, r_192_7, r_192_10, r_192_12, r_192_13, r_192_14, r_192_15, r_192_16, r_192_17, r_192_18, r_192_19, r_192_22, r_192_24, r_192_25, r_192_26, r_192_27, r_192_29, r_192_32, r_192_34, r_192_37, r_192_38, r_192_39, f_add, o_bi, o_cge, o_cle, o_get, o_go, o_ial, o_ias, o_lda, o_ldi, o_pi, o_rv, o_sti, acR_nx, acR_re, acR_ca, acR_no, acR_if, Kc_i, Kc_n, a_lg, a_ls, a_kl, a_pk, a_sw, cw_n, cw_i, cw_l, cw_r, List.length_cons, List.length_nil, List.getElem?_cons_succ, List.getElem?_cons_zero, ↓reduceIte, decide_true, decide_false, Bool.false_eq_true, or_true, true_or, or_false, false_or, or_self, and_true, true_and, not_true_eq_false, not_false_eq_true, Nat.reduceEqDiff, Nat.reduceLT, Nat.reduceLeDiff, Nat.reduceAdd, Nat.reduceSub, Nat.reduceMul, Nat.reduceDiv, Nat.reduceMod, Nat.zero_add, Nat.add_zero, n_z, n_1, n_lt, n_in, n_cl, ly_61, ly_64, h, e20, q, wi_sc, nI_add 20 x]
  · rw [if_neg h, sc_id]
    simp (disch := first | assumption | omega) only [cl_192, r_192_0, r_192_1, r_192_3, r_192_6, r_192_7, r_192_10, r_192_12, r_192_13, r_192_14, r_192_15, r_192_16, r_192_17, r_192_18, r_192_19, r_192_22, r_192_24, r_192_25, r_192_26, r_192_27, r_192_29, r_192_32, r_192_34, r_192_37, r_192_38, r_192_39, f_add, o_bi, o_cge, o_cle, o_get, o_go, o_ial, o_ias, o_lda, o_ldi, o_pi, o_rv, o_sti, acR_nx, acR_re, acR_ca, acR_no, acR_if, Kc_i, Kc_n, a_lg, a_ls, a_kl, a_pk, a_sw, cw_n, cw_i, cw_l, cw_r, List.length_cons, List.length_nil, List.getElem?_cons_succ, List.getElem?_cons_zero, ↓reduceIte, decide_true, decide_false, Bool.false_eq_true, or_true, true_or, or_false, false_or, or_self, and_true, true_and, not_true_eq_false, not_false_eq_true, Nat.reduceEqDiff, Nat.reduceLT, Nat.reduceLeDiff, Nat.reduceAdd, Nat.reduceSub, Nat.reduceMul, Nat.reduceDiv, Nat.reduceMod, Nat.zero_add, Nat.add_zero, n_z, n_1, n_ltz, n_zlt, n_lt, n_eq, n_cl, n_in, nI_add, pk_mul, n_div, n_sub, nm_mod, h]
theorem aRow_mS {f st A : Nat → Int32} (h : aRow f st A) (m x : Nat) : aRow f (mS m st x) (if x < 16 then upd A (20 + x) (mn (A (20 + x)) m) else A) := by
  unfold mS
  by_cases hx : x < 16
  · rw [if_pos hx, if_pos hx]
    refine ⟨?_, fun j hj => ?_, fun j hj => ?_, fun e he => ?_⟩
    · rw [ud_1, if_neg (by omega)]; exact h.1
    · rw [ud_1, if_neg (by omega)]; exact h.2.1 j hj
    · rw [ud_1, ud_1]
      by_cases z : j = x
      · rw [if_pos (by omega), if_pos z, h.2.2.1 x hx]
      · rw [if_neg (by omega), if_neg z]; exact h.2.2.1 j hj
    · rw [ud_1, if_neg (by omega)]; exact h.2.2.2 e he
  · rw [if_neg hx, if_neg hx]; exact h
theorem m_gets {N : Nat} {σ : a_HP} (hv : vN N (σ.1 62)) {c m x y : Nat} (hc : c < 9) (hm : m ≤ 9) (hx : x < 17) (hy : y < 17) (Q : Option Value → a_HP → Prop) (hQ : ∀ g, Q (some (.int (gG (σ.1 62) c m x y))) (a_sc σ 64 g)) : Cl 193 [.ref 61, .int (nI c), .int (nI x), .int (nI y), .int (nI m)] σ Q := by
  have h0 : aRow (σ.1 62) (fun j => σ.1 62 (20 + j)) (va_cpy (σ.1 62) (σ.1 64) 0 0 61) := ⟨as_at _ _ (by omega), fun j hj => as_at _ _ (by omega), fun j hj => as_at _ _ (by omega), fun e he => as_at _ _ (by omega)⟩
  have h2 := aRow_mS (aRow_mS h0 m x) m y
  have v0 : ∀ k, k < 16 → ∃ d : Nat, d ≤ 9 ∧ (fun j => σ.1 62 (20 + j)) k = nI d := fun k hk => (hv.2.2.2.2.1 k hk).2.1
  have v2 := mS_ok hm (mS_ok hm v0 x) y
  simp (disch := first | assumption | omega) only [cl_193, r_193_0, r_193_1, r_193_4, r_193_5, r_193_6, r_193_8, r_193_11, r_193_12, r_193_13, r_193_15, r_193_18, r_193_19, r_193_22, r_193_23, r_193_26, r_193_29, r_193_31, r_193_34, r_193_35, r_193_36, r_193_38, r_193_41, r_193_43, r_193_46, r_193_47, r_193_48, f_sub, o_bi, o_cge, o_eq, o_get, o_go, o_ivs, o_ivv, o_lda, o_ldi, o_pi, o_ri, acR_nx, acR_re, acR_ca, acR_no, acR_if, Kc_i, Kc_n, a_lg, a_ls, a_kl, a_pk, a_sw, cw_n, cw_i, cw_l, cw_r, List.length_cons, List.length_nil, List.getElem?_cons_succ, List.getElem?_cons_zero, ↓reduceIte, decide_true, decide_false, Bool.false_eq_true, or_true, true_or, or_false, false_or, or_self, and_true, true_and, not_true_eq_false, not_false_eq_true, Nat.reduceEqDiff, Nat.reduceLT, Nat.reduceLeDiff, Nat.reduceAdd, Nat.reduceSub, Nat.reduceMul, Nat.reduceDiv, Nat.reduceMod, Nat.zero_add, Nat.add_zero, n_z, n_1, n_ltz, n_zlt, n_lt, n_eq, n_cl, n_in, nI_add, pk_mul, n_div, n_sub, nm_mod, ly_61, m_layAside, m_mends hx, m_mends hy, sc_1, sc_sc]
  generalize (if x < 16 then upd (va_cpy (σ.1 62) (σ.1 64) 0 0 61) (20 + x) (mn (va_cpy (σ.1 62) (σ.1 64) 0 0 61 (20 + x)) m) else va_cpy (σ.1 62) (σ.1 64) 0 0 61) = A1 at *
  generalize (if y < 16 then upd A1 (20 + y) (mn (A1 (20 + y)) m) else A1) = A at *
  have mi := m_isLaw aT_64 hc (a_sc σ 64 A) (aRow_ok hv h2 v2)
  have sA : (a_sc σ 64 A).1 64 = A := rfl
  have ep : pC (A 0) (fun j => A (4 + j)) (fun j => A (20 + j)) c = pC (σ.1 62 0) (fun j => σ.1 62 (4 + j)) (mS m (mS m (fun j => σ.1 62 (20 + j)) x) y) c := pC_c h2.1 h2.2.1 h2.2.2.1 hc
  rw [sA, ep, h2.2.2.2 c hc] at mi
  have hA := hQ A
  unfold gG gv nM at hA
  by_cases q : pC (σ.1 62 0) (fun j => σ.1 62 (4 + j)) (mS m (mS m (fun j => σ.1 62 (20 + j)) x) y) c < σ.1 62 (52 + c) <;> by_cases q2 : x < 16
  all_goals simp only [q, q2, decide_true, decide_false, if_true, if_false, Bool.false_eq_true] at hA
  all_goals simp (disch := first | assumption | omega) only [r_193_0, r_193_1, r_193_4, r_193_5, r_193_6, r_193_8, r_193_11, r_193_12, r_193_13, r_193_15, r_193_18, r_193_19, r_193_22, r_193_23, r_193_26, r_193_29, r_193_31, r_193_34, r_193_35, r_193_36, r_193_38, r_193_41, r_193_43, r_193_46, r_193_47, r_193_48, f_sub, o_bi, o_cge, o_eq, o_get, o_go, o_ivs, o_ivv, o_lda, o_ldi, o_pi, o_ri, acR_nx, acR_re, acR_ca, acR_no, acR_if, Kc_i, Kc_n, a_lg, a_ls, a_kl, a_pk, a_sw, cw_n, cw_i, cw_l, cw_r, List.length_cons, List.length_nil, List.getElem?_cons_succ, List.getElem?_cons_zero, ↓reduceIte, decide_true, decide_false, Bool.false_eq_true, or_true, true_or, or_false, false_or, or_self, and_true, true_and, not_true_eq_false, not_false_eq_true, Nat.reduceEqDiff, Nat.reduceLT, Nat.reduceLeDiff, Nat.reduceAdd, Nat.reduceSub, Nat.reduceMul, Nat.reduceDiv, Nat.reduceMod, Nat.zero_add, Nat.add_zero, n_z, n_1, n_lt, n_in, n_cl, mi, q, q2]
  all_goals exact hA
theorem m_rests {N : Nat} {σ : a_HP} (hv : vN N (σ.1 62)) {c m x y : Nat} (hc : c < 9) (hm : m ≤ 9) (hx : x < 17) (hy : y < 17) (Q : Option Value → a_HP → Prop) (hQ : ∀ g, Q (some (.int (bV (rst (σ.1 62) c m x y)))) (a_sc σ 64 g)) : Cl 194 [.ref 61, .int (nI c), .int (nI x), .int (nI y), .int (nI m)] σ Q := by
  unfold rst at hQ
  have key := lp_dn (C := fun k => ∀ g, Rn 194 17 [some (.ref 61), some (.int (nI c)), some (.int (nI x)), some (.int (nI y)), some (.int (nI m)), some (.int (gG (σ.1 62) c m x y)), some (.int (bV (allB (fun k => !mayN (σ.1 62) c k || !decide (gG (σ.1 62) c m x y < gG (σ.1 62) c m k y)) k))), some (.int (nI k))] [] (a_sc σ 64 g) Q) 17 (fun g => by
    rw [r_194_17]
    have := hQ g
    cases q : allB (fun k => !mayN (σ.1 62) c k || !decide (gG (σ.1 62) c m x y < gG (σ.1 62) c m k y)) 17 with
    | true =>
      rw [q] at this
      simp (disch := first | assumption | omega) only [r_194_0, r_194_1, r_194_2, r_194_3, r_194_4, r_194_6, r_194_9, r_194_11, r_194_12, r_194_14, r_194_15, r_194_19, r_194_21, r_194_24, r_194_26, r_194_29, r_194_30, r_194_31, r_194_33, r_194_36, r_194_39, r_194_40, r_194_41, r_194_43, r_194_44, r_194_46, r_194_49, r_194_51, r_194_54, r_194_55, r_194_58, r_194_59, r_194_61, r_194_64, r_194_67, r_194_69, o_cge, o_cgt, o_eq, o_go, o_inc, o_ivv, o_lda, o_ldi, o_pi, o_rz, o_sti, acR_nx, acR_re, acR_ca, acR_no, acR_if, Kc_i, Kc_n, a_lg, a_ls, a_kl, a_pk, a_sw, cw_n, cw_i, cw_l, cw_r, List.length_cons, List.length_nil, List.getElem?_cons_succ, List.getElem?_cons_zero, ↓reduceIte, decide_true, decide_false, Bool.false_eq_true, or_true, true_or, or_false, false_or, or_self, and_true, true_and, not_true_eq_false, not_false_eq_true, Nat.reduceEqDiff, Nat.reduceLT, Nat.reduceLeDiff, Nat.reduceAdd, Nat.reduceSub, Nat.reduceMul, Nat.reduceDiv, Nat.reduceMod, Nat.zero_add, Nat.add_zero, n_z, n_1, n_ltz, n_zlt, n_lt, n_eq, n_cl, n_in, nI_add, pk_mul, n_div, n_sub, nm_mod, bV]
      exact this
    | false =>
      rw [q] at this
      simp (disch := first | assumption | omega) only [r_194_0, r_194_1, r_194_2, r_194_3, r_194_4, r_194_6, r_194_9, r_194_11, r_194_12, r_194_14, r_194_15, r_194_19, r_194_21, r_194_24, r_194_26, r_194_29, r_194_30, r_194_31, r_194_33, r_194_36, r_194_39, r_194_40, r_194_41, r_194_43, r_194_44, r_194_46, r_194_49, r_194_51, r_194_54, r_194_55, r_194_58, r_194_59, r_194_61, r_194_64, r_194_67, r_194_69, o_cge, o_cgt, o_eq, o_go, o_inc, o_ivv, o_lda, o_ldi, o_pi, o_rz, o_sti, acR_nx, acR_re, acR_ca, acR_no, acR_if, Kc_i, Kc_n, a_lg, a_ls, a_kl, a_pk, a_sw, cw_n, cw_i, cw_l, cw_r, List.length_cons, List.length_nil, List.getElem?_cons_succ, List.getElem?_cons_zero, ↓reduceIte, decide_true, decide_false, Bool.false_eq_true, or_true, true_or, or_false, false_or, or_self, and_true, true_and, not_true_eq_false, not_false_eq_true, Nat.reduceEqDiff, Nat.reduceLT, Nat.reduceLeDiff, Nat.reduceAdd, Nat.reduceSub, Nat.reduceMul, Nat.reduceDiv, Nat.reduceMod, Nat.zero_add, Nat.add_zero, n_z, n_1, n_ltz, n_zlt, n_lt, n_eq, n_cl, n_in, nI_add, pk_mul, n_div, n_sub, nm_mod, bV]
      exact this) (fun k hk ih g => by
    rw [r_194_17]
    simp only [allB] at ih
    cases q : allB (fun k => !mayN (σ.1 62) c k || !decide (gG (σ.1 62) c m x y < gG (σ.1 62) c m k y)) k with
    | false =>
      rw [q] at ih
      simp (disch := first | assumption | omega) only [r_194_0, r_194_1, r_194_2, r_194_3, r_194_4, r_194_6, r_194_9, r_194_11, r_194_12, r_194_14, r_194_15, r_194_19, r_194_21, r_194_24, r_194_26, r_194_29, r_194_30, r_194_31, r_194_33, r_194_36, r_194_39, r_194_40, r_194_41, r_194_43, r_194_44, r_194_46, r_194_49, r_194_51, r_194_54, r_194_55, r_194_58, r_194_59, r_194_61, r_194_64, r_194_67, r_194_69, o_cge, o_cgt, o_eq, o_go, o_inc, o_ivv, o_lda, o_ldi, o_pi, o_rz, o_sti, acR_nx, acR_re, acR_ca, acR_no, acR_if, Kc_i, Kc_n, a_lg, a_ls, a_kl, a_pk, a_sw, cw_n, cw_i, cw_l, cw_r, List.length_cons, List.length_nil, List.getElem?_cons_succ, List.getElem?_cons_zero, ↓reduceIte, decide_true, decide_false, Bool.false_eq_true, or_true, true_or, or_false, false_or, or_self, and_true, true_and, not_true_eq_false, not_false_eq_true, Nat.reduceEqDiff, Nat.reduceLT, Nat.reduceLeDiff, Nat.reduceAdd, Nat.reduceSub, Nat.reduceMul, Nat.reduceDiv, Nat.reduceMod, Nat.zero_add, Nat.add_zero, n_z, n_1, n_ltz, n_zlt, n_lt, n_eq, n_cl, n_in, nI_add, pk_mul, n_div, n_sub, nm_mod, bV, hk]
      exact ih g
    | true =>
      rw [q] at ih
      have mm := m_mayChoose (σ := a_sc σ 64 g) (N := N) hv hc hk
      have s62 : (a_sc σ 64 g).1 62 = σ.1 62 := rfl
      rw [s62] at mm
      cases q2 : mayN (σ.1 62) c k with
      | false =>
        simp only [q2, Bool.not_false, Bool.true_or, Bool.and_self] at ih
        simp (disch := first | assumption | omega) only [r_194_0, r_194_1, r_194_2, r_194_3, r_194_4, r_194_6, r_194_9, r_194_11, r_194_12, r_194_14, r_194_15, r_194_19, r_194_21, r_194_24, r_194_26, r_194_29, r_194_30, r_194_31, r_194_33, r_194_36, r_194_39, r_194_40, r_194_41, r_194_43, r_194_44, r_194_46, r_194_49, r_194_51, r_194_54, r_194_55, r_194_58, r_194_59, r_194_61, r_194_64, r_194_67, r_194_69, o_cge, o_cgt, o_eq, o_go, o_inc, o_ivv, o_lda, o_ldi, o_pi, o_rz, o_sti, acR_nx, acR_re, acR_ca, acR_no, acR_if, Kc_i, Kc_n, a_lg, a_ls, a_kl, a_pk, a_sw, cw_n, cw_i, cw_l, cw_r, List.length_cons, List.length_nil, List.getElem?_cons_succ, List.getElem?_cons_zero, ↓reduceIte, decide_true, decide_false, Bool.false_eq_true, or_true, true_or, or_false, false_or, or_self, and_true, true_and, not_true_eq_false, not_false_eq_true, Nat.reduceEqDiff, Nat.reduceLT, Nat.reduceLeDiff, Nat.reduceAdd, Nat.reduceSub, Nat.reduceMul, Nat.reduceDiv, Nat.reduceMod, Nat.zero_add, Nat.add_zero, n_z, n_1, n_ltz, n_zlt, n_lt, n_eq, n_cl, n_in, nI_add, pk_mul, n_div, n_sub, nm_mod, ly_61, bV, hk, mm, q2]
        exact ih g
      | true =>
        simp (disch := first | assumption | omega) only [r_194_0, r_194_1, r_194_2, r_194_3, r_194_4, r_194_6, r_194_9, r_194_11, r_194_12, r_194_14, r_194_15, r_194_19, r_194_21, r_194_24, r_194_26, r_194_29, r_194_30, r_194_31, r_194_33, r_194_36, r_194_39, r_194_40, r_194_41, r_194_43, r_194_44, r_194_46, r_194_49, r_194_51, r_194_54, r_194_55, r_194_58, r_194_59, r_194_61, r_194_64, r_194_67, r_194_69, o_cge, o_cgt, o_eq, o_go, o_inc, o_ivv, o_lda, o_ldi, o_pi, o_rz, o_sti, acR_nx, acR_re, acR_ca, acR_no, acR_if, Kc_i, Kc_n, a_lg, a_ls, a_kl, a_pk, a_sw, cw_n, cw_i, cw_l, cw_r, List.length_cons, List.length_nil, List.getElem?_cons_succ, List.getElem?_cons_zero, ↓reduceIte, decide_true, decide_false, Bool.false_eq_true, or_true, true_or, or_false, false_or, or_self, and_true, true_and, not_true_eq_false, not_false_eq_true, Nat.reduceEqDiff, Nat.reduceLT, Nat.reduceLeDiff, Nat.reduceAdd, Nat.reduceSub, Nat.reduceMul, Nat.reduceDiv, Nat.reduceMod, Nat.zero_add, Nat.add_zero, n_z, n_1, n_ltz, n_zlt, n_lt, n_eq, n_cl, n_in, nI_add, pk_mul, n_div, n_sub, nm_mod, ly_61, bV, hk, mm, q2]
        refine m_gets (σ := a_sc σ 64 g) (N := N) hv hc hm hk hy _ (fun g' => ?_)
        rw [s62]
        simp only [q2, Bool.not_true, Bool.false_or, Bool.true_and] at ih
        have ihg := ih g'
        by_cases q3 : gG (σ.1 62) c m x y < gG (σ.1 62) c m k y
        · simp only [q3, decide_true, Bool.not_true] at ihg
          simp (disch := first | assumption | omega) only [r_194_0, r_194_1, r_194_2, r_194_3, r_194_4, r_194_6, r_194_9, r_194_11, r_194_12, r_194_14, r_194_15, r_194_19, r_194_21, r_194_24, r_194_26, r_194_29, r_194_30, r_194_31, r_194_33, r_194_36, r_194_39, r_194_40, r_194_41, r_194_43, r_194_44, r_194_46, r_194_49, r_194_51, r_194_54, r_194_55, r_194_58, r_194_59, r_194_61, r_194_64, r_194_67, r_194_69, o_cge, o_cgt, o_eq, o_go, o_inc, o_ivv, o_lda, o_ldi, o_pi, o_rz, o_sti, acR_nx, acR_re, acR_ca, acR_no, acR_if, Kc_i, Kc_n, a_lg, a_ls, a_kl, a_pk, a_sw, cw_n, cw_i, cw_l, cw_r, List.length_cons, List.length_nil, List.getElem?_cons_succ, List.getElem?_cons_zero, ↓reduceIte, decide_true, decide_false, Bool.false_eq_true, or_true, true_or, or_false, false_or, or_self, and_true, true_and, not_true_eq_false, not_false_eq_true, Nat.reduceEqDiff, Nat.reduceLT, Nat.reduceLeDiff, Nat.reduceAdd, Nat.reduceSub, Nat.reduceMul, Nat.reduceDiv, Nat.reduceMod, Nat.zero_add, Nat.add_zero, n_z, n_1, n_ltz, n_zlt, n_lt, n_eq, n_cl, n_in, nI_add, pk_mul, n_div, n_sub, nm_mod, q3, sc_sc]
          exact ihg
        · simp only [q3, decide_false, Bool.not_false] at ihg
          simp (disch := first | assumption | omega) only [r_194_0, r_194_1, r_194_2, r_194_3, r_194_4, r_194_6, r_194_9, r_194_11, r_194_12, r_194_14, r_194_15, r_194_19, r_194_21, r_194_24, r_194_26, r_194_29, r_194_30, r_194_31, r_194_33, r_194_36, r_194_39, r_194_40, r_194_41, r_194_43, r_194_44, r_194_46, r_194_49, r_194_51, r_194_54, r_194_55, r_194_58, r_194_59, r_194_61, r_194_64, r_194_67, r_194_69, o_cge, o_cgt, o_eq, o_go, o_inc, o_ivv, o_lda, o_ldi, o_pi, o_rz, o_sti, acR_nx, acR_re, acR_ca, acR_no, acR_if, Kc_i, Kc_n, a_lg, a_ls, a_kl, a_pk, a_sw, cw_n, cw_i, cw_l, cw_r, List.length_cons, List.length_nil, List.getElem?_cons_succ, List.getElem?_cons_zero, ↓reduceIte, decide_true, decide_false, Bool.false_eq_true, or_true, true_or, or_false, false_or, or_self, and_true, true_and, not_true_eq_false, not_false_eq_true, Nat.reduceEqDiff, Nat.reduceLT, Nat.reduceLeDiff, Nat.reduceAdd, Nat.reduceSub, Nat.reduceMul, Nat.reduceDiv, Nat.reduceMod, Nat.zero_add, Nat.add_zero, n_z, n_1, n_ltz, n_zlt, n_lt, n_eq, n_cl, n_in, nI_add, pk_mul, n_div, n_sub, nm_mod, q3, sc_sc]
          exact ihg)
  simp (disch := first | assumption | omega) only [cl_194, r_194_0, r_194_1, r_194_2, r_194_3, r_194_4, r_194_6, r_194_9, r_194_11, r_194_12, r_194_14, r_194_15, r_194_19, r_194_21, r_194_24, r_194_26, r_194_29, r_194_30, r_194_31, r_194_33, r_194_36, r_194_39, r_194_40, r_194_41, r_194_43, r_194_44, r_194_46, r_194_49, r_194_51, r_194_54, r_194_55, r_194_58, r_194_59, r_194_61, r_194_64, r_194_67, r_194_69, o_cge, o_cgt, o_eq, o_go, o_inc, o_ivv, o_lda, o_ldi, o_pi, o_rz, o_sti, acR_nx, acR_re, acR_ca, acR_no, acR_if, Kc_i, Kc_n, a_lg, a_ls, a_kl, a_pk, a_sw, cw_n, cw_i, cw_l, cw_r, List.length_cons, List.length_nil, List.getElem?_cons_succ, List.getElem?_cons_zero, ↓reduceIte, decide_true, decide_false, Bool.false_eq_true, or_true, true_or, or_false, false_or, or_self, and_true, true_and, not_true_eq_false, not_false_eq_true, Nat.reduceEqDiff, Nat.reduceLT, Nat.reduceLeDiff, Nat.reduceAdd, Nat.reduceSub, Nat.reduceMul, Nat.reduceDiv, Nat.reduceMod, Nat.zero_add, Nat.add_zero, n_z, n_1, n_ltz, n_zlt, n_lt, n_eq, n_cl, n_in, nI_add, pk_mul, n_div, n_sub, nm_mod, ly_61]
  refine m_gets hv hc hm hx hy _ (fun g => ?_)
  simp (disch := first | assumption | omega) only [r_194_0, r_194_1, r_194_2, r_194_3, r_194_4, r_194_6, r_194_9, r_194_11, r_194_12, r_194_14, r_194_15, r_194_19, r_194_21, r_194_24, r_194_26, r_194_29, r_194_30, r_194_31, r_194_33, r_194_36, r_194_39, r_194_40, r_194_41, r_194_43, r_194_44, r_194_46, r_194_49, r_194_51, r_194_54, r_194_55, r_194_58, r_194_59, r_194_61, r_194_64, r_194_67, r_194_69, o_cge, o_cgt, o_eq, o_go, o_inc, o_ivv, o_lda, o_ldi, o_pi, o_rz, o_sti, acR_nx, acR_re, acR_ca, acR_no, acR_if, Kc_i, Kc_n, a_lg, a_ls, a_kl, a_pk, a_sw, cw_n, cw_i, cw_l, cw_r, List.length_cons, List.length_nil, List.getElem?_cons_succ, List.getElem?_cons_zero, ↓reduceIte, decide_true, decide_false, Bool.false_eq_true, or_true, true_or, or_false, false_or, or_self, and_true, true_and, not_true_eq_false, not_false_eq_true, Nat.reduceEqDiff, Nat.reduceLT, Nat.reduceLeDiff, Nat.reduceAdd, Nat.reduceSub, Nat.reduceMul, Nat.reduceDiv, Nat.reduceMod, Nat.zero_add, Nat.add_zero, n_z, n_1, n_ltz, n_zlt, n_lt, n_eq, n_cl, n_in, nI_add, pk_mul, n_div, n_sub, nm_mod]
  exact key g
theorem m_menders {N : Nat} {σ : a_HP} (hv : vN N (σ.1 62)) {a b m w : Nat} (ha : a < 9) (hb : b < 9) (hab : a ≠ b) (hm1 : 1 ≤ m) (hm : m ≤ 9) (hw : w ≤ 1) (Q : Option Value → a_HP → Prop) (hQ : ∀ g, Q (some (.int (if w = 0 then (fr (fun acc x => fr (stp (RR (σ.1 62) a b m) x) acc 17) (nI 0, -1) 17).1 else (fr (fun acc x => fr (stp (RR (σ.1 62) a b m) x) acc 17) (nI 0, -1) 17).2))) (a_sc σ 64 g)) : Cl 195 [.ref 61, .int (nI a), .int (nI b), .int (nI m), .int (nI w)] σ Q := by
  generalize hf : σ.1 62 = f at *
  have key := lp_dn (C := fun x => ∀ g x8, Rn 195 55 [some (.ref 61), some (.int (nI a)), some (.int (nI b)), some (.int (nI m)), some (.int (nI w)), some (.int (fr (fun acc x => fr (stp (RR f a b m) x) acc 17) (nI 0, -1) x).1), some (.int (fr (fun acc x => fr (stp (RR f a b m) x) acc 17) (nI 0, -1) x).2), some (.int (nI x)), x8] [] (a_sc σ 64 g) Q) 17 (fun g x8 => by
    rw [r_195_55]
    have := hQ g
    by_cases w0 : w = 0
    · rw [if_pos w0] at this
      simp (disch := first | assumption | omega) only [r_195_0, r_195_1, r_195_4, r_195_7, r_195_8, r_195_11, r_195_14, r_195_15, r_195_16, r_195_19, r_195_20, r_195_21, r_195_22, r_195_25, r_195_28, r_195_31, r_195_33, r_195_36, r_195_39, r_195_40, r_195_42, r_195_45, r_195_46, r_195_47, r_195_49, r_195_50, r_195_52, r_195_53, r_195_57, r_195_59, r_195_62, r_195_63, r_195_67, r_195_69, r_195_72, r_195_73, r_195_74, r_195_76, r_195_79, r_195_82, r_195_83, r_195_84, r_195_86, r_195_89, r_195_92, r_195_93, r_195_94, r_195_96, r_195_98, r_195_99, r_195_102, r_195_105, r_195_106, r_195_107, r_195_109, r_195_111, r_195_112, r_195_115, r_195_118, r_195_120, r_195_121, r_195_124, r_195_126, r_195_128, r_195_129, r_195_131, r_195_132, r_195_135, r_195_137, r_195_139, r_195_142, r_195_145, r_195_148, r_195_151, r_195_154, r_195_156, r_195_159, r_195_161, r_195_164, r_195_166, f_add, f_mul, o_bi, o_ceq, o_cge, o_cne, o_eq, o_go, o_i2l, o_inc, o_ivs, o_ivv, o_lda, o_ldi, o_ne, o_pi, o_pl, o_ri, o_sti, acR_nx, acR_re, acR_ca, acR_no, acR_if, Kc_i, Kc_n, a_lg, a_ls, a_kl, a_pk, a_sw, cw_n, cw_i, cw_l, cw_r, List.length_cons, List.length_nil, List.getElem?_cons_succ, List.getElem?_cons_zero, ↓reduceIte, decide_true, decide_false, Bool.false_eq_true, or_true, true_or, or_false, false_or, or_self, and_true, true_and, not_true_eq_false, not_false_eq_true, Nat.reduceEqDiff, Nat.reduceLT, Nat.reduceLeDiff, Nat.reduceAdd, Nat.reduceSub, Nat.reduceMul, Nat.reduceDiv, Nat.reduceMod, Nat.zero_add, Nat.add_zero, n_z, n_1, n_ltz, n_zlt, n_lt, n_eq, n_cl, n_in, nI_add, pk_mul, n_div, n_sub, nm_mod, w0]
      exact this
    · rw [if_neg w0] at this
      simp (disch := first | assumption | omega) only [r_195_0, r_195_1, r_195_4, r_195_7, r_195_8, r_195_11, r_195_14, r_195_15, r_195_16, r_195_19, r_195_20, r_195_21, r_195_22, r_195_25, r_195_28, r_195_31, r_195_33, r_195_36, r_195_39, r_195_40, r_195_42, r_195_45, r_195_46, r_195_47, r_195_49, r_195_50, r_195_52, r_195_53, r_195_57, r_195_59, r_195_62, r_195_63, r_195_67, r_195_69, r_195_72, r_195_73, r_195_74, r_195_76, r_195_79, r_195_82, r_195_83, r_195_84, r_195_86, r_195_89, r_195_92, r_195_93, r_195_94, r_195_96, r_195_98, r_195_99, r_195_102, r_195_105, r_195_106, r_195_107, r_195_109, r_195_111, r_195_112, r_195_115, r_195_118, r_195_120, r_195_121, r_195_124, r_195_126, r_195_128, r_195_129, r_195_131, r_195_132, r_195_135, r_195_137, r_195_139, r_195_142, r_195_145, r_195_148, r_195_151, r_195_154, r_195_156, r_195_159, r_195_161, r_195_164, r_195_166, f_add, f_mul, o_bi, o_ceq, o_cge, o_cne, o_eq, o_go, o_i2l, o_inc, o_ivs, o_ivv, o_lda, o_ldi, o_ne, o_pi, o_pl, o_ri, o_sti, acR_nx, acR_re, acR_ca, acR_no, acR_if, Kc_i, Kc_n, a_lg, a_ls, a_kl, a_pk, a_sw, cw_n, cw_i, cw_l, cw_r, List.length_cons, List.length_nil, List.getElem?_cons_succ, List.getElem?_cons_zero, ↓reduceIte, decide_true, decide_false, Bool.false_eq_true, or_true, true_or, or_false, false_or, or_self, and_true, true_and, not_true_eq_false, not_false_eq_true, Nat.reduceEqDiff, Nat.reduceLT, Nat.reduceLeDiff, Nat.reduceAdd, Nat.reduceSub, Nat.reduceMul, Nat.reduceDiv, Nat.reduceMod, Nat.zero_add, Nat.add_zero, n_z, n_1, n_ltz, n_zlt, n_lt, n_eq, n_cl, n_in, nI_add, pk_mul, n_div, n_sub, nm_mod, w0]
      exact this) (fun x hx ih g x8 => by
    rw [r_195_55]
    have ihs : fr (fun acc x => fr (stp (RR f a b m) x) acc 17) (nI 0, -1) (x + 1) = fr (stp (RR f a b m) x) (fr (fun acc x => fr (stp (RR f a b m) x) acc 17) (nI 0, -1) x) 17 := rfl
    rw [ihs] at ih
    generalize fr (fun acc x => fr (stp (RR f a b m) x) acc 17) (nI 0, -1) x = z at *
    have inner := lp_dn (C := fun y => ∀ g, Rn 195 65 [some (.ref 61), some (.int (nI a)), some (.int (nI b)), some (.int (nI m)), some (.int (nI w)), some (.int (fr (stp (RR f a b m) x) z y).1), some (.int (fr (stp (RR f a b m) x) z y).2), some (.int (nI x)), some (.int (nI y))] [] (a_sc σ 64 g) Q) 17 (fun g => by
      rw [r_195_65]
      simp (disch := first | assumption | omega) only [r_195_0, r_195_1, r_195_4, r_195_7, r_195_8, r_195_11, r_195_14, r_195_15, r_195_16, r_195_19, r_195_20, r_195_21, r_195_22, r_195_25, r_195_28, r_195_31, r_195_33, r_195_36, r_195_39, r_195_40, r_195_42, r_195_45, r_195_46, r_195_47, r_195_49, r_195_50, r_195_52, r_195_53, r_195_57, r_195_59, r_195_62, r_195_63, r_195_67, r_195_69, r_195_72, r_195_73, r_195_74, r_195_76, r_195_79, r_195_82, r_195_83, r_195_84, r_195_86, r_195_89, r_195_92, r_195_93, r_195_94, r_195_96, r_195_98, r_195_99, r_195_102, r_195_105, r_195_106, r_195_107, r_195_109, r_195_111, r_195_112, r_195_115, r_195_118, r_195_120, r_195_121, r_195_124, r_195_126, r_195_128, r_195_129, r_195_131, r_195_132, r_195_135, r_195_137, r_195_139, r_195_142, r_195_145, r_195_148, r_195_151, r_195_154, r_195_156, r_195_159, r_195_161, r_195_164, r_195_166, f_add, f_mul, o_bi, o_ceq, o_cge, o_cne, o_eq, o_go, o_i2l, o_inc, o_ivs, o_ivv, o_lda, o_ldi, o_ne, o_pi, o_pl, o_ri, o_sti, acR_nx, acR_re, acR_ca, acR_no, acR_if, Kc_i, Kc_n, a_lg, a_ls, a_kl, a_pk, a_sw, cw_n, cw_i, cw_l, cw_r, List.length_cons, List.length_nil, List.getElem?_cons_succ, List.getElem?_cons_zero, ↓reduceIte, decide_true, decide_false, Bool.false_eq_true, or_true, true_or, or_false, false_or, or_self, and_true, true_and, not_true_eq_false, not_false_eq_true, Nat.reduceEqDiff, Nat.reduceLT, Nat.reduceLeDiff, Nat.reduceAdd, Nat.reduceSub, Nat.reduceMul, Nat.reduceDiv, Nat.reduceMod, Nat.zero_add, Nat.add_zero, n_z, n_1, n_ltz, n_zlt, n_lt, n_eq, n_cl, n_in, nI_add, pk_mul, n_div, n_sub, nm_mod]
      exact ih g _) (fun y hy ii g => by
      rw [r_195_65]
      simp only [fr] at ii
      generalize fr (stp (RR f a b m) x) z y = u at *
      have s62 : ∀ g, (a_sc σ 64 g).1 62 = f := fun g => hf
      have hvg : ∀ g, vN N ((a_sc σ 64 g).1 62) := fun g => by rw [s62]; exact hv
      have ma : ∀ g Q, Cl 191 [.ref 61, .int (nI a), .int (nI x)] (a_sc σ 64 g) Q = if mayN f a x = true then Q (some (.int (nI 1))) (a_sc σ 64 g) else Q (some (.int (nI 0))) (a_sc σ 64 g) := fun g Q => by rw [m_mayChoose (hvg g) ha hx, s62]
      have mb : ∀ g Q, Cl 191 [.ref 61, .int (nI b), .int (nI y)] (a_sc σ 64 g) Q = if mayN f b y = true then Q (some (.int (nI 1))) (a_sc σ 64 g) else Q (some (.int (nI 0))) (a_sc σ 64 g) := fun g Q => by rw [m_mayChoose (hvg g) hb hy, s62]
      cases q1 : mayN f a x with
      | false =>
        have r : RR f a b m x y = false := by unfold RR; rw [q1]; rfl
        simp only [stp, r, Bool.false_eq_true, if_false] at ii
        simp (disch := first | assumption | omega) only [r_195_0, r_195_1, r_195_4, r_195_7, r_195_8, r_195_11, r_195_14, r_195_15, r_195_16, r_195_19, r_195_20, r_195_21, r_195_22, r_195_25, r_195_28, r_195_31, r_195_33, r_195_36, r_195_39, r_195_40, r_195_42, r_195_45, r_195_46, r_195_47, r_195_49, r_195_50, r_195_52, r_195_53, r_195_57, r_195_59, r_195_62, r_195_63, r_195_67, r_195_69, r_195_72, r_195_73, r_195_74, r_195_76, r_195_79, r_195_82, r_195_83, r_195_84, r_195_86, r_195_89, r_195_92, r_195_93, r_195_94, r_195_96, r_195_98, r_195_99, r_195_102, r_195_105, r_195_106, r_195_107, r_195_109, r_195_111, r_195_112, r_195_115, r_195_118, r_195_120, r_195_121, r_195_124, r_195_126, r_195_128, r_195_129, r_195_131, r_195_132, r_195_135, r_195_137, r_195_139, r_195_142, r_195_145, r_195_148, r_195_151, r_195_154, r_195_156, r_195_159, r_195_161, r_195_164, r_195_166, f_add, f_mul, o_bi, o_ceq, o_cge, o_cne, o_eq, o_go, o_i2l, o_inc, o_ivs, o_ivv, o_lda, o_ldi, o_ne, o_pi, o_pl, o_ri, o_sti, acR_nx, acR_re, acR_ca, acR_no, acR_if, Kc_i, Kc_n, a_lg, a_ls, a_kl, a_pk, a_sw, cw_n, cw_i, cw_l, cw_r, List.length_cons, List.length_nil, List.getElem?_cons_succ, List.getElem?_cons_zero, ↓reduceIte, decide_true, decide_false, Bool.false_eq_true, or_true, true_or, or_false, false_or, or_self, and_true, true_and, not_true_eq_false, not_false_eq_true, Nat.reduceEqDiff, Nat.reduceLT, Nat.reduceLeDiff, Nat.reduceAdd, Nat.reduceSub, Nat.reduceMul, Nat.reduceDiv, Nat.reduceMod, Nat.zero_add, Nat.add_zero, n_z, n_1, n_ltz, n_zlt, n_lt, n_eq, n_cl, n_in, nI_add, pk_mul, n_div, n_sub, nm_mod, ly_61, hy, ma, q1]
        exact ii g
      | true =>
        cases q2 : mayN f b y with
        | false =>
          have r : RR f a b m x y = false := by unfold RR; rw [q1, q2]; rfl
          simp only [stp, r, Bool.false_eq_true, if_false] at ii
          simp (disch := first | assumption | omega) only [r_195_0, r_195_1, r_195_4, r_195_7, r_195_8, r_195_11, r_195_14, r_195_15, r_195_16, r_195_19, r_195_20, r_195_21, r_195_22, r_195_25, r_195_28, r_195_31, r_195_33, r_195_36, r_195_39, r_195_40, r_195_42, r_195_45, r_195_46, r_195_47, r_195_49, r_195_50, r_195_52, r_195_53, r_195_57, r_195_59, r_195_62, r_195_63, r_195_67, r_195_69, r_195_72, r_195_73, r_195_74, r_195_76, r_195_79, r_195_82, r_195_83, r_195_84, r_195_86, r_195_89, r_195_92, r_195_93, r_195_94, r_195_96, r_195_98, r_195_99, r_195_102, r_195_105, r_195_106, r_195_107, r_195_109, r_195_111, r_195_112, r_195_115, r_195_118, r_195_120, r_195_121, r_195_124, r_195_126, r_195_128, r_195_129, r_195_131, r_195_132, r_195_135, r_195_137, r_195_139, r_195_142, r_195_145, r_195_148, r_195_151, r_195_154, r_195_156, r_195_159, r_195_161, r_195_164, r_195_166, f_add, f_mul, o_bi, o_ceq, o_cge, o_cne, o_eq, o_go, o_i2l, o_inc, o_ivs, o_ivv, o_lda, o_ldi, o_ne, o_pi, o_pl, o_ri, o_sti, acR_nx, acR_re, acR_ca, acR_no, acR_if, Kc_i, Kc_n, a_lg, a_ls, a_kl, a_pk, a_sw, cw_n, cw_i, cw_l, cw_r, List.length_cons, List.length_nil, List.getElem?_cons_succ, List.getElem?_cons_zero, ↓reduceIte, decide_true, decide_false, Bool.false_eq_true, or_true, true_or, or_false, false_or, or_self, and_true, true_and, not_true_eq_false, not_false_eq_true, Nat.reduceEqDiff, Nat.reduceLT, Nat.reduceLeDiff, Nat.reduceAdd, Nat.reduceSub, Nat.reduceMul, Nat.reduceDiv, Nat.reduceMod, Nat.zero_add, Nat.add_zero, n_z, n_1, n_ltz, n_zlt, n_lt, n_eq, n_cl, n_in, nI_add, pk_mul, n_div, n_sub, nm_mod, ly_61, hy, ma, mb, q1, q2]
          exact ii g
        | true =>
          simp (disch := first | assumption | omega) only [r_195_0, r_195_1, r_195_4, r_195_7, r_195_8, r_195_11, r_195_14, r_195_15, r_195_16, r_195_19, r_195_20, r_195_21, r_195_22, r_195_25, r_195_28, r_195_31, r_195_33, r_195_36, r_195_39, r_195_40, r_195_42, r_195_45, r_195_46, r_195_47, r_195_49, r_195_50, r_195_52, r_195_53, r_195_57, r_195_59, r_195_62, r_195_63, r_195_67, r_195_69, r_195_72, r_195_73, r_195_74, r_195_76, r_195_79, r_195_82, r_195_83, r_195_84, r_195_86, r_195_89, r_195_92, r_195_93, r_195_94, r_195_96, r_195_98, r_195_99, r_195_102, r_195_105, r_195_106, r_195_107, r_195_109, r_195_111, r_195_112, r_195_115, r_195_118, r_195_120, r_195_121, r_195_124, r_195_126, r_195_128, r_195_129, r_195_131, r_195_132, r_195_135, r_195_137, r_195_139, r_195_142, r_195_145, r_195_148, r_195_151, r_195_154, r_195_156, r_195_159, r_195_161, r_195_164, r_195_166, f_add, f_mul, o_bi, o_ceq, o_cge, o_cne, o_eq, o_go, o_i2l, o_inc, o_ivs, o_ivv, o_lda, o_ldi, o_ne, o_pi, o_pl, o_ri, o_sti, acR_nx, acR_re, acR_ca, acR_no, acR_if, Kc_i, Kc_n, a_lg, a_ls, a_kl, a_pk, a_sw, cw_n, cw_i, cw_l, cw_r, List.length_cons, List.length_nil, List.getElem?_cons_succ, List.getElem?_cons_zero, ↓reduceIte, decide_true, decide_false, Bool.false_eq_true, or_true, true_or, or_false, false_or, or_self, and_true, true_and, not_true_eq_false, not_false_eq_true, Nat.reduceEqDiff, Nat.reduceLT, Nat.reduceLeDiff, Nat.reduceAdd, Nat.reduceSub, Nat.reduceMul, Nat.reduceDiv, Nat.reduceMod, Nat.zero_add, Nat.add_zero, n_z, n_1, n_ltz, n_zlt, n_lt, n_eq, n_cl, n_in, nI_add, pk_mul, n_div, n_sub, nm_mod, ly_61, hy, ma, mb, q1, q2]
          refine m_rests (hvg g) ha hm hx hy _ (fun g1 => ?_)
          rw [s62, sc_sc]
          cases q3 : rst f a m x y with
          | false =>
            have r : RR f a b m x y = false := by unfold RR; rw [q1, q2, q3]; rfl
            simp only [stp, r, Bool.false_eq_true, if_false] at ii
            simp (disch := first | assumption | omega) only [r_195_0, r_195_1, r_195_4, r_195_7, r_195_8, r_195_11, r_195_14, r_195_15, r_195_16, r_195_19, r_195_20, r_195_21, r_195_22, r_195_25, r_195_28, r_195_31, r_195_33, r_195_36, r_195_39, r_195_40, r_195_42, r_195_45, r_195_46, r_195_47, r_195_49, r_195_50, r_195_52, r_195_53, r_195_57, r_195_59, r_195_62, r_195_63, r_195_67, r_195_69, r_195_72, r_195_73, r_195_74, r_195_76, r_195_79, r_195_82, r_195_83, r_195_84, r_195_86, r_195_89, r_195_92, r_195_93, r_195_94, r_195_96, r_195_98, r_195_99, r_195_102, r_195_105, r_195_106, r_195_107, r_195_109, r_195_111, r_195_112, r_195_115, r_195_118, r_195_120, r_195_121, r_195_124, r_195_126, r_195_128, r_195_129, r_195_131, r_195_132, r_195_135, r_195_137, r_195_139, r_195_142, r_195_145, r_195_148, r_195_151, r_195_154, r_195_156, r_195_159, r_195_161, r_195_164, r_195_166, f_add, f_mul, o_bi, o_ceq, o_cge, o_cne, o_eq, o_go, o_i2l, o_inc, o_ivs, o_ivv, o_lda, o_ldi, o_ne, o_pi, o_pl, o_ri, o_sti, acR_nx, acR_re, acR_ca, acR_no, acR_if, Kc_i, Kc_n, a_lg, a_ls, a_kl, a_pk, a_sw, cw_n, cw_i, cw_l, cw_r, List.length_cons, List.length_nil, List.getElem?_cons_succ, List.getElem?_cons_zero, ↓reduceIte, decide_true, decide_false, Bool.false_eq_true, or_true, true_or, or_false, false_or, or_self, and_true, true_and, not_true_eq_false, not_false_eq_true, Nat.reduceEqDiff, Nat.reduceLT, Nat.reduceLeDiff, Nat.reduceAdd, Nat.reduceSub, Nat.reduceMul, Nat.reduceDiv, Nat.reduceMod, Nat.zero_add, Nat.add_zero, n_z, n_1, n_ltz, n_zlt, n_lt, n_eq, n_cl, n_in, nI_add, pk_mul, n_div, n_sub, nm_mod, ly_61, bV]
            exact ii g1
          | true =>
            simp (disch := first | assumption | omega) only [r_195_0, r_195_1, r_195_4, r_195_7, r_195_8, r_195_11, r_195_14, r_195_15, r_195_16, r_195_19, r_195_20, r_195_21, r_195_22, r_195_25, r_195_28, r_195_31, r_195_33, r_195_36, r_195_39, r_195_40, r_195_42, r_195_45, r_195_46, r_195_47, r_195_49, r_195_50, r_195_52, r_195_53, r_195_57, r_195_59, r_195_62, r_195_63, r_195_67, r_195_69, r_195_72, r_195_73, r_195_74, r_195_76, r_195_79, r_195_82, r_195_83, r_195_84, r_195_86, r_195_89, r_195_92, r_195_93, r_195_94, r_195_96, r_195_98, r_195_99, r_195_102, r_195_105, r_195_106, r_195_107, r_195_109, r_195_111, r_195_112, r_195_115, r_195_118, r_195_120, r_195_121, r_195_124, r_195_126, r_195_128, r_195_129, r_195_131, r_195_132, r_195_135, r_195_137, r_195_139, r_195_142, r_195_145, r_195_148, r_195_151, r_195_154, r_195_156, r_195_159, r_195_161, r_195_164, r_195_166, f_add, f_mul, o_bi, o_ceq, o_cge, o_cne, o_eq, o_go, o_i2l, o_inc, o_ivs, o_ivv, o_lda, o_ldi, o_ne, o_pi, o_pl, o_ri, o_sti, acR_nx, acR_re, acR_ca, acR_no, acR_if, Kc_i, Kc_n, a_lg, a_ls, a_kl, a_pk, a_sw, cw_n, cw_i, cw_l, cw_r, List.length_cons, List.length_nil, List.getElem?_cons_succ, List.getElem?_cons_zero, ↓reduceIte, decide_true, decide_false, Bool.false_eq_true, or_true, true_or, or_false, false_or, or_self, and_true, true_and, not_true_eq_false, not_false_eq_true, Nat.reduceEqDiff, Nat.reduceLT, Nat.reduceLeDiff, Nat.reduceAdd, Nat.reduceSub, Nat.reduceMul, Nat.reduceDiv, Nat.reduceMod, Nat.zero_add, Nat.add_zero, n_z, n_1, n_ltz, n_zlt, n_lt, n_eq, n_cl, n_in, nI_add, pk_mul, n_div, n_sub, nm_mod, ly_61, bV]
            refine m_rests (hvg g1) hb hm hy hx _ (fun g2 => ?_)
            rw [s62, sc_sc]
            cases q4 : rst f b m y x with
            | false =>
              have r : RR f a b m x y = false := by unfold RR; rw [q1, q2, q3, q4]; rfl
              simp only [stp, r, Bool.false_eq_true, if_false] at ii
              simp (disch := first | assumption | omega) only [r_195_0, r_195_1, r_195_4, r_195_7, r_195_8, r_195_11, r_195_14, r_195_15, r_195_16, r_195_19, r_195_20, r_195_21, r_195_22, r_195_25, r_195_28, r_195_31, r_195_33, r_195_36, r_195_39, r_195_40, r_195_42, r_195_45, r_195_46, r_195_47, r_195_49, r_195_50, r_195_52, r_195_53, r_195_57, r_195_59, r_195_62, r_195_63, r_195_67, r_195_69, r_195_72, r_195_73, r_195_74, r_195_76, r_195_79, r_195_82, r_195_83, r_195_84, r_195_86, r_195_89, r_195_92, r_195_93, r_195_94, r_195_96, r_195_98, r_195_99, r_195_102, r_195_105, r_195_106, r_195_107, r_195_109, r_195_111, r_195_112, r_195_115, r_195_118, r_195_120, r_195_121, r_195_124, r_195_126, r_195_128, r_195_129, r_195_131, r_195_132, r_195_135, r_195_137, r_195_139, r_195_142, r_195_145, r_195_148, r_195_151, r_195_154, r_195_156, r_195_159, r_195_161, r_195_164, r_195_166, f_add, f_mul, o_bi, o_ceq, o_cge, o_cne, o_eq, o_go, o_i2l, o_inc, o_ivs, o_ivv, o_lda, o_ldi, o_ne, o_pi, o_pl, o_ri, o_sti, acR_nx, acR_re, acR_ca, acR_no, acR_if, Kc_i, Kc_n, a_lg, a_ls, a_kl, a_pk, a_sw, cw_n, cw_i, cw_l, cw_r, List.length_cons, List.length_nil, List.getElem?_cons_succ, List.getElem?_cons_zero, ↓reduceIte, decide_true, decide_false, Bool.false_eq_true, or_true, true_or, or_false, false_or, or_self, and_true, true_and, not_true_eq_false, not_false_eq_true, Nat.reduceEqDiff, Nat.reduceLT, Nat.reduceLeDiff, Nat.reduceAdd, Nat.reduceSub, Nat.reduceMul, Nat.reduceDiv, Nat.reduceMod, Nat.zero_add, Nat.add_zero, n_z, n_1, n_ltz, n_zlt, n_lt, n_eq, n_cl, n_in, nI_add, pk_mul, n_div, n_sub, nm_mod, ly_61, bV]
              exact ii g2
            | true =>
              have r : RR f a b m x y = true := by unfold RR; rw [q1, q2, q3, q4]; rfl
              simp only [stp, r, if_true] at ii
              have ig := ii g2
              by_cases q5 : u.2 = -1
              · rw [if_pos q5] at ig
                simp (disch := first | assumption | omega) only [r_195_0, r_195_1, r_195_4, r_195_7, r_195_8, r_195_11, r_195_14, r_195_15, r_195_16, r_195_19, r_195_20, r_195_21, r_195_22, r_195_25, r_195_28, r_195_31, r_195_33, r_195_36, r_195_39, r_195_40, r_195_42, r_195_45, r_195_46, r_195_47, r_195_49, r_195_50, r_195_52, r_195_53, r_195_57, r_195_59, r_195_62, r_195_63, r_195_67, r_195_69, r_195_72, r_195_73, r_195_74, r_195_76, r_195_79, r_195_82, r_195_83, r_195_84, r_195_86, r_195_89, r_195_92, r_195_93, r_195_94, r_195_96, r_195_98, r_195_99, r_195_102, r_195_105, r_195_106, r_195_107, r_195_109, r_195_111, r_195_112, r_195_115, r_195_118, r_195_120, r_195_121, r_195_124, r_195_126, r_195_128, r_195_129, r_195_131, r_195_132, r_195_135, r_195_137, r_195_139, r_195_142, r_195_145, r_195_148, r_195_151, r_195_154, r_195_156, r_195_159, r_195_161, r_195_164, r_195_166, f_add, f_mul, o_bi, o_ceq, o_cge, o_cne, o_eq, o_go, o_i2l, o_inc, o_ivs, o_ivv, o_lda, o_ldi, o_ne, o_pi, o_pl, o_ri, o_sti, acR_nx, acR_re, acR_ca, acR_no, acR_if, Kc_i, Kc_n, a_lg, a_ls, a_kl, a_pk, a_sw, cw_n, cw_i, cw_l, cw_r, List.length_cons, List.length_nil, List.getElem?_cons_succ, List.getElem?_cons_zero, ↓reduceIte, decide_true, decide_false, Bool.false_eq_true, or_true, true_or, or_false, false_or, or_self, and_true, true_and, not_true_eq_false, not_false_eq_true, Nat.reduceEqDiff, Nat.reduceLT, Nat.reduceLeDiff, Nat.reduceAdd, Nat.reduceSub, Nat.reduceMul, Nat.reduceDiv, Nat.reduceMod, Nat.zero_add, Nat.add_zero, n_z, n_1, n_ltz, n_zlt, n_lt, n_eq, n_cl, n_in, nI_add, pk_mul, n_div, n_sub, nm_mod, ly_61, bV, q5]
                exact ig
              · rw [if_neg q5] at ig
                simp (disch := first | assumption | omega) only [r_195_0, r_195_1, r_195_4, r_195_7, r_195_8, r_195_11, r_195_14, r_195_15, r_195_16, r_195_19, r_195_20, r_195_21, r_195_22, r_195_25, r_195_28, r_195_31, r_195_33, r_195_36, r_195_39, r_195_40, r_195_42, r_195_45, r_195_46, r_195_47, r_195_49, r_195_50, r_195_52, r_195_53, r_195_57, r_195_59, r_195_62, r_195_63, r_195_67, r_195_69, r_195_72, r_195_73, r_195_74, r_195_76, r_195_79, r_195_82, r_195_83, r_195_84, r_195_86, r_195_89, r_195_92, r_195_93, r_195_94, r_195_96, r_195_98, r_195_99, r_195_102, r_195_105, r_195_106, r_195_107, r_195_109, r_195_111, r_195_112, r_195_115, r_195_118, r_195_120, r_195_121, r_195_124, r_195_126, r_195_128, r_195_129, r_195_131, r_195_132, r_195_135, r_195_137, r_195_139, r_195_142, r_195_145, r_195_148, r_195_151, r_195_154, r_195_156, r_195_159, r_195_161, r_195_164, r_195_166, f_add, f_mul, o_bi, o_ceq, o_cge, o_cne, o_eq, o_go, o_i2l, o_inc, o_ivs, o_ivv, o_lda, o_ldi, o_ne, o_pi, o_pl, o_ri, o_sti, acR_nx, acR_re, acR_ca, acR_no, acR_if, Kc_i, Kc_n, a_lg, a_ls, a_kl, a_pk, a_sw, cw_n, cw_i, cw_l, cw_r, List.length_cons, List.length_nil, List.getElem?_cons_succ, List.getElem?_cons_zero, ↓reduceIte, decide_true, decide_false, Bool.false_eq_true, or_true, true_or, or_false, false_or, or_self, and_true, true_and, not_true_eq_false, not_false_eq_true, Nat.reduceEqDiff, Nat.reduceLT, Nat.reduceLeDiff, Nat.reduceAdd, Nat.reduceSub, Nat.reduceMul, Nat.reduceDiv, Nat.reduceMod, Nat.zero_add, Nat.add_zero, n_z, n_1, n_ltz, n_zlt, n_lt, n_eq, n_cl, n_in, nI_add, pk_mul, n_div, n_sub, nm_mod, ly_61, bV, q5]
                exact ig)
    simp (disch := first | assumption | omega) only [r_195_0, r_195_1, r_195_4, r_195_7, r_195_8, r_195_11, r_195_14, r_195_15, r_195_16, r_195_19, r_195_20, r_195_21, r_195_22, r_195_25, r_195_28, r_195_31, r_195_33, r_195_36, r_195_39, r_195_40, r_195_42, r_195_45, r_195_46, r_195_47, r_195_49, r_195_50, r_195_52, r_195_53, r_195_57, r_195_59, r_195_62, r_195_63, r_195_67, r_195_69, r_195_72, r_195_73, r_195_74, r_195_76, r_195_79, r_195_82, r_195_83, r_195_84, r_195_86, r_195_89, r_195_92, r_195_93, r_195_94, r_195_96, r_195_98, r_195_99, r_195_102, r_195_105, r_195_106, r_195_107, r_195_109, r_195_111, r_195_112, r_195_115, r_195_118, r_195_120, r_195_121, r_195_124, r_195_126, r_195_128, r_195_129, r_195_131, r_195_132, r_195_135, r_195_137, r_195_139, r_195_142, r_195_145, r_195_148, r_195_151, r_195_154, r_195_156, r_195_159, r_195_161, r_195_164, r_195_166, f_add, f_mul, o_bi, o_ceq, o_cge, o_cne, o_eq, o_go, o_i2l, o_inc, o_ivs, o_ivv, o_lda, o_ldi, o_ne, o_pi, o_pl, o_ri, o_sti, acR_nx, acR_re, acR_ca, acR_no, acR_if, Kc_i, Kc_n, a_lg, a_ls, a_kl, a_pk, a_sw, cw_n, cw_i, cw_l, cw_r, List.length_cons, List.length_nil, List.getElem?_cons_succ, List.getElem?_cons_zero, ↓reduceIte, decide_true, decide_false, Bool.false_eq_true, or_true, true_or, or_false, false_or, or_self, and_true, true_and, not_true_eq_false, not_false_eq_true, Nat.reduceEqDiff, Nat.reduceLT, Nat.reduceLeDiff, Nat.reduceAdd, Nat.reduceSub, Nat.reduceMul, Nat.reduceDiv, Nat.reduceMod, Nat.zero_add, Nat.add_zero, n_z, n_1, n_ltz, n_zlt, n_lt, n_eq, n_cl, n_in, nI_add, pk_mul, n_div, n_sub, nm_mod, hx]
    exact inner g)
  have g1 : ¬ (a < 0 ∨ 8 < a) := by omega
  have g2 : ¬ (b < 0 ∨ 8 < b) := by omega
  have g3 : ¬ (m < 1 ∨ 9 < m) := by omega
  have g4 : ¬ (w < 0 ∨ 1 < w) := by omega
  have k0 := key (σ.1 64) none
  rw [sc_id] at k0
  simp (disch := first | assumption | omega) only [cl_195, r_195_0, r_195_1, r_195_4, r_195_7, r_195_8, r_195_11, r_195_14, r_195_15, r_195_16, r_195_19, r_195_20, r_195_21, r_195_22, r_195_25, r_195_28, r_195_31, r_195_33, r_195_36, r_195_39, r_195_40, r_195_42, r_195_45, r_195_46, r_195_47, r_195_49, r_195_50, r_195_52, r_195_53, r_195_57, r_195_59, r_195_62, r_195_63, r_195_67, r_195_69, r_195_72, r_195_73, r_195_74, r_195_76, r_195_79, r_195_82, r_195_83, r_195_84, r_195_86, r_195_89, r_195_92, r_195_93, r_195_94, r_195_96, r_195_98, r_195_99, r_195_102, r_195_105, r_195_106, r_195_107, r_195_109, r_195_111, r_195_112, r_195_115, r_195_118, r_195_120, r_195_121, r_195_124, r_195_126, r_195_128, r_195_129, r_195_131, r_195_132, r_195_135, r_195_137, r_195_139, r_195_142, r_195_145, r_195_148, r_195_151, r_195_154, r_195_156, r_195_159, r_195_161, r_195_164, r_195_166, f_add, f_mul, o_bi, o_ceq, o_cge, o_cne, o_eq, o_go, o_i2l, o_inc, o_ivs, o_ivv, o_lda, o_ldi, o_ne, o_pi, o_pl, o_ri, o_sti, acR_nx, acR_re, acR_ca, acR_no, acR_if, Kc_i, Kc_n, a_lg, a_ls, a_kl, a_pk, a_sw, cw_n, cw_i, cw_l, cw_r, List.length_cons, List.length_nil, List.getElem?_cons_succ, List.getElem?_cons_zero, ↓reduceIte, decide_true, decide_false, Bool.false_eq_true, or_true, true_or, or_false, false_or, or_self, and_true, true_and, not_true_eq_false, not_false_eq_true, Nat.reduceEqDiff, Nat.reduceLT, Nat.reduceLeDiff, Nat.reduceAdd, Nat.reduceSub, Nat.reduceMul, Nat.reduceDiv, Nat.reduceMod, Nat.zero_add, Nat.add_zero, n_z, n_1, n_ltz, n_zlt, n_lt, n_eq, n_cl, n_in, nI_add, pk_mul, n_div, n_sub, nm_mod, ly_61, m_isClause, m_in, l_lt, l_gt, m_isTwo, g1, g2, g3, g4, hab]
  exact k0
