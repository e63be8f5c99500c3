/-! bits; what is only supposed: holdsAll, drawn, precedent -/
theorem nx_and (a b : Nat) : nI a &&& nI b = nI (a &&& b) := by
  apply Int32.toBitVec_inj.1
  show BitVec.ofNat 32 a &&& BitVec.ofNat 32 b = BitVec.ofNat 32 (a &&& b)
  apply BitVec.eq_of_getLsbD_eq
  intro i hi
  simp [hi]
def bcI (x : Int32) : Int32 :=
  let a := x - (f_ush x (nI 1) &&& 1431655765)
  let b := (a &&& 858993459) + (f_ush a (nI 2) &&& 858993459)
  let c := b + f_ush b (nI 4) &&& 252645135
  let d := c + f_ush c (nI 8)
  let e := d + f_ush d (nI 16)
  e &&& nI 63
theorem c_bitCount (x : Int32) (σ : a_HP) (Q : Option Value → a_HP → Prop) : Cl 206 [.int x] σ Q = Q (some (.int (bcI x))) σ := by
  simp only [cl_206, r_206_0, r_206_1, r_206_2, r_206_3, r_206_4, r_206_7, r_206_8, r_206_9, r_206_10, r_206_11, r_206_14, r_206_15, r_206_16, r_206_17, r_206_18, r_206_21, r_206_22, r_206_23, r_206_24, r_206_25, r_206_26, r_206_27, r_206_28, r_206_29, r_206_32, r_206_33, r_206_34, r_206_35, r_206_36, r_206_38, r_206_39, r_206_40, r_206_41, r_206_42, r_206_43, r_206_45, r_206_46, r_206_47, r_206_48, r_206_49, r_206_51, r_206_52, f_add, f_and, f_sub, f_ush, o_bi, o_ldi, o_pi, o_ri, o_sti, acR_nx, acR_re, acR_ca, acR_no, acR_if, Kc_i, Kc_n, a_lg, a_ls, a_kl, a_pk, a_sw, cw_n, cw_i, cw_l, cw_r, List.length_cons, List.length_nil, List.getElem?_cons_succ, List.getElem?_cons_zero, ↓reduceIte, decide_true, decide_false, Bool.false_eq_true, or_true, true_or, or_false, false_or, or_self, and_true, true_and, not_true_eq_false, not_false_eq_true, Nat.reduceEqDiff, Nat.reduceLT, Nat.reduceLeDiff, Nat.reduceAdd, Nat.reduceSub, Nat.reduceMul, Nat.reduceDiv, Nat.reduceMod, Nat.zero_add, Nat.add_zero]
  rfl
def okB : Nat → Nat → Bool
  | 0, l => l == 0
  | f + 1, l => l == 0 || okB f (l &&& (l - 1))
def pcN : Nat → Nat → Nat
  | 0, _ => 0
  | f + 1, l => if l = 0 then 0 else pcN f (l &&& (l - 1)) + 1
theorem m_bitsF (S : Int32) (σ : a_HP) (Q : Option Value → a_HP → Prop) : ∀ (f l c : Nat), okB f l = true → l < 2147483648 → Rn 124 4 [some (.int S), some (.int (nI c)), some (.int (nI l))] [] σ Q = Q (some (.int (nI (c + pcN f l)))) σ
  | 0, l, c, h, hl => by
    have : l = 0 := by simpa [okB] using h
    subst this
    rw [r_124_4]
    simp (disch := first | assumption | omega) only [r_124_0, r_124_1, r_124_2, r_124_3, r_124_5, r_124_8, r_124_11, r_124_12, r_124_13, r_124_14, r_124_15, r_124_16, r_124_17, r_124_20, r_124_21, f_and, f_sub, o_bi, o_eq, o_go, o_inc, o_ldi, o_pi, o_ri, o_sti, acR_nx, acR_re, acR_ca, acR_no, acR_if, Kc_i, Kc_n, a_lg, a_ls, a_kl, a_pk, a_sw, cw_n, cw_i, cw_l, cw_r, List.length_cons, List.length_nil, List.getElem?_cons_succ, List.getElem?_cons_zero, ↓reduceIte, decide_true, decide_false, Bool.false_eq_true, or_true, true_or, or_false, false_or, or_self, and_true, true_and, not_true_eq_false, not_false_eq_true, Nat.reduceEqDiff, Nat.reduceLT, Nat.reduceLeDiff, Nat.reduceAdd, Nat.reduceSub, Nat.reduceMul, Nat.reduceDiv, Nat.reduceMod, Nat.zero_add, Nat.add_zero, n_z, n_1, n_ltz, n_zlt, n_lt, n_eq, n_cl, n_in, nI_add, pk_mul, n_div, n_sub, nm_mod, pcN]
  | f + 1, l, c, h, hl => by
    rw [r_124_4]
    by_cases h0 : l = 0
    · subst h0
      simp (disch := first | assumption | omega) only [r_124_0, r_124_1, r_124_2, r_124_3, r_124_5, r_124_8, r_124_11, r_124_12, r_124_13, r_124_14, r_124_15, r_124_16, r_124_17, r_124_20, r_124_21, f_and, f_sub, o_bi, o_eq, o_go, o_inc, o_ldi, o_pi, o_ri, o_sti, acR_nx, acR_re, acR_ca, acR_no, acR_if, Kc_i, Kc_n, a_lg, a_ls, a_kl, a_pk, a_sw, cw_n, cw_i, cw_l, cw_r, List.length_cons, List.length_nil, List.getElem?_cons_succ, List.getElem?_cons_zero, ↓reduceIte, decide_true, decide_false, Bool.false_eq_true, or_true, true_or, or_false, false_or, or_self, and_true, true_and, not_true_eq_false, not_false_eq_true, Nat.reduceEqDiff, Nat.reduceLT, Nat.reduceLeDiff, Nat.reduceAdd, Nat.reduceSub, Nat.reduceMul, Nat.reduceDiv, Nat.reduceMod, Nat.zero_add, Nat.add_zero, n_z, n_1, n_ltz, n_zlt, n_lt, n_eq, n_cl, n_in, nI_add, pk_mul, n_div, n_sub, nm_mod, pcN]
    · have h1 : okB f (l &&& (l - 1)) = true := by
        simp only [okB, Bool.or_eq_true] at h
        rcases h with h | h
        · exact absurd (by simpa using h) h0
        · exact h
      have hle : l &&& (l - 1) ≤ l := Nat.and_le_left
      have := m_bitsF S σ Q f (l &&& (l - 1)) (c + 1) h1 (by omega)
      simp (disch := first | assumption | omega) only [r_124_0, r_124_1, r_124_2, r_124_3, r_124_5, r_124_8, r_124_11, r_124_12, r_124_13, r_124_14, r_124_15, r_124_16, r_124_17, r_124_20, r_124_21, f_and, f_sub, o_bi, o_eq, o_go, o_inc, o_ldi, o_pi, o_ri, o_sti, acR_nx, acR_re, acR_ca, acR_no, acR_if, Kc_i, Kc_n, a_lg, a_ls, a_kl, a_pk, a_sw, cw_n, cw_i, cw_l, cw_r, List.length_cons, List.length_nil, List.getElem?_cons_succ, List.getElem?_cons_zero, ↓reduceIte, decide_true, decide_false, Bool.false_eq_true, or_true, true_or, or_false, false_or, or_self, and_true, true_and, not_true_eq_false, not_false_eq_true, Nat.reduceEqDiff, Nat.reduceLT, Nat.reduceLeDiff, Nat.reduceAdd, Nat.reduceSub, Nat.reduceMul, Nat.reduceDiv, Nat.reduceMod, Nat.zero_add, Nat.add_zero, n_z, n_1, n_ltz, n_zlt, n_lt, n_eq, n_cl, n_in, nI_add, pk_mul, n_div, n_sub, nm_mod, h0, nx_and, pcN]
      rw [this, show c + 1 + pcN f (l &&& (l - 1)) = c + (pcN f (l &&& (l - 1)) + 1) by omega]
theorem okB_512 : ∀ l : Fin 512, okB 10 l.val = true := by decide +kernel
theorem bc_pc : ∀ l : Fin 512, bcI (nI l.val) = nI (pcN 10 l.val) := by decide +kernel
theorem m_bits {l : Nat} (hl : l < 512) (σ : a_HP) (Q : Option Value → a_HP → Prop) : Cl 124 [.int (nI l)] σ Q = Q (some (.int (bcI (nI l)))) σ := by
  simp (disch := first | assumption | omega) only [cl_124, r_124_0, r_124_1, r_124_2, r_124_3, r_124_5, r_124_8, r_124_11, r_124_12, r_124_13, r_124_14, r_124_15, r_124_16, r_124_17, r_124_20, r_124_21, f_and, f_sub, o_bi, o_eq, o_go, o_inc, o_ldi, o_pi, o_ri, o_sti, acR_nx, acR_re, acR_ca, acR_no, acR_if, Kc_i, Kc_n, a_lg, a_ls, a_kl, a_pk, a_sw, cw_n, cw_i, cw_l, cw_r, List.length_cons, List.length_nil, List.getElem?_cons_succ, List.getElem?_cons_zero, ↓reduceIte, decide_true, decide_false, Bool.false_eq_true, or_true, true_or, or_false, false_or, or_self, and_true, true_and, not_true_eq_false, not_false_eq_true, Nat.reduceEqDiff, Nat.reduceLT, Nat.reduceLeDiff, Nat.reduceAdd, Nat.reduceSub, Nat.reduceMul, Nat.reduceDiv, Nat.reduceMod, Nat.zero_add, Nat.add_zero, n_z, n_1, n_ltz, n_zlt, n_lt, n_eq, n_cl, n_in, nI_add, pk_mul, n_div, n_sub, nm_mod]
  rw [m_bitsF _ _ _ 10 l 0 (okB_512 ⟨l, hl⟩) (by omega), bc_pc ⟨l, hl⟩, Nat.zero_add]
theorem pB_nI (r : Int32) (kd st wd : Nat → Int32) : ∀ k : Nat, k ≤ 9 → ∃ m : Nat, m < 2 ^ k ∧ pB r kd st wd k = nI m
  | 0, _ => ⟨0, by omega, rfl⟩
  | k + 1, hk => by
    obtain ⟨m, hm, e⟩ := pB_nI r kd st wd k (by omega)
    simp only [pB]
    have h2 : 2 ^ (k + 1) = 2 ^ k + 2 ^ k := by omega
    have h9 : 2 ^ k ≤ 2 ^ 8 := Nat.pow_le_pow_right (by omega) (by omega)
    by_cases q : pC r kd st k < wd k
    · rw [if_pos q, e]
      exact ⟨m, by omega, rfl⟩
    · rw [if_neg q, e]
      exact ⟨m + 2 ^ k, by omega, or_bit ⟨k, by omega⟩ ⟨m, by omega⟩ hm⟩
theorem and_nI {a : Nat} (ha : a < 512) (y : Int32) : ∃ m : Nat, m < 512 ∧ nI a &&& y = nI m := by
  refine ⟨a &&& y.toBitVec.toNat, ?_, ?_⟩
  · have : a &&& y.toBitVec.toNat ≤ a := Nat.and_le_left
    omega
  · have : y = nI y.toBitVec.toNat := by
      apply Int32.toBitVec_inj.1
      show y.toBitVec = BitVec.ofNat 32 y.toBitVec.toNat
      simp
    rw [this, nx_and]
    congr 1
    congr 1
    show y.toBitVec.toNat = (BitVec.ofNat 32 y.toBitVec.toNat).toNat
    simp
/-! the nets beside: trial, aside -/
theorem tr_o (σ : a_HP) {j : Nat} (hj : j < 4) : (hTake σ 18 1).1 18 j = σ.1 1 j := by
  show (if j < 4 then σ.1 1 j else σ.1 18 j) = σ.1 1 j
  rw [if_pos hj]
theorem tr_k (σ : a_HP) {k : Nat} (hk : k < 16) : (hTake σ 18 1).1 19 k = σ.1 2 k := by
  show (if k < 16 then σ.1 2 k else σ.1 19 k) = σ.1 2 k
  rw [if_pos hk]
theorem tr_s (σ : a_HP) {k : Nat} (hk : k < 16) : (hTake σ 18 1).1 20 k = σ.1 3 k := by
  show (if k < 16 then σ.1 3 k else σ.1 20 k) = σ.1 3 k
  rw [if_pos hk]
theorem tr_w (σ : a_HP) {c : Nat} (hc : c < 9) : (hTake σ 18 1).1 22 c = σ.1 5 c := by
  show (if c < 9 then σ.1 5 c else σ.1 22 c) = σ.1 5 c
  rw [if_pos hc]
theorem as_at (f g : Nat → Int32) {j : Nat} (hj : j < 61) : va_cpy f g 0 0 61 j = f j := by
  unfold va_cpy
  rw [if_pos (by omega)]
  congr 1
  omega
/-- a row as the reference has it, strengths apart -/
def aRow (f st A : Nat → Int32) : Prop := A 0 = f 0 ∧ (∀ j, j < 16 → A (4 + j) = f (4 + j)) ∧ (∀ j, j < 16 → A (20 + j) = st j) ∧ ∀ c, c < 9 → A (52 + c) = f (52 + c)
theorem aRow_ok {N : Nat} {f st A : Nat → Int32} (hv : vN N f) (hA : aRow f st A) (hs : ∀ j, j < 16 → ∃ d : Nat, d ≤ 9 ∧ st j = nI d) : vKn (A 0) (fun j => A (4 + j)) (fun j => A (20 + j)) := by
  refine ⟨by rw [hA.1]; exact hv.1, fun k hk => ⟨?_, ?_⟩⟩
  · dsimp only; rw [hA.2.1 k hk]; exact (hv.2.2.2.2.1 k hk).1
  · dsimp only; rw [hA.2.2.1 k hk]; exact hs k hk
/-- what is law by the reference's numbers, with these strengths -/
def lB (f st : Nat → Int32) : Int32 := pB (f 0) (fun j => f (4 + j)) st (fun j => f (52 + j)) 9
theorem lB_row {f st A : Nat → Int32} (hA : aRow f st A) : pB (A 0) (fun j => A (4 + j)) (fun j => A (20 + j)) (fun j => A (52 + j)) 9 = lB f st :=
  pB_c hA.1 (fun k hk => hA.2.1 k hk) (fun k hk => hA.2.2.1 k hk) (fun c hc => hA.2.2.2 c hc) 9 (by omega)
/-- the trial net shows f, strengths apart -/
def tRow (f st : Nat → Int32) (τ : a_HP) : Prop := τ.1 18 0 = f 0 ∧ (∀ j, j < 16 → τ.1 19 j = f (4 + j)) ∧ (∀ j, j < 16 → τ.1 20 j = st j) ∧ ∀ c, c < 9 → τ.1 22 c = f (52 + c)
theorem lB_trial {f st : Nat → Int32} {τ : a_HP} (h : tRow f st τ) : pB (τ.1 18 0) (τ.1 19) (τ.1 20) (τ.1 22) 9 = lB f st := pB_c h.1 h.2.1 h.2.2.1 h.2.2.2 9 (by omega)
theorem tRow_0 {N : Nat} {σ : a_HP} (h : iS N σ 1 6 8 (σ.1 62)) : tRow (σ.1 62) (fun j => σ.1 62 (20 + j)) (hTake σ 18 1) :=
  ⟨(tr_o σ (by omega)).trans (h.1.1 0 (by omega)), fun j hj => (tr_k σ hj).trans (h.1.2.1 j hj).1, fun j hj => (tr_s σ hj).trans (h.1.2.1 j hj).2.1, fun c hc => (tr_w σ hc).trans (h.1.2.2 c hc)⟩
/-! holdsAll -/
def hs (lw : Int32) (st : Nat → Int32) (L : (Nat → Int32) → Int32) : Nat → Int32 × Int32
  | 0 => (-1, -1)
  | k + 1 => if st k = 0 then hs lw st L k else if (hs lw st L k).2 < bcI (lw &&& (L (upd st k (nI 0)) ^^^ -1)) then (nI k, bcI (lw &&& (L (upd st k (nI 0)) ^^^ -1))) else hs lw st L k
theorem hs_none (lw : Int32) (st : Nat → Int32) (L : (Nat → Int32) → Int32) : ∀ k : Nat, k ≤ 16 → (hs lw st L k).1 = -1 → (hs lw st L k).2 = -1
  | 0, _, _ => rfl
  | k + 1, hk, h => by
    simp only [hs] at h ⊢
    by_cases c1 : st k = 0
    · rw [if_pos c1] at h ⊢
      exact hs_none lw st L k (by omega) h
    · rw [if_neg c1] at h ⊢
      by_cases c2 : (hs lw st L k).2 < bcI (lw &&& (L (upd st k (nI 0)) ^^^ -1))
      · rw [if_pos c2] at h
        exfalso
        have := n_nm1 (k := k) (by omega)
        have h' : nI k = -1 := h
        rw [h'] at this
        simp at this
      · rw [if_neg c2] at h ⊢
        exact hs_none lw st L k (by omega) h
theorem c_holdsAll {N : Nat} {σ : a_HP} (h : Inv N σ) {w : Nat} (hw : w ≤ 1) (Q : Option Value → a_HP → Prop) : Cl 67 [.ref 0, .int (nI w)] σ Q = Q (some (.int (if w = 0 then (hs (lB (σ.1 62) (fun j => σ.1 62 (20 + j))) (fun j => σ.1 62 (20 + j)) (lB (σ.1 62)) 16).1 else (hs (lB (σ.1 62) (fun j => σ.1 62 (20 + j))) (fun j => σ.1 62 (20 + j)) (lB (σ.1 62)) 16).2))) (hTake σ 18 1) := by
  have hT := tRow_0 h.1
  have hlaw := lw_eq h.1
  obtain ⟨e, -, -, -⟩ := h.1
  generalize hτ : hTake σ 18 1 = τ at hT ⊢
  have τ1 : τ.1 1 = σ.1 1 := by rw [← hτ]; rfl
  have τ3 : τ.1 3 = σ.1 3 := by rw [← hτ]; rfl
  generalize hst : (fun j => σ.1 62 (20 + j)) = st at *
  have est : ∀ k, k < 16 → σ.1 3 k = st k := fun k hk => by rw [← hst]; exact (e.2.1 k hk).2.1
  generalize hL : lB (σ.1 62) st = lw at *
  have hlaw' : pB (σ.1 1 0) (σ.1 2) (σ.1 3) (σ.1 5) 9 = lw := by rw [hlaw, ← hL, ← hst]; rfl
  have key := lp_dn (C := fun k => ∀ x6, Rn 67 41 [some (.ref 0), some (.int (nI w)), some (.int lw), some (.int (hs lw st (lB (σ.1 62)) k).1), some (.int (hs lw st (lB (σ.1 62)) k).2), some (.int (nI k)), x6] [] τ Q = Q (some (.int (if w = 0 then (hs lw st (lB (σ.1 62)) 16).1 else (hs lw st (lB (σ.1 62)) 16).2))) τ) 16 (fun x6 => by
    rw [r_67_41]
    by_cases w0 : w = 0
    · simp (disch := first | assumption | omega) only [r_67_0, r_67_1, r_67_2, r_67_3, r_67_6, r_67_9, r_67_10, r_67_13, r_67_14, r_67_15, r_67_18, r_67_21, r_67_22, r_67_23, r_67_24, r_67_25, r_67_27, r_67_28, r_67_31, r_67_32, r_67_35, r_67_38, r_67_39, r_67_43, r_67_45, r_67_48, r_67_49, r_67_52, r_67_54, r_67_57, r_67_60, r_67_63, r_67_64, r_67_67, r_67_70, r_67_72, r_67_73, r_67_74, r_67_75, r_67_76, r_67_79, r_67_82, r_67_83, r_67_84, r_67_85, r_67_88, r_67_90, r_67_91, r_67_94, r_67_97, r_67_99, r_67_100, r_67_103, r_67_106, r_67_108, r_67_109, r_67_110, r_67_112, r_67_114, r_67_117, r_67_119, r_67_120, r_67_122, r_67_124, r_67_127, r_67_130, r_67_131, r_67_134, r_67_135, r_67_138, r_67_140, f_and, f_xor, o_bi, o_cge, o_cle, o_eq, o_get, o_go, o_ial, o_ias, o_inc, o_ivs, o_ivv, o_lda, o_ldi, o_ne, o_pi, o_ri, o_sti, acR_nx, acR_re, acR_ca, acR_no, acR_if, Kc_i, Kc_n, a_lg, a_ls, a_kl, a_pk, a_sw, cw_n, cw_i, cw_l, cw_r, List.length_cons, List.length_nil, List.getElem?_cons_succ, List.getElem?_cons_zero, ↓reduceIte, decide_true, decide_false, Bool.false_eq_true, or_true, true_or, or_false, false_or, or_self, and_true, true_and, not_true_eq_false, not_false_eq_true, Nat.reduceEqDiff, Nat.reduceLT, Nat.reduceLeDiff, Nat.reduceAdd, Nat.reduceSub, Nat.reduceMul, Nat.reduceDiv, Nat.reduceMod, Nat.zero_add, Nat.add_zero, n_z, n_1, n_ltz, n_zlt, n_lt, n_eq, n_cl, n_in, nI_add, pk_mul, n_div, n_sub, nm_mod, w0]
    · simp (disch := first | assumption | omega) only [r_67_0, r_67_1, r_67_2, r_67_3, r_67_6, r_67_9, r_67_10, r_67_13, r_67_14, r_67_15, r_67_18, r_67_21, r_67_22, r_67_23, r_67_24, r_67_25, r_67_27, r_67_28, r_67_31, r_67_32, r_67_35, r_67_38, r_67_39, r_67_43, r_67_45, r_67_48, r_67_49, r_67_52, r_67_54, r_67_57, r_67_60, r_67_63, r_67_64, r_67_67, r_67_70, r_67_72, r_67_73, r_67_74, r_67_75, r_67_76, r_67_79, r_67_82, r_67_83, r_67_84, r_67_85, r_67_88, r_67_90, r_67_91, r_67_94, r_67_97, r_67_99, r_67_100, r_67_103, r_67_106, r_67_108, r_67_109, r_67_110, r_67_112, r_67_114, r_67_117, r_67_119, r_67_120, r_67_122, r_67_124, r_67_127, r_67_130, r_67_131, r_67_134, r_67_135, r_67_138, r_67_140, f_and, f_xor, o_bi, o_cge, o_cle, o_eq, o_get, o_go, o_ial, o_ias, o_inc, o_ivs, o_ivv, o_lda, o_ldi, o_ne, o_pi, o_ri, o_sti, acR_nx, acR_re, acR_ca, acR_no, acR_if, Kc_i, Kc_n, a_lg, a_ls, a_kl, a_pk, a_sw, cw_n, cw_i, cw_l, cw_r, List.length_cons, List.length_nil, List.getElem?_cons_succ, List.getElem?_cons_zero, ↓reduceIte, decide_true, decide_false, Bool.false_eq_true, or_true, true_or, or_false, false_or, or_self, and_true, true_and, not_true_eq_false, not_false_eq_true, Nat.reduceEqDiff, Nat.reduceLT, Nat.reduceLeDiff, Nat.reduceAdd, Nat.reduceSub, Nat.reduceMul, Nat.reduceDiv, Nat.reduceMod, Nat.zero_add, Nat.add_zero, n_z, n_1, n_ltz, n_zlt, n_lt, n_eq, n_cl, n_in, nI_add, pk_mul, n_div, n_sub, nm_mod, w0]) (fun k hk ih x6 => by
    rw [r_67_41]
    have sk : τ.1 3 k = st k := by rw [τ3]; exact est k hk
    have hss : hs lw st (lB (σ.1 62)) (k + 1) = if st k = 0 then hs lw st (lB (σ.1 62)) k else if (hs lw st (lB (σ.1 62)) k).2 < bcI (lw &&& (lB (σ.1 62) (upd st k (nI 0)) ^^^ -1)) then (nI k, bcI (lw &&& (lB (σ.1 62) (upd st k (nI 0)) ^^^ -1))) else hs lw st (lB (σ.1 62)) k := rfl
    rw [hss] at ih
    by_cases c1 : st k = 0
    · have c1' : τ.1 3 k = 0 := by rw [sk]; exact c1
      simp (disch := first | assumption | omega) only [r_67_0, r_67_1, r_67_2, r_67_3, r_67_6, r_67_9, r_67_10, r_67_13, r_67_14, r_67_15, r_67_18, r_67_21, r_67_22, r_67_23, r_67_24, r_67_25, r_67_27, r_67_28, r_67_31, r_67_32, r_67_35, r_67_38, r_67_39, r_67_43, r_67_45, r_67_48, r_67_49, r_67_52, r_67_54, r_67_57, r_67_60, r_67_63, r_67_64, r_67_67, r_67_70, r_67_72, r_67_73, r_67_74, r_67_75, r_67_76, r_67_79, r_67_82, r_67_83, r_67_84, r_67_85, r_67_88, r_67_90, r_67_91, r_67_94, r_67_97, r_67_99, r_67_100, r_67_103, r_67_106, r_67_108, r_67_109, r_67_110, r_67_112, r_67_114, r_67_117, r_67_119, r_67_120, r_67_122, r_67_124, r_67_127, r_67_130, r_67_131, r_67_134, r_67_135, r_67_138, r_67_140, f_and, f_xor, o_bi, o_cge, o_cle, o_eq, o_get, o_go, o_ial, o_ias, o_inc, o_ivs, o_ivv, o_lda, o_ldi, o_ne, o_pi, o_ri, o_sti, acR_nx, acR_re, acR_ca, acR_no, acR_if, Kc_i, Kc_n, a_lg, a_ls, a_kl, a_pk, a_sw, cw_n, cw_i, cw_l, cw_r, List.length_cons, List.length_nil, List.getElem?_cons_succ, List.getElem?_cons_zero, ↓reduceIte, decide_true, decide_false, Bool.false_eq_true, or_true, true_or, or_false, false_or, or_self, and_true, true_and, not_true_eq_false, not_false_eq_true, Nat.reduceEqDiff, Nat.reduceLT, Nat.reduceLeDiff, Nat.reduceAdd, Nat.reduceSub, Nat.reduceMul, Nat.reduceDiv, Nat.reduceMod, Nat.zero_add, Nat.add_zero, n_z, n_1, n_ltz, n_zlt, n_lt, n_eq, n_cl, n_in, nI_add, pk_mul, n_div, n_sub, nm_mod, ly_0, ly_1, hk, c_isHole aN_1, c1']
      rw [if_pos c1] at ih
      exact ih _
    · have c1' : ¬ τ.1 3 k = 0 := by rw [sk]; exact c1
      rw [if_neg c1] at ih
      have tl : pB (τ.1 18 0) (τ.1 19) (upd (τ.1 20) k (nI 0)) (τ.1 22) 9 = lB (σ.1 62) (upd st k (nI 0)) := pB_c hT.1 hT.2.1 (fun j hj => by simp only [ud_1]; by_cases q : j = k; rw [if_pos q, if_pos q]; rw [if_neg q, if_neg q]; exact hT.2.2.1 j hj) hT.2.2.2 9 (by omega)
      have back : a_sc τ 20 (upd (τ.1 20) k (τ.1 3 k)) = τ := by
        have : upd (τ.1 20) k (τ.1 3 k) = τ.1 20 := by
          funext j
          rw [ud_1]
          by_cases q : j = k
          · rw [if_pos q, q, hT.2.2.1 k hk, sk]
          · rw [if_neg q]
        rw [this, sc_id]
      generalize hX : bcI (lw &&& (lB (σ.1 62) (upd st k (nI 0)) ^^^ -1)) = X at ih
      by_cases c2 : (hs lw st (lB (σ.1 62)) k).2 < X
      · simp (disch := first | assumption | omega) only [r_67_0, r_67_1, r_67_2, r_67_3, r_67_6, r_67_9, r_67_10, r_67_13, r_67_14, r_67_15, r_67_18, r_67_21, r_67_22, r_67_23, r_67_24, r_67_25, r_67_27, r_67_28, r_67_31, r_67_32, r_67_35, r_67_38, r_67_39, r_67_43, r_67_45, r_67_48, r_67_49, r_67_52, r_67_54, r_67_57, r_67_60, r_67_63, r_67_64, r_67_67, r_67_70, r_67_72, r_67_73, r_67_74, r_67_75, r_67_76, r_67_79, r_67_82, r_67_83, r_67_84, r_67_85, r_67_88, r_67_90, r_67_91, r_67_94, r_67_97, r_67_99, r_67_100, r_67_103, r_67_106, r_67_108, r_67_109, r_67_110, r_67_112, r_67_114, r_67_117, r_67_119, r_67_120, r_67_122, r_67_124, r_67_127, r_67_130, r_67_131, r_67_134, r_67_135, r_67_138, r_67_140, f_and, f_xor, o_bi, o_cge, o_cle, o_eq, o_get, o_go, o_ial, o_ias, o_inc, o_ivs, o_ivv, o_lda, o_ldi, o_ne, o_pi, o_ri, o_sti, acR_nx, acR_re, acR_ca, acR_no, acR_if, Kc_i, Kc_n, a_lg, a_ls, a_kl, a_pk, a_sw, cw_n, cw_i, cw_l, cw_r, List.length_cons, List.length_nil, List.getElem?_cons_succ, List.getElem?_cons_zero, ↓reduceIte, decide_true, decide_false, Bool.false_eq_true, or_true, true_or, or_false, false_or, or_self, and_true, true_and, not_true_eq_false, not_false_eq_true, Nat.reduceEqDiff, Nat.reduceLT, Nat.reduceLeDiff, Nat.reduceAdd, Nat.reduceSub, Nat.reduceMul, Nat.reduceDiv, Nat.reduceMod, Nat.zero_add, Nat.add_zero, n_z, n_1, n_ltz, n_zlt, n_lt, n_eq, n_cl, n_in, nI_add, pk_mul, n_div, n_sub, nm_mod, ly_0, ly_1, ly_3, ly_18, ly_20, hk, c_isHole aN_1, c1', c_lawBits aN_18, sc_1, wi_sc, sc_sc, tl, c_bitCount, hX, ud_ud, back, c2]
        rw [if_pos c2] at ih
        exact ih _
      · simp (disch := first | assumption | omega) only [r_67_0, r_67_1, r_67_2, r_67_3, r_67_6, r_67_9, r_67_10, r_67_13, r_67_14, r_67_15, r_67_18, r_67_21, r_67_22, r_67_23, r_67_24, r_67_25, r_67_27, r_67_28, r_67_31, r_67_32, r_67_35, r_67_38, r_67_39, r_67_43, r_67_45, r_67_48, r_67_49, r_67_52, r_67_54, r_67_57, r_67_60, r_67_63, r_67_64, r_67_67, r_67_70, r_67_72, r_67_73, r_67_74, r_67_75, r_67_76, r_67_79, r_67_82, r_67_83, r_67_84, r_67_85, r_67_88, r_67_90, r_67_91, r_67_94, r_67_97, r_67_99, r_67_100, r_67_103, r_67_106, r_67_108, r_67_109, r_67_110, r_67_112, r_67_114, r_67_117, r_67_119, r_67_120, r_67_122, r_67_124, r_67_127, r_67_130, r_67_131, r_67_134, r_67_135, r_67_138, r_67_140, f_and, f_xor, o_bi, o_cge, o_cle, o_eq, o_get, o_go, o_ial, o_ias, o_inc, o_ivs, o_ivv, o_lda, o_ldi, o_ne, o_pi, o_ri, o_sti, acR_nx, acR_re, acR_ca, acR_no, acR_if, Kc_i, Kc_n, a_lg, a_ls, a_kl, a_pk, a_sw, cw_n, cw_i, cw_l, cw_r, List.length_cons, List.length_nil, List.getElem?_cons_succ, List.getElem?_cons_zero, ↓reduceIte, decide_true, decide_false, Bool.false_eq_true, or_true, true_or, or_false, false_or, or_self, and_true, true_and, not_true_eq_false, not_false_eq_true, Nat.reduceEqDiff, Nat.reduceLT, Nat.reduceLeDiff, Nat.reduceAdd, Nat.reduceSub, Nat.reduceMul, Nat.reduceDiv, Nat.reduceMod, Nat.zero_add, Nat.add_zero, n_z, n_1, n_ltz, n_zlt, n_lt, n_eq, n_cl, n_in, nI_add, pk_mul, n_div, n_sub, nm_mod, ly_0, ly_1, ly_3, ly_18, ly_20, hk, c_isHole aN_1, c1', c_lawBits aN_18, sc_1, wi_sc, sc_sc, tl, c_bitCount, hX, ud_ud, back, c2]
        rw [if_neg c2] at ih
        exact ih _)
  have hw' : ¬ (w < 0 ∨ 1 < w) := by omega
  simp (disch := first | assumption | omega) only [cl_67, r_67_0, r_67_1, r_67_2, r_67_3, r_67_6, r_67_9, r_67_10, r_67_13, r_67_14, r_67_15, r_67_18, r_67_21, r_67_22, r_67_23, r_67_24, r_67_25, r_67_27, r_67_28, r_67_31, r_67_32, r_67_35, r_67_38, r_67_39, r_67_43, r_67_45, r_67_48, r_67_49, r_67_52, r_67_54, r_67_57, r_67_60, r_67_63, r_67_64, r_67_67, r_67_70, r_67_72, r_67_73, r_67_74, r_67_75, r_67_76, r_67_79, r_67_82, r_67_83, r_67_84, r_67_85, r_67_88, r_67_90, r_67_91, r_67_94, r_67_97, r_67_99, r_67_100, r_67_103, r_67_106, r_67_108, r_67_109, r_67_110, r_67_112, r_67_114, r_67_117, r_67_119, r_67_120, r_67_122, r_67_124, r_67_127, r_67_130, r_67_131, r_67_134, r_67_135, r_67_138, r_67_140, f_and, f_xor, o_bi, o_cge, o_cle, o_eq, o_get, o_go, o_ial, o_ias, o_inc, o_ivs, o_ivv, o_lda, o_ldi, o_ne, o_pi, o_ri, o_sti, acR_nx, acR_re, acR_ca, acR_no, acR_if, Kc_i, Kc_n, a_lg, a_ls, a_kl, a_pk, a_sw, cw_n, cw_i, cw_l, cw_r, List.length_cons, List.length_nil, List.getElem?_cons_succ, List.getElem?_cons_zero, ↓reduceIte, decide_true, decide_false, Bool.false_eq_true, or_true, true_or, or_false, false_or, or_self, and_true, true_and, not_true_eq_false, not_false_eq_true, Nat.reduceEqDiff, Nat.reduceLT, Nat.reduceLeDiff, Nat.reduceAdd, Nat.reduceSub, Nat.reduceMul, Nat.reduceDiv, Nat.reduceMod, Nat.zero_add, Nat.add_zero, n_z, n_1, n_ltz, n_zlt, n_lt, n_eq, n_cl, n_in, nI_add, pk_mul, n_div, n_sub, nm_mod, ly_0, ly_1, ly_18, c_within, hw', c_lawBits aN_1, hlaw', c_take_18_1, hτ]
  exact key _
theorem m_holdsAll {N : Nat} {σ : a_HP} (hv : vN N (σ.1 62)) {w : Nat} (hw : w ≤ 1) (Q : Option Value → a_HP → Prop) (hQ : ∀ g, Q (some (.int (if w = 0 then (hs (lB (σ.1 62) (fun j => σ.1 62 (20 + j))) (fun j => σ.1 62 (20 + j)) (lB (σ.1 62)) 16).1 else (hs (lB (σ.1 62) (fun j => σ.1 62 (20 + j))) (fun j => σ.1 62 (20 + j)) (lB (σ.1 62)) 16).2))) (a_sc σ 64 g)) : Cl 171 [.ref 61, .int (nI w)] σ Q := by
  have vk := vKn_of hv
  have ml := m_lawsOf aT_62 σ vk
  generalize hst : (fun j => σ.1 62 (20 + j)) = st at *
  have hst2 : ∀ k, st k = σ.1 62 (20 + k) := fun k => by rw [← hst]
  have hlaw : pB (σ.1 62 0) (fun j => σ.1 62 (4 + j)) st (fun j => σ.1 62 (52 + j)) 9 = lB (σ.1 62) st := rfl
  rw [hlaw] at ml
  obtain ⟨lm, hlm, elm⟩ := pB_nI (σ.1 62 0) (fun j => σ.1 62 (4 + j)) st (fun j => σ.1 62 (52 + j)) 9 (by omega)
  rw [hlaw] at elm
  generalize hL : lB (σ.1 62) st = lw at *
  have key := lp_dn (C := fun k => ∀ x6 g, Rn 171 28 [some (.ref 61), some (.int (nI w)), some (.int lw), some (.int (hs lw st (lB (σ.1 62)) k).1), some (.int (hs lw st (lB (σ.1 62)) k).2), some (.int (nI k)), x6] [] (a_sc σ 64 g) Q) 16 (fun x6 g => by
    rw [r_171_28]
    have hn := hs_none lw st (lB (σ.1 62)) 16 (by omega)
    have := hQ g
    by_cases q : (hs lw st (lB (σ.1 62)) 16).1 = -1
    · simp (disch := first | assumption | omega) only [r_171_0, r_171_1, r_171_4, r_171_7, r_171_8, r_171_11, r_171_12, r_171_13, r_171_16, r_171_19, r_171_20, r_171_21, r_171_22, r_171_23, r_171_25, r_171_26, r_171_30, r_171_32, r_171_35, r_171_36, r_171_39, r_171_41, r_171_43, r_171_44, r_171_45, r_171_48, r_171_49, r_171_52, r_171_53, r_171_56, r_171_58, r_171_60, r_171_61, r_171_62, r_171_63, r_171_64, r_171_65, r_171_68, r_171_71, r_171_72, r_171_73, r_171_74, r_171_77, r_171_79, r_171_81, r_171_83, r_171_86, r_171_88, r_171_91, r_171_92, r_171_93, r_171_95, r_171_97, r_171_100, r_171_102, r_171_105, r_171_107, r_171_109, r_171_112, r_171_115, r_171_116, r_171_117, r_171_120, r_171_121, r_171_124, r_171_125, r_171_128, r_171_129, r_171_132, r_171_134, f_add, f_and, f_xor, o_bi, o_cge, o_cle, o_cne, o_get, o_go, o_ial, o_ias, o_inc, o_ivs, o_ivv, o_lda, o_ldi, o_le, o_ne, o_pi, o_ri, o_sti, acR_nx, acR_re, acR_ca, acR_no, acR_if, Kc_i, Kc_n, a_lg, a_ls, a_kl, a_pk, a_sw, cw_n, cw_i, cw_l, cw_r, List.length_cons, List.length_nil, List.getElem?_cons_succ, List.getElem?_cons_zero, ↓reduceIte, decide_true, decide_false, Bool.false_eq_true, or_true, true_or, or_false, false_or, or_self, and_true, true_and, not_true_eq_false, not_false_eq_true, Nat.reduceEqDiff, Nat.reduceLT, Nat.reduceLeDiff, Nat.reduceAdd, Nat.reduceSub, Nat.reduceMul, Nat.reduceDiv, Nat.reduceMod, Nat.zero_add, Nat.add_zero, n_z, n_1, n_ltz, n_zlt, n_lt, n_eq, n_cl, n_in, nI_add, pk_mul, n_div, n_sub, nm_mod, q]
      rw [q, hn q] at this
      by_cases w0 : w = 0
      · rw [if_pos w0] at this; exact this
      · rw [if_neg w0] at this; exact this
    · by_cases w0 : w = 0
      · simp (disch := first | assumption | omega) only [r_171_0, r_171_1, r_171_4, r_171_7, r_171_8, r_171_11, r_171_12, r_171_13, r_171_16, r_171_19, r_171_20, r_171_21, r_171_22, r_171_23, r_171_25, r_171_26, r_171_30, r_171_32, r_171_35, r_171_36, r_171_39, r_171_41, r_171_43, r_171_44, r_171_45, r_171_48, r_171_49, r_171_52, r_171_53, r_171_56, r_171_58, r_171_60, r_171_61, r_171_62, r_171_63, r_171_64, r_171_65, r_171_68, r_171_71, r_171_72, r_171_73, r_171_74, r_171_77, r_171_79, r_171_81, r_171_83, r_171_86, r_171_88, r_171_91, r_171_92, r_171_93, r_171_95, r_171_97, r_171_100, r_171_102, r_171_105, r_171_107, r_171_109, r_171_112, r_171_115, r_171_116, r_171_117, r_171_120, r_171_121, r_171_124, r_171_125, r_171_128, r_171_129, r_171_132, r_171_134, f_add, f_and, f_xor, o_bi, o_cge, o_cle, o_cne, o_get, o_go, o_ial, o_ias, o_inc, o_ivs, o_ivv, o_lda, o_ldi, o_le, o_ne, o_pi, o_ri, o_sti, acR_nx, acR_re, acR_ca, acR_no, acR_if, Kc_i, Kc_n, a_lg, a_ls, a_kl, a_pk, a_sw, cw_n, cw_i, cw_l, cw_r, List.length_cons, List.length_nil, List.getElem?_cons_succ, List.getElem?_cons_zero, ↓reduceIte, decide_true, decide_false, Bool.false_eq_true, or_true, true_or, or_false, false_or, or_self, and_true, true_and, not_true_eq_false, not_false_eq_true, Nat.reduceEqDiff, Nat.reduceLT, Nat.reduceLeDiff, Nat.reduceAdd, Nat.reduceSub, Nat.reduceMul, Nat.reduceDiv, Nat.reduceMod, Nat.zero_add, Nat.add_zero, n_z, n_1, n_ltz, n_zlt, n_lt, n_eq, n_cl, n_in, nI_add, pk_mul, n_div, n_sub, nm_mod, q, w0]
        rw [if_pos w0] at this; exact this
      · simp (disch := first | assumption | omega) only [r_171_0, r_171_1, r_171_4, r_171_7, r_171_8, r_171_11, r_171_12, r_171_13, r_171_16, r_171_19, r_171_20, r_171_21, r_171_22, r_171_23, r_171_25, r_171_26, r_171_30, r_171_32, r_171_35, r_171_36, r_171_39, r_171_41, r_171_43, r_171_44, r_171_45, r_171_48, r_171_49, r_171_52, r_171_53, r_171_56, r_171_58, r_171_60, r_171_61, r_171_62, r_171_63, r_171_64, r_171_65, r_171_68, r_171_71, r_171_72, r_171_73, r_171_74, r_171_77, r_171_79, r_171_81, r_171_83, r_171_86, r_171_88, r_171_91, r_171_92, r_171_93, r_171_95, r_171_97, r_171_100, r_171_102, r_171_105, r_171_107, r_171_109, r_171_112, r_171_115, r_171_116, r_171_117, r_171_120, r_171_121, r_171_124, r_171_125, r_171_128, r_171_129, r_171_132, r_171_134, f_add, f_and, f_xor, o_bi, o_cge, o_cle, o_cne, o_get, o_go, o_ial, o_ias, o_inc, o_ivs, o_ivv, o_lda, o_ldi, o_le, o_ne, o_pi, o_ri, o_sti, acR_nx, acR_re, acR_ca, acR_no, acR_if, Kc_i, Kc_n, a_lg, a_ls, a_kl, a_pk, a_sw, cw_n, cw_i, cw_l, cw_r, List.length_cons, List.length_nil, List.getElem?_cons_succ, List.getElem?_cons_zero, ↓reduceIte, decide_true, decide_false, Bool.false_eq_true, or_true, true_or, or_false, false_or, or_self, and_true, true_and, not_true_eq_false, not_false_eq_true, Nat.reduceEqDiff, Nat.reduceLT, Nat.reduceLeDiff, Nat.reduceAdd, Nat.reduceSub, Nat.reduceMul, Nat.reduceDiv, Nat.reduceMod, Nat.zero_add, Nat.add_zero, n_z, n_1, n_ltz, n_zlt, n_lt, n_eq, n_cl, n_in, nI_add, pk_mul, n_div, n_sub, nm_mod, q, w0]
        rw [if_neg w0] at this; exact this) (fun k hk ih x6 g => by
    rw [r_171_28]
    have hss : hs lw st (lB (σ.1 62)) (k + 1) = if st k = 0 then hs lw st (lB (σ.1 62)) k else if (hs lw st (lB (σ.1 62)) k).2 < bcI (lw &&& (lB (σ.1 62) (upd st k (nI 0)) ^^^ -1)) then (nI k, bcI (lw &&& (lB (σ.1 62) (upd st k (nI 0)) ^^^ -1))) else hs lw st (lB (σ.1 62)) k := rfl
    rw [hss] at ih
    have e20 : 20 + k < 481 := by omega
    have pn := pos_ne (hv.2.2.2.2.1 k hk).2.1
    by_cases c1 : st k = 0
    · have c1' : ¬ 0 < σ.1 62 (20 + k) := by rw [pn, ← hst2]; exact fun q => q c1
      simp (disch := first | assumption | omega) only [r_171_0, r_171_1, r_171_4, r_171_7, r_171_8, r_171_11, r_171_12, r_171_13, r_171_16, r_171_19, r_171_20, r_171_21, r_171_22, r_171_23, r_171_25, r_171_26, r_171_30, r_171_32, r_171_35, r_171_36, r_171_39, r_171_41, r_171_43, r_171_44, r_171_45, r_171_48, r_171_49, r_171_52, r_171_53, r_171_56, r_171_58, r_171_60, r_171_61, r_171_62, r_171_63, r_171_64, r_171_65, r_171_68, r_171_71, r_171_72, r_171_73, r_171_74, r_171_77, r_171_79, r_171_81, r_171_83, r_171_86, r_171_88, r_171_91, r_171_92, r_171_93, r_171_95, r_171_97, r_171_100, r_171_102, r_171_105, r_171_107, r_171_109, r_171_112, r_171_115, r_171_116, r_171_117, r_171_120, r_171_121, r_171_124, r_171_125, r_171_128, r_171_129, r_171_132, r_171_134, f_add, f_and, f_xor, o_bi, o_cge, o_cle, o_cne, o_get, o_go, o_ial, o_ias, o_inc, o_ivs, o_ivv, o_lda, o_ldi, o_le, o_ne, o_pi, o_ri, o_sti, acR_nx, acR_re, acR_ca, acR_no, acR_if, Kc_i, Kc_n, a_lg, a_ls, a_kl, a_pk, a_sw, cw_n, cw_i, cw_l, cw_r, List.length_cons, List.length_nil, List.getElem?_cons_succ, List.getElem?_cons_zero, ↓reduceIte, decide_true, decide_false, Bool.false_eq_true, or_true, true_or, or_false, false_or, or_self, and_true, true_and, not_true_eq_false, not_false_eq_true, Nat.reduceEqDiff, Nat.reduceLT, Nat.reduceLeDiff, Nat.reduceAdd, Nat.reduceSub, Nat.reduceMul, Nat.reduceDiv, Nat.reduceMod, Nat.zero_add, Nat.add_zero, n_z, n_1, n_ltz, n_zlt, n_lt, n_eq, n_cl, n_in, nI_add, pk_mul, n_div, n_sub, nm_mod, ly_61, ly_62, hk, e20, sc_1, c1']
      rw [if_pos c1] at ih
      exact ih _ _
    · have c1' : 0 < σ.1 62 (20 + k) := by rw [pn, ← hst2]; exact c1
      rw [if_neg c1] at ih
      generalize hA : upd (va_cpy (σ.1 62) g 0 0 61) (20 + k) (nI 0) = A at *
      have hrow : aRow (σ.1 62) (upd st k (nI 0)) A := by
        rw [← hA]
        refine ⟨?_, fun j hj => ?_, fun j hj => ?_, fun c hc => ?_⟩
        · rw [ud_1, if_neg (by omega)]; exact as_at _ _ (by omega)
        · rw [ud_1, if_neg (by omega)]; exact as_at _ _ (by omega)
        · simp only [ud_1]
          by_cases q : j = k
          · rw [if_pos (by omega), if_pos q]
          · rw [if_neg (by omega), if_neg q, as_at _ _ (by omega), hst2]
        · rw [ud_1, if_neg (by omega)]; exact as_at _ _ (by omega)
      have hvA := aRow_ok hv hrow (fun j hj => by
        simp only [ud_1]
        by_cases q : j = k
        · rw [if_pos q]; exact ⟨0, by omega, rfl⟩
        · rw [if_neg q, hst2]; exact (hv.2.2.2.2.1 j hj).2.1)
      have mlA := m_lawsOf aT_64 (a_sc σ 64 A) hvA
      have sA : (a_sc σ 64 A).1 64 = A := rfl
      rw [sA, lB_row hrow] at mlA
      obtain ⟨x, hx, ex⟩ := and_nI hlm (lB (σ.1 62) (upd st k (nI 0)) ^^^ -1)
      rw [← elm] at ex
      rw [ex] at ih
      by_cases c2 : (hs lw st (lB (σ.1 62)) k).2 < bcI (nI x)
      · simp (disch := first | assumption | omega) only [r_171_0, r_171_1, r_171_4, r_171_7, r_171_8, r_171_11, r_171_12, r_171_13, r_171_16, r_171_19, r_171_20, r_171_21, r_171_22, r_171_23, r_171_25, r_171_26, r_171_30, r_171_32, r_171_35, r_171_36, r_171_39, r_171_41, r_171_43, r_171_44, r_171_45, r_171_48, r_171_49, r_171_52, r_171_53, r_171_56, r_171_58, r_171_60, r_171_61, r_171_62, r_171_63, r_171_64, r_171_65, r_171_68, r_171_71, r_171_72, r_171_73, r_171_74, r_171_77, r_171_79, r_171_81, r_171_83, r_171_86, r_171_88, r_171_91, r_171_92, r_171_93, r_171_95, r_171_97, r_171_100, r_171_102, r_171_105, r_171_107, r_171_109, r_171_112, r_171_115, r_171_116, r_171_117, r_171_120, r_171_121, r_171_124, r_171_125, r_171_128, r_171_129, r_171_132, r_171_134, f_add, f_and, f_xor, o_bi, o_cge, o_cle, o_cne, o_get, o_go, o_ial, o_ias, o_inc, o_ivs, o_ivv, o_lda, o_ldi, o_le, o_ne, o_pi, o_ri, o_sti, acR_nx, acR_re, acR_ca, acR_no, acR_if, Kc_i, Kc_n, a_lg, a_ls, a_kl, a_pk, a_sw, cw_n, cw_i, cw_l, cw_r, List.length_cons, List.length_nil, List.getElem?_cons_succ, List.getElem?_cons_zero, ↓reduceIte, decide_true, decide_false, Bool.false_eq_true, or_true, true_or, or_false, false_or, or_self, and_true, true_and, not_true_eq_false, not_false_eq_true, Nat.reduceEqDiff, Nat.reduceLT, Nat.reduceLeDiff, Nat.reduceAdd, Nat.reduceSub, Nat.reduceMul, Nat.reduceDiv, Nat.reduceMod, Nat.zero_add, Nat.add_zero, n_z, n_1, n_ltz, n_zlt, n_lt, n_eq, n_cl, n_in, nI_add, pk_mul, n_div, n_sub, nm_mod, ly_61, ly_62, ly_64, hk, e20, sc_1, c1', m_layAside, wi_sc, sc_sc, hA, mlA, ex, m_bits hx, c2]
        rw [if_pos c2] at ih
        exact ih _ _
      · simp (disch := first | assumption | omega) only [r_171_0, r_171_1, r_171_4, r_171_7, r_171_8, r_171_11, r_171_12, r_171_13, r_171_16, r_171_19, r_171_20, r_171_21, r_171_22, r_171_23, r_171_25, r_171_26, r_171_30, r_171_32, r_171_35, r_171_36, r_171_39, r_171_41, r_171_43, r_171_44, r_171_45, r_171_48, r_171_49, r_171_52, r_171_53, r_171_56, r_171_58, r_171_60, r_171_61, r_171_62, r_171_63, r_171_64, r_171_65, r_171_68, r_171_71, r_171_72, r_171_73, r_171_74, r_171_77, r_171_79, r_171_81, r_171_83, r_171_86, r_171_88, r_171_91, r_171_92, r_171_93, r_171_95, r_171_97, r_171_100, r_171_102, r_171_105, r_171_107, r_171_109, r_171_112, r_171_115, r_171_116, r_171_117, r_171_120, r_171_121, r_171_124, r_171_125, r_171_128, r_171_129, r_171_132, r_171_134, f_add, f_and, f_xor, o_bi, o_cge, o_cle, o_cne, o_get, o_go, o_ial, o_ias, o_inc, o_ivs, o_ivv, o_lda, o_ldi, o_le, o_ne, o_pi, o_ri, o_sti, acR_nx, acR_re, acR_ca, acR_no, acR_if, Kc_i, Kc_n, a_lg, a_ls, a_kl, a_pk, a_sw, cw_n, cw_i, cw_l, cw_r, List.length_cons, List.length_nil, List.getElem?_cons_succ, List.getElem?_cons_zero, ↓reduceIte, decide_true, decide_false, Bool.false_eq_true, or_true, true_or, or_false, false_or, or_self, and_true, true_and, not_true_eq_false, not_false_eq_true, Nat.reduceEqDiff, Nat.reduceLT, Nat.reduceLeDiff, Nat.reduceAdd, Nat.reduceSub, Nat.reduceMul, Nat.reduceDiv, Nat.reduceMod, Nat.zero_add, Nat.add_zero, n_z, n_1, n_ltz, n_zlt, n_lt, n_eq, n_cl, n_in, nI_add, pk_mul, n_div, n_sub, nm_mod, ly_61, ly_62, ly_64, hk, e20, sc_1, c1', m_layAside, wi_sc, sc_sc, hA, mlA, ex, m_bits hx, c2]
        rw [if_neg c2] at ih
        exact ih _ _)
  have hw' : ¬ (w < 0 ∨ 1 < w) := by omega
  have k0 := key none (σ.1 64)
  rw [sc_id] at k0
  simp (disch := first | assumption | omega) only [cl_171, r_171_0, r_171_1, r_171_4, r_171_7, r_171_8, r_171_11, r_171_12, r_171_13, r_171_16, r_171_19, r_171_20, r_171_21, r_171_22, r_171_23, r_171_25, r_171_26, r_171_30, r_171_32, r_171_35, r_171_36, r_171_39, r_171_41, r_171_43, r_171_44, r_171_45, r_171_48, r_171_49, r_171_52, r_171_53, r_171_56, r_171_58, r_171_60, r_171_61, r_171_62, r_171_63, r_171_64, r_171_65, r_171_68, r_171_71, r_171_72, r_171_73, r_171_74, r_171_77, r_171_79, r_171_81, r_171_83, r_171_86, r_171_88, r_171_91, r_171_92, r_171_93, r_171_95, r_171_97, r_171_100, r_171_102, r_171_105, r_171_107, r_171_109, r_171_112, r_171_115, r_171_116, r_171_117, r_171_120, r_171_121, r_171_124, r_171_125, r_171_128, r_171_129, r_171_132, r_171_134, f_add, f_and, f_xor, o_bi, o_cge, o_cle, o_cne, o_get, o_go, o_ial, o_ias, o_inc, o_ivs, o_ivv, o_lda, o_ldi, o_le, o_ne, o_pi, o_ri, o_sti, acR_nx, acR_re, acR_ca, acR_no, acR_if, Kc_i, Kc_n, a_lg, a_ls, a_kl, a_pk, a_sw, cw_n, cw_i, cw_l, cw_r, List.length_cons, List.length_nil, List.getElem?_cons_succ, List.getElem?_cons_zero, ↓reduceIte, decide_true, decide_false, Bool.false_eq_true, or_true, true_or, or_false, false_or, or_self, and_true, true_and, not_true_eq_false, not_false_eq_true, Nat.reduceEqDiff, Nat.reduceLT, Nat.reduceLeDiff, Nat.reduceAdd, Nat.reduceSub, Nat.reduceMul, Nat.reduceDiv, Nat.reduceMod, Nat.zero_add, Nat.add_zero, n_z, n_1, n_ltz, n_zlt, n_lt, n_eq, n_cl, n_in, nI_add, pk_mul, n_div, n_sub, nm_mod, ly_61, ly_62, m_isTwo, hw', ml]
  exact k0
theorem pr_holdsAll {N : Nat} {σ : a_HP} (h : Inv N σ) (w : Int32) : Pair N 67 171 [.int w] σ := by
  unfold Pair
  by_cases hc : w < nI 0 ∨ nI 1 < w
  · simp (disch := first | assumption | omega) only [cl_67, r_67_0, r_67_1, r_67_2, r_67_3, r_67_6, r_67_9, r_67_10, r_67_13, r_67_14, r_67_15, r_67_18, r_67_21, r_67_22, r_67_23, r_67_24, r_67_25, r_67_27, r_67_28, r_67_31, r_67_32, r_67_35, r_67_38, r_67_39, r_67_43, r_67_45, r_67_48, r_67_49, r_67_52, r_67_54, r_67_57, r_67_60, r_67_63, r_67_64, r_67_67, r_67_70, r_67_72, r_67_73, r_67_74, r_67_75, r_67_76, r_67_79, r_67_82, r_67_83, r_67_84, r_67_85, r_67_88, r_67_90, r_67_91, r_67_94, r_67_97, r_67_99, r_67_100, r_67_103, r_67_106, r_67_108, r_67_109, r_67_110, r_67_112, r_67_114, r_67_117, r_67_119, r_67_120, r_67_122, r_67_124, r_67_127, r_67_130, r_67_131, r_67_134, r_67_135, r_67_138, r_67_140, f_and, f_xor, o_bi, o_cge, o_cle, o_eq, o_get, o_go, o_ial, o_ias, o_inc, o_ivs, o_ivv, o_lda, o_ldi, o_ne, o_pi, o_ri, o_sti, cl_171, r_171_0, r_171_1, r_171_4, r_171_7, r_171_8, r_171_11, r_171_12, r_171_13, r_171_16, r_171_19, r_171_20, r_171_21, r_171_22, r_171_23, r_171_25, r_171_26, r_171_30, r_171_32, r_171_35, r_171_36, r_171_39, r_171_41, r_171_43, r_171_44, r_171_45, r_171_48, r_171_49, r_171_52, r_171_53, r_171_56, r_171_58, r_171_60, r_171_61, r_171_62, r_171_63, r_171_64, r_171_65, r_171_68, r_171_71, r_171_72, r_171_73, r_171_74, r_171_77, r_171_79, r_171_81, r_171_83, r_171_86, r_171_88, r_171_91, r_171_92, r_171_93, r_171_95, r_171_97, r_171_100, r_171_102, r_171_105, r_171_107, r_171_109, r_171_112, r_171_115, r_171_116, r_171_117, r_171_120, r_171_121, r_171_124, r_171_125, r_171_128, r_171_129, r_171_132, r_171_134, f_add, f_and, f_xor, o_bi, o_cge, o_cle, o_cne, o_get, o_go, o_ial, o_ias, o_inc, o_ivs, o_ivv, o_lda, o_ldi, o_le, o_ne, o_pi, o_ri, o_sti, acR_nx, acR_re, acR_ca, acR_no, acR_if, Kc_i, Kc_n, a_lg, a_ls, a_kl, a_pk, a_sw, cw_n, cw_i, cw_l, cw_r, List.length_cons, List.length_nil, List.getElem?_cons_succ, List.getElem?_cons_zero, ↓reduceIte, decide_true, decide_false, Bool.false_eq_true, or_true, true_or, or_false, false_or, or_self, and_true, true_and, not_true_eq_false, not_false_eq_true, Nat.reduceEqDiff, Nat.reduceLT, Nat.reduceLeDiff, Nat.reduceAdd, Nat.reduceSub, Nat.reduceMul, Nat.reduceDiv, Nat.reduceMod, Nat.zero_add, Nat.add_zero, n_z, n_1, ly_0, ly_61, c_within, m_isTwo, hc, c_bad, m_bad]
    exact ⟨⟨_, rfl, rfl⟩, Inv_ref h (by omega)⟩
  · obtain ⟨w, -, w2, rfl⟩ := rng (by omega) (by omega) hc
    rw [c_holdsAll h w2]
    refine m_holdsAll (σ := hTake σ 18 1) (N := N) h.1.2.1 w2 _ (fun g => ⟨⟨_, rfl, rfl⟩, ?_⟩)
    exact Inv_N (Nat.le_succ N) h
