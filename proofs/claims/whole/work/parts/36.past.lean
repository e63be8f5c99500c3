/-! what may be undone: Past and the reference's rows -/
def a_s2 (σ : a_HP) (a : Nat) (f : Nat → Int32) (b : Nat) (g : Nat → Int32) : a_HP := a_sc (a_sc σ a f) b g
theorem sc_un (σ : a_HP) (a : Nat) (f : Nat → Int32) (b : Nat) (g : Nat → Int32) : a_s2 σ a f b g = a_sc (a_sc σ a f) b g := rfl
theorem sc_cm (σ : a_HP) {a b : Nat} (h : a < b) (f g : Nat → Int32) : a_sc (a_sc σ b g) a f = a_s2 σ a f b g := by
  unfold a_s2 a_sc
  dsimp only
  congr 1
  funext k
  by_cases h1 : k = a
  · subst h1
    rw [if_pos rfl, if_neg (by omega), if_pos rfl]
  · by_cases h2 : k = b
    · subst h2
      rw [if_neg h1, if_pos rfl, if_pos rfl]
    · rw [if_neg h1, if_neg h2, if_neg h2, if_neg h1]
theorem ud_ud (f : Nat → Int32) (k : Nat) (a b : Int32) : upd (upd f k a) k b = upd f k b := by
  funext j
  simp only [ud_1]
  by_cases h : j = k <;> simp [h]
/-- a row of the past -/
def kRow (o kd st vl : Nat → Int32) (j : Nat) : Int32 := if j < 16 then kd j else if j < 32 then st (j - 16) else if j < 48 then vl (j - 32) else if j = 48 then o 1 else o 3
def kpF (r g : Nat → Int32) (n : Nat) : Nat → Int32 := fun j => if 50 * n ≤ j ∧ j < 50 * n + 50 then r (j - 50 * n) else g j
theorem kp_eq (o kd st vl g : Nat → Int32) (n : Nat) : upd (upd (va_cpy vl (va_cpy st (va_cpy kd g 0 (n * 50) 16) 0 (n * 50 + 16) 16) 0 (n * 50 + 32) 16) (n * 50 + 48) (o 1)) (n * 50 + 49) (o 3) = kpF (kRow o kd st vl) g n := by
  funext j
  simp only [ud_1, va_cpy, kpF, kRow]
  by_cases h0 : 50 * n ≤ j ∧ j < 50 * n + 50
  · rw [if_pos h0]
    obtain ⟨i, rfl⟩ : ∃ i, j = 50 * n + i := ⟨j - 50 * n, by omega⟩
    rw [show 50 * n + i - 50 * n = i by omega]
    by_cases h1 : i < 16
    · rw [if_neg (by omega), if_neg (by omega), if_neg (by omega), if_neg (by omega), if_pos (by omega), if_pos h1]
      congr 1
      omega
    · by_cases h2 : i < 32
      · rw [if_neg (by omega), if_neg (by omega), if_neg (by omega), if_pos (by omega), if_neg h1, if_pos h2]
        congr 1
        omega
      · by_cases h3 : i < 48
        · rw [if_neg (by omega), if_neg (by omega), if_pos (by omega), if_neg h1, if_neg h2, if_pos h3]
          congr 1
          omega
        · by_cases h4 : i = 48
          · rw [if_neg (by omega), if_pos (by omega), if_neg h1, if_neg h2, if_neg h3, if_pos h4]
          · rw [if_pos (by omega), if_neg h1, if_neg h2, if_neg h3, if_neg h4]
  · rw [if_neg h0, if_neg (by omega), if_neg (by omega), if_neg (by omega), if_neg (by omega), if_neg (by omega)]
theorem c_keep {n : Nat} (hn : n < 8) (σ : a_HP) (hs : σ.1 6 0 = nI n) (Q : Option Value → a_HP → Prop) : Cl 29 [.ref 6, .ref 1] σ Q = Q none (a_wi (a_sc σ 7 (kpF (kRow (σ.1 1) (σ.1 2) (σ.1 3) (σ.1 4)) (σ.1 7) n)) 6 0 (nI (n + 1))) := by
  have e := kp_eq (σ.1 1) (σ.1 2) (σ.1 3) (σ.1 4) (σ.1 7) n
  have h1 : n * 50 + 48 < 400 := by omega
  have h2 : n * 50 + 49 < 400 := by omega
  simp (disch := first | assumption | omega) only [cl_29, r_29_0, r_29_1, r_29_4, r_29_6, r_29_9, r_29_10, r_29_13, r_29_15, r_29_16, r_29_19, r_29_20, r_29_23, r_29_26, r_29_27, r_29_29, r_29_32, r_29_33, r_29_36, r_29_38, r_29_39, r_29_40, r_29_41, r_29_44, r_29_45, r_29_46, r_29_49, r_29_50, r_29_52, r_29_55, r_29_56, r_29_59, r_29_60, r_29_61, r_29_64, r_29_65, r_29_67, r_29_68, r_29_70, r_29_73, r_29_74, r_29_77, r_29_78, r_29_79, r_29_82, r_29_83, r_29_85, r_29_86, r_29_88, r_29_91, r_29_92, r_29_95, r_29_96, r_29_98, r_29_99, r_29_100, r_29_103, r_29_104, r_29_105, r_29_108, r_29_109, r_29_111, r_29_112, r_29_113, r_29_116, r_29_117, r_29_118, r_29_119, r_29_122, r_29_123, r_29_124, r_29_127, f_add, f_mul, o_bi, o_clt, o_cpy, o_dup, o_get, o_ias, o_lda, o_ldi, o_pi, o_put, o_rv, o_sti, acR_nx, acR_re, acR_ca, acR_no, acR_if, Kc_i, Kc_n, a_lg, a_ls, a_kl, a_pk, a_sw, cw_n, cw_i, cw_l, cw_r, List.length_cons, List.length_nil, List.getElem?_cons_succ, List.getElem?_cons_zero, ↓reduceIte, decide_true, decide_false, Bool.false_eq_true, or_true, true_or, or_false, false_or, or_self, and_true, true_and, not_true_eq_false, not_false_eq_true, Nat.reduceEqDiff, Nat.reduceLT, Nat.reduceLeDiff, Nat.reduceAdd, Nat.reduceSub, Nat.reduceMul, Nat.reduceDiv, Nat.reduceMod, Nat.zero_add, Nat.add_zero, n_z, n_1, n_ltz, n_zlt, n_lt, n_eq, n_cl, n_in, nI_add, pk_mul, n_div, n_sub, nm_mod, ly_1, ly_2, ly_3, ly_4, ly_6, ly_7, n_cp, sc_1, wi_sc, sc_sc, hs, hn, h1, h2, e]
theorem c_keep8 (σ : a_HP) (hs : σ.1 6 0 = nI 8) (Q : Option Value → a_HP → Prop) : Cl 29 [.ref 6, .ref 1] σ Q = Q none (a_wi (a_sc σ 7 (kpF (kRow (σ.1 1) (σ.1 2) (σ.1 3) (σ.1 4)) (fun j => if j < 350 then σ.1 7 (j + 50) else σ.1 7 j) 7)) 6 0 (nI 8)) := by
  have e := kp_eq (σ.1 1) (σ.1 2) (σ.1 3) (σ.1 4) (fun j => if j < 350 then σ.1 7 (j + 50) else σ.1 7 j) 7
  have e2 : va_cpy (σ.1 7) (σ.1 7) 50 0 350 = (fun j => if j < 350 then σ.1 7 (j + 50) else σ.1 7 j) := by
    funext j
    simp [va_cpy, Nat.add_comm]
  have e3 : upd (σ.1 6) 0 (nI 7) 0 = nI 7 := rfl
  simp only [Nat.reduceMul, Nat.reduceAdd] at e
  simp (disch := first | assumption | omega) only [cl_29, r_29_0, r_29_1, r_29_4, r_29_6, r_29_9, r_29_10, r_29_13, r_29_15, r_29_16, r_29_19, r_29_20, r_29_23, r_29_26, r_29_27, r_29_29, r_29_32, r_29_33, r_29_36, r_29_38, r_29_39, r_29_40, r_29_41, r_29_44, r_29_45, r_29_46, r_29_49, r_29_50, r_29_52, r_29_55, r_29_56, r_29_59, r_29_60, r_29_61, r_29_64, r_29_65, r_29_67, r_29_68, r_29_70, r_29_73, r_29_74, r_29_77, r_29_78, r_29_79, r_29_82, r_29_83, r_29_85, r_29_86, r_29_88, r_29_91, r_29_92, r_29_95, r_29_96, r_29_98, r_29_99, r_29_100, r_29_103, r_29_104, r_29_105, r_29_108, r_29_109, r_29_111, r_29_112, r_29_113, r_29_116, r_29_117, r_29_118, r_29_119, r_29_122, r_29_123, r_29_124, r_29_127, f_add, f_mul, o_bi, o_clt, o_cpy, o_dup, o_get, o_ias, o_lda, o_ldi, o_pi, o_put, o_rv, o_sti, acR_nx, acR_re, acR_ca, acR_no, acR_if, Kc_i, Kc_n, a_lg, a_ls, a_kl, a_pk, a_sw, cw_n, cw_i, cw_l, cw_r, List.length_cons, List.length_nil, List.getElem?_cons_succ, List.getElem?_cons_zero, ↓reduceIte, decide_true, decide_false, Bool.false_eq_true, or_true, true_or, or_false, false_or, or_self, and_true, true_and, not_true_eq_false, not_false_eq_true, Nat.reduceEqDiff, Nat.reduceLT, Nat.reduceLeDiff, Nat.reduceAdd, Nat.reduceSub, Nat.reduceMul, Nat.reduceDiv, Nat.reduceMod, Nat.zero_add, Nat.add_zero, n_z, n_1, n_ltz, n_zlt, n_lt, n_eq, n_cl, n_in, nI_add, pk_mul, n_div, n_sub, nm_mod, ly_1, ly_2, ly_3, ly_4, ly_6, ly_7, n_cp, sc_1, sc_2, wi_sc, sc_sc, sc_cm, sc_un, hs, e3, e2, e, ud_ud]
/-- the heap behind giveBack; n are left -/
def hBack (σ : a_HP) (n : Nat) : a_HP := a_wi (a_sc (a_sc (a_sc (a_sc σ 1 (upd (upd (σ.1 1) 1 (σ.1 7 (n * 50 + 48))) 3 (σ.1 7 (n * 50 + 49)))) 2 (fun k => if k < 16 then σ.1 7 (n * 50 + k) else σ.1 2 k)) 3 (fun k => if k < 16 then σ.1 7 (n * 50 + 16 + k) else σ.1 3 k)) 4 (fun k => if k < 16 then σ.1 7 (n * 50 + 32 + k) else σ.1 4 k)) 6 0 (nI n)
theorem cp_s (f g : Nat → Int32) (s n : Nat) : va_cpy f g s 0 n = fun k => if k < n then f (s + k) else g k := by
  funext k
  simp [va_cpy]
theorem c_giveBack {n : Nat} (hn : n < 8) (σ : a_HP) (hs : σ.1 6 0 = nI (n + 1)) (Q : Option Value → a_HP → Prop) : Cl 30 [.ref 6, .ref 1] σ Q = Q none (hBack σ n) := by
  have h1 : n * 50 + 48 < 400 := by omega
  have h2 : n * 50 + 49 < 400 := by omega
  have h3 : 0 < n + 1 := by omega
  have e3 : upd (σ.1 6) 0 (nI n) 0 = nI n := rfl
  simp (disch := first | assumption | omega) only [cl_30, r_30_0, r_30_1, r_30_4, r_30_7, r_30_8, r_30_9, r_30_10, r_30_13, r_30_14, r_30_15, r_30_18, r_30_19, r_30_22, r_30_24, r_30_25, r_30_26, r_30_27, r_30_30, r_30_31, r_30_32, r_30_35, r_30_36, r_30_38, r_30_41, r_30_42, r_30_45, r_30_46, r_30_48, r_30_49, r_30_50, r_30_53, r_30_54, r_30_56, r_30_59, r_30_60, r_30_63, r_30_64, r_30_66, r_30_67, r_30_68, r_30_71, r_30_72, r_30_74, r_30_77, r_30_78, r_30_79, r_30_82, r_30_83, r_30_85, r_30_86, r_30_87, r_30_90, r_30_91, r_30_92, r_30_95, r_30_96, r_30_98, r_30_99, r_30_100, r_30_103, f_add, f_mul, f_sub, o_bi, o_cpy, o_dup, o_get, o_gt, o_ial, o_lda, o_ldi, o_pi, o_put, o_rv, o_sti, acR_nx, acR_re, acR_ca, acR_no, acR_if, Kc_i, Kc_n, a_lg, a_ls, a_kl, a_pk, a_sw, cw_n, cw_i, cw_l, cw_r, List.length_cons, List.length_nil, List.getElem?_cons_succ, List.getElem?_cons_zero, ↓reduceIte, decide_true, decide_false, Bool.false_eq_true, or_true, true_or, or_false, false_or, or_self, and_true, true_and, not_true_eq_false, not_false_eq_true, Nat.reduceEqDiff, Nat.reduceLT, Nat.reduceLeDiff, Nat.reduceAdd, Nat.reduceSub, Nat.reduceMul, Nat.reduceDiv, Nat.reduceMod, Nat.zero_add, Nat.add_zero, n_z, n_1, n_ltz, n_zlt, n_lt, n_eq, n_cl, n_in, nI_add, pk_mul, n_div, n_sub, nm_mod, ly_1, ly_2, ly_3, ly_4, ly_6, ly_7, n_cp, sc_1, sc_2, wi_sc, sc_sc, sc_cm, sc_un, hs, h1, h2, h3, Nat.add_sub_cancel, e3, cp_s, hBack]
/-! the reference -/
def rmF (f : Nat → Int32) (n : Nat) : Nat → Int32 := fun j => if j = 80 then nI (n + 1) else if 81 + 50 * n ≤ j ∧ j < 81 + 50 * n + 50 then (if j - (81 + 50 * n) < 48 then f (4 + (j - (81 + 50 * n))) else if j - (81 + 50 * n) = 48 then f 1 else f 3) else f j
def shF (f : Nat → Int32) : Nat → Int32 := fun j => if j = 80 then nI 7 else if 81 ≤ j ∧ j < 431 then f (j + 50) else f j
theorem rm_eq (f : Nat → Int32) (n : Nat) : upd (upd (upd (va_cpy f f 4 (81 + 50 * n) 48) (81 + 50 * n + 48) (f 1)) (81 + 50 * n + 49) (f 3)) 80 (nI (n + 1)) = rmF f n := by
  funext j
  simp only [ud_1, va_cpy, rmF]
  by_cases h : j = 80
  · rw [if_pos h, if_pos h]
  · rw [if_neg h, if_neg h]
    by_cases h0 : 81 + 50 * n ≤ j ∧ j < 81 + 50 * n + 50
    · rw [if_pos h0]
      by_cases h1 : j - (81 + 50 * n) < 48
      · rw [if_neg (by omega), if_neg (by omega), if_pos (by omega), if_pos h1]
      · by_cases h2 : j - (81 + 50 * n) = 48
        · rw [if_neg (by omega), if_pos (by omega), if_neg h1, if_pos h2]
        · rw [if_pos (by omega), if_neg h1, if_neg h2]
    · rw [if_neg h0, if_neg (by omega), if_neg (by omega), if_neg (by omega)]
theorem m_remember {n : Nat} (hn : n < 8) (σ : a_HP) (hs : σ.1 62 80 = nI n) (Q : Option Value → a_HP → Prop) : Cl 150 [.ref 61] σ Q = Q none (a_sc σ 62 (rmF (σ.1 62) n)) := by
  have e := rm_eq (σ.1 62) n
  have h0 : ¬ n = 8 := by omega
  have h1 : 81 + 50 * n + 48 < 481 := by omega
  have h2 : 81 + 50 * n + 49 < 481 := by omega
  have r1 : va_cpy (σ.1 62) (σ.1 62) 4 (81 + 50 * n) 48 1 = σ.1 62 1 := by unfold va_cpy; rw [if_neg (by omega)]
  have r3 : upd (va_cpy (σ.1 62) (σ.1 62) 4 (81 + 50 * n) 48) (81 + 50 * n + 48) (σ.1 62 1) 3 = σ.1 62 3 := by rw [ud_1, if_neg (by omega)]; unfold va_cpy; rw [if_neg (by omega)]
  have r80 : upd (upd (va_cpy (σ.1 62) (σ.1 62) 4 (81 + 50 * n) 48) (81 + 50 * n + 48) (σ.1 62 1)) (81 + 50 * n + 49) (σ.1 62 3) 80 = nI n := by rw [ud_1, if_neg (by omega), ud_1, if_neg (by omega)]; unfold va_cpy; rw [if_neg (by omega), hs]
  simp (disch := first | assumption | omega) only [cl_150, r_150_0, r_150_1, r_150_4, r_150_6, r_150_7, r_150_9, r_150_12, r_150_13, r_150_15, r_150_18, r_150_21, r_150_22, r_150_25, r_150_27, r_150_28, r_150_29, r_150_30, r_150_33, r_150_35, r_150_36, r_150_37, r_150_39, r_150_40, r_150_41, r_150_42, r_150_45, r_150_48, r_150_49, r_150_52, r_150_54, r_150_55, r_150_56, r_150_57, r_150_58, r_150_59, r_150_61, r_150_63, r_150_64, r_150_67, r_150_69, r_150_70, r_150_71, r_150_72, r_150_73, r_150_74, r_150_77, r_150_78, r_150_79, r_150_82, r_150_83, r_150_85, r_150_88, r_150_89, r_150_92, r_150_93, r_150_95, r_150_96, r_150_97, r_150_100, r_150_101, r_150_102, r_150_103, r_150_104, r_150_107, r_150_108, r_150_110, r_150_111, r_150_112, r_150_115, r_150_116, r_150_117, r_150_118, r_150_119, r_150_122, r_150_124, r_150_125, r_150_126, r_150_127, r_150_128, r_150_129, f_add, f_mul, f_sub, o_bi, o_cge, o_cne, o_dup2, o_get, o_go, o_ial, o_ias, o_inc, o_ivs, o_lda, o_ldi, o_pi, o_rv, o_sti, acR_nx, acR_re, acR_ca, acR_no, acR_if, Kc_i, Kc_n, a_lg, a_ls, a_kl, a_pk, a_sw, cw_n, cw_i, cw_l, cw_r, List.length_cons, List.length_nil, List.getElem?_cons_succ, List.getElem?_cons_zero, ↓reduceIte, decide_true, decide_false, Bool.false_eq_true, or_true, true_or, or_false, false_or, or_self, and_true, true_and, not_true_eq_false, not_false_eq_true, Nat.reduceEqDiff, Nat.reduceLT, Nat.reduceLeDiff, Nat.reduceAdd, Nat.reduceSub, Nat.reduceMul, Nat.reduceDiv, Nat.reduceMod, Nat.zero_add, Nat.add_zero, n_z, n_1, n_ltz, n_zlt, n_lt, n_eq, n_cl, n_in, nI_add, pk_mul, n_div, n_sub, nm_mod, ly_61, ly_62, m_copies ly_62 ly_62, sc_1, sc_2, wi_sc, sc_sc, sc_cm, sc_un, hs, h0, h1, h2, r1, r3, r80, e]
theorem m_remember8 (σ : a_HP) (hs : σ.1 62 80 = nI 8) (Q : Option Value → a_HP → Prop) : Cl 150 [.ref 61] σ Q = Q none (a_sc σ 62 (rmF (shF (σ.1 62)) 7)) := by
  have e := rm_eq (shF (σ.1 62)) 7
  simp only [Nat.reduceMul, Nat.reduceAdd] at e
  generalize hF : (fun (k j : Nat) => if 81 ≤ j ∧ j < 81 + k then σ.1 62 (j + 50) else σ.1 62 j) = F
  have key := lp_up (P := fun k => Rn 150 14 [some (.ref 61), some (.int (nI k))] [] (a_sc σ 62 (F k)) Q) 350 (fun k hk => by
    rw [r_150_14]
    have h1 : 81 + k + 50 < 481 := by omega
    have h2 : 81 + k < 481 := by omega
    have r1 : F k (81 + k + 50) = σ.1 62 (81 + k + 50) := by rw [← hF]; dsimp only; rw [if_neg (by omega)]
    have u : upd (F k) (81 + k) (σ.1 62 (81 + k + 50)) = F (k + 1) := by
      rw [← hF]
      funext j
      simp only [ud_1]
      by_cases hj : j = 81 + k
      · subst hj
        rw [if_pos rfl, if_pos (by omega)]
      · by_cases h2 : 81 ≤ j ∧ j < 81 + k
        · rw [if_neg hj, if_pos h2, if_pos (by omega)]
        · rw [if_neg hj, if_neg h2, if_neg (by omega)]
    simp (disch := first | assumption | omega) only [r_150_0, r_150_1, r_150_4, r_150_6, r_150_7, r_150_9, r_150_12, r_150_13, r_150_15, r_150_18, r_150_21, r_150_22, r_150_25, r_150_27, r_150_28, r_150_29, r_150_30, r_150_33, r_150_35, r_150_36, r_150_37, r_150_39, r_150_40, r_150_41, r_150_42, r_150_45, r_150_48, r_150_49, r_150_52, r_150_54, r_150_55, r_150_56, r_150_57, r_150_58, r_150_59, r_150_61, r_150_63, r_150_64, r_150_67, r_150_69, r_150_70, r_150_71, r_150_72, r_150_73, r_150_74, r_150_77, r_150_78, r_150_79, r_150_82, r_150_83, r_150_85, r_150_88, r_150_89, r_150_92, r_150_93, r_150_95, r_150_96, r_150_97, r_150_100, r_150_101, r_150_102, r_150_103, r_150_104, r_150_107, r_150_108, r_150_110, r_150_111, r_150_112, r_150_115, r_150_116, r_150_117, r_150_118, r_150_119, r_150_122, r_150_124, r_150_125, r_150_126, r_150_127, r_150_128, r_150_129, f_add, f_mul, f_sub, o_bi, o_cge, o_cne, o_dup2, o_get, o_go, o_ial, o_ias, o_inc, o_ivs, o_lda, o_ldi, o_pi, o_rv, o_sti, acR_nx, acR_re, acR_ca, acR_no, acR_if, Kc_i, Kc_n, a_lg, a_ls, a_kl, a_pk, a_sw, cw_n, cw_i, cw_l, cw_r, List.length_cons, List.length_nil, List.getElem?_cons_succ, List.getElem?_cons_zero, ↓reduceIte, decide_true, decide_false, Bool.false_eq_true, or_true, true_or, or_false, false_or, or_self, and_true, true_and, not_true_eq_false, not_false_eq_true, Nat.reduceEqDiff, Nat.reduceLT, Nat.reduceLeDiff, Nat.reduceAdd, Nat.reduceSub, Nat.reduceMul, Nat.reduceDiv, Nat.reduceMod, Nat.zero_add, Nat.add_zero, n_z, n_1, n_ltz, n_zlt, n_lt, n_eq, n_cl, n_in, nI_add, pk_mul, n_div, n_sub, nm_mod, ly_61, ly_62, sc_1, sc_2, wi_sc, sc_sc, sc_cm, sc_un, hk, h1, h2, r1, u])
  simp (disch := first | assumption | omega) only [cl_150, r_150_0, r_150_1, r_150_4, r_150_6, r_150_7, r_150_9, r_150_12, r_150_13, r_150_15, r_150_18, r_150_21, r_150_22, r_150_25, r_150_27, r_150_28, r_150_29, r_150_30, r_150_33, r_150_35, r_150_36, r_150_37, r_150_39, r_150_40, r_150_41, r_150_42, r_150_45, r_150_48, r_150_49, r_150_52, r_150_54, r_150_55, r_150_56, r_150_57, r_150_58, r_150_59, r_150_61, r_150_63, r_150_64, r_150_67, r_150_69, r_150_70, r_150_71, r_150_72, r_150_73, r_150_74, r_150_77, r_150_78, r_150_79, r_150_82, r_150_83, r_150_85, r_150_88, r_150_89, r_150_92, r_150_93, r_150_95, r_150_96, r_150_97, r_150_100, r_150_101, r_150_102, r_150_103, r_150_104, r_150_107, r_150_108, r_150_110, r_150_111, r_150_112, r_150_115, r_150_116, r_150_117, r_150_118, r_150_119, r_150_122, r_150_124, r_150_125, r_150_126, r_150_127, r_150_128, r_150_129, f_add, f_mul, f_sub, o_bi, o_cge, o_cne, o_dup2, o_get, o_go, o_ial, o_ias, o_inc, o_ivs, o_lda, o_ldi, o_pi, o_rv, o_sti, acR_nx, acR_re, acR_ca, acR_no, acR_if, Kc_i, Kc_n, a_lg, a_ls, a_kl, a_pk, a_sw, cw_n, cw_i, cw_l, cw_r, List.length_cons, List.length_nil, List.getElem?_cons_succ, List.getElem?_cons_zero, ↓reduceIte, decide_true, decide_false, Bool.false_eq_true, or_true, true_or, or_false, false_or, or_self, and_true, true_and, not_true_eq_false, not_false_eq_true, Nat.reduceEqDiff, Nat.reduceLT, Nat.reduceLeDiff, Nat.reduceAdd, Nat.reduceSub, Nat.reduceMul, Nat.reduceDiv, Nat.reduceMod, Nat.zero_add, Nat.add_zero, n_z, n_1, n_ltz, n_zlt, n_lt, n_eq, n_cl, n_in, nI_add, pk_mul, n_div, n_sub, nm_mod, ly_61, ly_62, hs]
  have e0 : a_sc σ 62 (F 0) = σ := by
    have : F 0 = σ.1 62 := by
      rw [← hF]
      funext j
      dsimp only
      rw [if_neg (by omega)]
    rw [this, sc_id]
  rw [e0] at key
  refine Eq.trans key ?_
  rw [r_150_14]
  have f80 : F 350 80 = nI 8 := by rw [← hF]; dsimp only; rw [if_neg (by omega), hs]
  have fs : upd (F 350) 80 (nI 7) = shF (σ.1 62) := by
    rw [← hF]
    funext j
    simp only [ud_1, shF]
  have g80 : shF (σ.1 62) 80 = nI 7 := rfl
  have r1 : va_cpy (shF (σ.1 62)) (shF (σ.1 62)) 4 431 48 1 = shF (σ.1 62) 1 := by unfold va_cpy; rw [if_neg (by omega)]
  have r3 : upd (va_cpy (shF (σ.1 62)) (shF (σ.1 62)) 4 431 48) 479 (shF (σ.1 62) 1) 3 = shF (σ.1 62) 3 := by rw [ud_1, if_neg (by omega)]; unfold va_cpy; rw [if_neg (by omega)]
  have r80 : upd (upd (va_cpy (shF (σ.1 62)) (shF (σ.1 62)) 4 431 48) 479 (shF (σ.1 62) 1)) 480 (shF (σ.1 62) 3) 80 = nI 7 := by rw [ud_1, if_neg (by omega), ud_1, if_neg (by omega)]; unfold va_cpy; rw [if_neg (by omega)]; rfl
  simp (disch := first | assumption | omega) only [r_150_0, r_150_1, r_150_4, r_150_6, r_150_7, r_150_9, r_150_12, r_150_13, r_150_15, r_150_18, r_150_21, r_150_22, r_150_25, r_150_27, r_150_28, r_150_29, r_150_30, r_150_33, r_150_35, r_150_36, r_150_37, r_150_39, r_150_40, r_150_41, r_150_42, r_150_45, r_150_48, r_150_49, r_150_52, r_150_54, r_150_55, r_150_56, r_150_57, r_150_58, r_150_59, r_150_61, r_150_63, r_150_64, r_150_67, r_150_69, r_150_70, r_150_71, r_150_72, r_150_73, r_150_74, r_150_77, r_150_78, r_150_79, r_150_82, r_150_83, r_150_85, r_150_88, r_150_89, r_150_92, r_150_93, r_150_95, r_150_96, r_150_97, r_150_100, r_150_101, r_150_102, r_150_103, r_150_104, r_150_107, r_150_108, r_150_110, r_150_111, r_150_112, r_150_115, r_150_116, r_150_117, r_150_118, r_150_119, r_150_122, r_150_124, r_150_125, r_150_126, r_150_127, r_150_128, r_150_129, f_add, f_mul, f_sub, o_bi, o_cge, o_cne, o_dup2, o_get, o_go, o_ial, o_ias, o_inc, o_ivs, o_lda, o_ldi, o_pi, o_rv, o_sti, acR_nx, acR_re, acR_ca, acR_no, acR_if, Kc_i, Kc_n, a_lg, a_ls, a_kl, a_pk, a_sw, cw_n, cw_i, cw_l, cw_r, List.length_cons, List.length_nil, List.getElem?_cons_succ, List.getElem?_cons_zero, ↓reduceIte, decide_true, decide_false, Bool.false_eq_true, or_true, true_or, or_false, false_or, or_self, and_true, true_and, not_true_eq_false, not_false_eq_true, Nat.reduceEqDiff, Nat.reduceLT, Nat.reduceLeDiff, Nat.reduceAdd, Nat.reduceSub, Nat.reduceMul, Nat.reduceDiv, Nat.reduceMod, Nat.zero_add, Nat.add_zero, n_z, n_1, n_ltz, n_zlt, n_lt, n_eq, n_cl, n_in, nI_add, pk_mul, n_div, n_sub, nm_mod, ly_61, ly_62, m_copies ly_62 ly_62, sc_1, sc_2, wi_sc, sc_sc, sc_cm, sc_un, f80, fs, g80, r1, r3, r80, e]
def unF (f : Nat → Int32) (n : Nat) : Nat → Int32 := fun j => if j = 80 then nI n else if j = 3 then f (81 + 50 * n + 49) else if j = 1 then f (81 + 50 * n + 48) else if 4 ≤ j ∧ j < 52 then f (81 + 50 * n + (j - 4)) else f j
theorem m_undo {n : Nat} (hn : n < 8) (σ : a_HP) (hs : σ.1 62 80 = nI (n + 1)) (Q : Option Value → a_HP → Prop) : Cl 158 [.ref 61] σ Q = Q (some (.int (σ.1 62 (81 + 50 * n + 48)))) (a_sc σ 62 (unF (σ.1 62) n)) := by
  generalize hg : upd (σ.1 62) 80 (nI n) = g
  have g80 : g 80 = nI n := by rw [← hg]; rfl
  have h0 : ¬ n + 1 = 0 := by omega
  have h1 : 81 + 50 * n + 48 < 481 := by omega
  have h2 : 81 + 50 * n + 49 < 481 := by omega
  have r1 : va_cpy g g (81 + 50 * n) 4 48 (81 + 50 * n + 48) = σ.1 62 (81 + 50 * n + 48) := by unfold va_cpy; rw [if_neg (by omega), ← hg, ud_1, if_neg (by omega)]
  have r2 : upd (va_cpy g g (81 + 50 * n) 4 48) 1 (σ.1 62 (81 + 50 * n + 48)) (81 + 50 * n + 49) = σ.1 62 (81 + 50 * n + 49) := by rw [ud_1, if_neg (by omega)]; unfold va_cpy; rw [if_neg (by omega), ← hg, ud_1, if_neg (by omega)]
  have r3 : upd (upd (va_cpy g g (81 + 50 * n) 4 48) 1 (σ.1 62 (81 + 50 * n + 48))) 3 (σ.1 62 (81 + 50 * n + 49)) 1 = σ.1 62 (81 + 50 * n + 48) := rfl
  have e : upd (upd (va_cpy g g (81 + 50 * n) 4 48) 1 (σ.1 62 (81 + 50 * n + 48))) 3 (σ.1 62 (81 + 50 * n + 49)) = unF (σ.1 62) n := by
    rw [← hg]
    funext j
    simp only [ud_1, va_cpy, unF]
    by_cases h80 : j = 80
    · subst h80
      rw [if_neg (by omega), if_neg (by omega), if_neg (by omega), if_pos rfl, if_pos rfl]
    · by_cases h3 : j = 3
      · subst h3
        rw [if_pos rfl, if_neg (by omega), if_pos rfl]
      · by_cases h1 : j = 1
        · subst h1
          rw [if_neg (by omega), if_pos rfl, if_neg (by omega), if_neg (by omega), if_pos rfl]
        · by_cases h4 : 4 ≤ j ∧ j < 52
          · rw [if_neg h3, if_neg h1, if_pos (by omega), if_neg (by omega), if_neg h80, if_neg h3, if_neg h1, if_pos h4]
          · rw [if_neg h3, if_neg h1, if_neg (by omega), if_neg h80, if_neg h80, if_neg h3, if_neg h1, if_neg h4]
  simp (disch := first | assumption | omega) only [cl_158, r_158_0, r_158_1, r_158_4, r_158_6, r_158_7, r_158_10, r_158_11, r_158_13, r_158_16, r_158_17, r_158_18, r_158_21, r_158_23, r_158_24, r_158_25, r_158_26, r_158_27, r_158_28, r_158_30, r_158_32, r_158_33, r_158_36, r_158_38, r_158_39, r_158_40, r_158_41, r_158_42, r_158_43, r_158_46, r_158_47, r_158_48, r_158_51, r_158_52, r_158_54, r_158_57, r_158_58, r_158_61, r_158_62, r_158_63, r_158_66, r_158_67, r_158_69, r_158_70, r_158_71, r_158_72, r_158_73, r_158_76, r_158_77, r_158_78, r_158_81, r_158_82, r_158_84, r_158_85, r_158_86, r_158_87, r_158_88, r_158_91, r_158_92, r_158_93, f_add, f_mul, f_sub, o_bi, o_dup2, o_get, o_ial, o_ias, o_ivs, o_ivv, o_lda, o_ldi, o_ne, o_pi, o_ri, o_sti, acR_nx, acR_re, acR_ca, acR_no, acR_if, Kc_i, Kc_n, a_lg, a_ls, a_kl, a_pk, a_sw, cw_n, cw_i, cw_l, cw_r, List.length_cons, List.length_nil, List.getElem?_cons_succ, List.getElem?_cons_zero, ↓reduceIte, decide_true, decide_false, Bool.false_eq_true, or_true, true_or, or_false, false_or, or_self, and_true, true_and, not_true_eq_false, not_false_eq_true, Nat.reduceEqDiff, Nat.reduceLT, Nat.reduceLeDiff, Nat.reduceAdd, Nat.reduceSub, Nat.reduceMul, Nat.reduceDiv, Nat.reduceMod, Nat.zero_add, Nat.add_zero, n_z, n_1, n_ltz, n_zlt, n_lt, n_eq, n_cl, n_in, nI_add, pk_mul, n_div, n_sub, nm_mod, ly_61, ly_62, m_copies ly_62 ly_62, sc_1, sc_2, wi_sc, sc_sc, sc_cm, sc_un, hs, h0, h1, h2, Nat.add_sub_cancel, hg, g80, r1, r2, r3, e]
  rfl
