/-! read: the class tells what it read -/
def Tl (σ ρ : a_HP) : Prop := ρ.2 = σ.2 ∧ ∀ a, a ≠ 1 → a ≠ 2 → a ≠ 3 → a ≠ 4 → a ≠ 5 → a ≠ 6 → a ≠ 8 → ρ.1 a = σ.1 a
def Te (ρ : a_HP) (U : Nat → Int32) : Prop := eN (ρ.1 1) (ρ.1 2) (ρ.1 3) (ρ.1 4) (ρ.1 5) U ∧ ρ.1 6 0 = nI 0 ∧ ρ.1 8 0 = nI 0
theorem Tl_r (σ : a_HP) : Tl σ σ := ⟨rfl, fun _ _ _ _ _ _ _ _ => rfl⟩
theorem Tl_t {σ ρ τ : a_HP} (h1 : Tl σ ρ) (h2 : Tl ρ τ) : Tl σ τ := ⟨h2.1.trans h1.1, fun a b1 b2 b3 b4 b5 b6 b8 => (h2.2 a b1 b2 b3 b4 b5 b6 b8).trans (h1.2 a b1 b2 b3 b4 b5 b6 b8)⟩
theorem Tl_sc {σ ρ : a_HP} (h : Tl σ ρ) {b : Nat} (hb : b = 1 ∨ b = 2 ∨ b = 3 ∨ b = 4 ∨ b = 5 ∨ b = 6 ∨ b = 8) (g : Nat → Int32) : Tl σ (a_sc ρ b g) := ⟨h.1, fun a b1 b2 b3 b4 b5 b6 b8 => by rw [sc_1, if_neg (by omega)]; exact h.2 a b1 b2 b3 b4 b5 b6 b8⟩
theorem c_tell {z : Nat} {t : Nat → Nat} {i : Nat} (hi : i ≤ 20) {ρ : a_HP} {R U : Nat → Int32} (hR : ρ.1 15 = R) (h : iOK z t i R) (hft : ftI z t i = true) (hU : kI z t i = 0 → ∀ j, j < 61 → U j = pBg (nI 0) (nI 0) j) (hT : ¬ kI z t i = 0 → Te ρ U) (Q : Option Value → a_HP → Prop) (hQ : ∀ ρ', Tl ρ ρ' → Te ρ' (telU (kI z t i) (vI z t i 0) (vI z t i 1) (vI z t i 2) (vI z t i 3) U) → Q none ρ') : Cl 102 [.ref 0, .int (nI i)] ρ Q := by
  obtain ⟨h3, h0, hv⟩ := h
  have cw := c_itemWord hi hR
  have n0 := c_itemNumber hi (x := 0) (by omega) hR
  have n1 := c_itemNumber hi (x := 1) (by omega) hR
  have n2 := c_itemNumber hi (x := 2) (by omega) hR
  have n3 := c_itemNumber hi (x := 3) (by omega) hR
  rw [h0] at cw
  unfold ftI at hft
  have x0 := hv 0 (by unfold nn; split <;> omega)
  have x1 := hv 1 (by unfold nn; split <;> omega)
  rw [x0.1] at n0
  rw [x1.1] at n1
  have y0 := x0.2
  have y1 := x1.2
  by_cases k0 : kI z t i = 0
  · have hU := hU k0
    rw [k0] at cw
    rw [k0, show telU 0 (vI z t i 0) (vI z t i 1) (vI z t i 2) (vI z t i 3) U = upd (upd U 0 (nI (vI z t i 0))) 1 (nI (vI z t i 1)) from rfl] at hQ
    generalize vI z t i 0 = v0 at *
    generalize vI z t i 1 = v1 at *
    simp (disch := first | assumption | omega) only [cl_102, r_102_0, r_102_1, r_102_4, r_102_5, r_102_8, r_102_36, r_102_37, r_102_38, r_102_41, r_102_42, r_102_43, r_102_46, r_102_47, r_102_50, r_102_51, r_102_52, r_102_55, r_102_58, r_102_61, r_102_62, r_102_65, r_102_66, r_102_69, r_102_70, r_102_71, r_102_74, r_102_75, r_102_78, r_102_79, r_102_80, r_102_83, r_102_84, r_102_87, r_102_88, r_102_89, r_102_92, r_102_93, r_102_96, r_102_97, r_102_98, r_102_101, r_102_104, r_102_107, r_102_108, r_102_111, r_102_114, r_102_115, r_102_118, r_102_119, r_102_120, r_102_123, r_102_124, r_102_127, r_102_128, r_102_129, r_102_132, r_102_133, o_get, o_go, o_ias, o_ivv, o_lda, o_ldi, o_pi, o_rv, o_sw, acR_nx, acR_re, acR_ca, acR_no, acR_if, Kc_i, Kc_n, a_lg, a_ls, a_kl, a_pk, a_sw, cw_n, cw_i, cw_l, cw_r, List.length_cons, List.length_nil, List.getElem?_cons_succ, List.getElem?_cons_zero, ↓reduceIte, decide_true, decide_false, Bool.false_eq_true, or_true, true_or, or_false, false_or, or_self, and_true, true_and, not_true_eq_false, not_false_eq_true, Nat.reduceEqDiff, Nat.reduceLT, Nat.reduceLeDiff, Nat.reduceAdd, Nat.reduceSub, Nat.reduceMul, Nat.reduceDiv, Nat.reduceMod, Nat.zero_add, Nat.add_zero, n_z, n_1, n_ltz, n_zlt, n_lt, n_eq, n_cl, n_in, nI_add, pk_mul, n_div, n_sub, nm_mod, ly_0, ly_13, cw, n0, n1, c_tellAnew]
    refine hQ _ ?_ ⟨⟨fun j hj => ?_, fun k hk => ?_, fun c hc => ?_⟩, rfl, rfl⟩
    · simp only [wi_sc, hNew]
      exact Tl_sc (Tl_sc (Tl_sc (Tl_sc (Tl_sc (Tl_sc (Tl_sc (Tl_r ρ) (by omega) _) (by omega) _) (by omega) _) (by omega) _) (by omega) _) (by omega) _) (by omega) _
    · show upd (upd (upd (upd (ρ.1 1) 0 (nI v0)) 1 (nI v1)) 2 (nI 0)) 3 (nI 0) j = upd (upd U 0 (nI v0)) 1 (nI v1) j
      rcases (show j = 0 ∨ j = 1 ∨ j = 2 ∨ j = 3 by omega) with rfl | rfl | rfl | rfl
      · rfl
      · rfl
      · exact (hU 2 (by omega)).symm
      · exact (hU 3 (by omega)).symm
    · have zz : ∀ j, 4 ≤ j → j < 52 → upd (upd U 0 (nI v0)) 1 (nI v1) j = nI 0 := fun j a b => by
        rw [ud_1, if_neg (by omega), ud_1, if_neg (by omega), hU j (by omega)]
        unfold pBg
        rw [if_neg (by omega), if_neg (by omega), if_neg (by omega)]
      show (if k < 16 then nI 0 else ρ.1 2 k) = upd (upd U 0 (nI v0)) 1 (nI v1) (4 + k) ∧ (if k < 16 then nI 0 else ρ.1 3 k) = upd (upd U 0 (nI v0)) 1 (nI v1) (20 + k) ∧ (if k < 16 then nI 0 else ρ.1 4 k) = upd (upd U 0 (nI v0)) 1 (nI v1) (36 + k)
      rw [if_pos hk, if_pos hk, if_pos hk, zz _ (by omega) (by omega), zz _ (by omega) (by omega), zz _ (by omega) (by omega)]
      exact ⟨rfl, rfl, rfl⟩
    · show (if c < 9 then nI 9 else ρ.1 5 c) = upd (upd U 0 (nI v0)) 1 (nI v1) (52 + c)
      rw [if_pos hc, ud_1, if_neg (by omega), ud_1, if_neg (by omega), hU _ (by omega)]
      unfold pBg
      rw [if_neg (by omega), if_neg (by omega), if_pos (by omega)]
  · obtain ⟨⟨t1, t2, t3⟩, t6, t8⟩ := hT k0
    by_cases k1 : kI z t i = 1
    · have x2 := hv 2 (by unfold nn; rw [if_pos k1]; omega)
      have x3 := hv 3 (by unfold nn; rw [if_pos k1]; omega)
      rw [x2.1] at n2
      rw [x3.1] at n3
      have y2 := x2.2
      have y3 := x3.2
      rw [k1] at cw hft
      have tU : telU 1 (vI z t i 0) (vI z t i 1) (vI z t i 2) (vI z t i 3) U = upd (upd (upd U (4 + vI z t i 0) (nI (vI z t i 1))) (20 + vI z t i 0) (nI (vI z t i 2))) (36 + vI z t i 0) (nI (vI z t i 3)) := by
        unfold telU
        rw [if_neg (by omega), if_pos hft, if_pos rfl]
      rw [k1, tU] at hQ
      generalize vI z t i 0 = v0 at *
      generalize vI z t i 1 = v1 at *
      generalize vI z t i 2 = v2 at *
      generalize vI z t i 3 = v3 at *
      have v16 : v0 < 16 := by
        rw [show fitK 1 v0 v1 v2 v3 = (decide (v0 ≤ 15) && decide (v1 ≤ 5) && decide (1 ≤ v2) && decide (v2 ≤ 9) && decide (v3 ≤ 2)) from rfl] at hft
        simp only [Bool.and_eq_true, decide_eq_true_eq] at hft
        omega
      simp (disch := first | assumption | omega) only [cl_102, r_102_0, r_102_1, r_102_4, r_102_5, r_102_8, r_102_36, r_102_37, r_102_38, r_102_41, r_102_42, r_102_43, r_102_46, r_102_47, r_102_50, r_102_51, r_102_52, r_102_55, r_102_58, r_102_61, r_102_62, r_102_65, r_102_66, r_102_69, r_102_70, r_102_71, r_102_74, r_102_75, r_102_78, r_102_79, r_102_80, r_102_83, r_102_84, r_102_87, r_102_88, r_102_89, r_102_92, r_102_93, r_102_96, r_102_97, r_102_98, r_102_101, r_102_104, r_102_107, r_102_108, r_102_111, r_102_114, r_102_115, r_102_118, r_102_119, r_102_120, r_102_123, r_102_124, r_102_127, r_102_128, r_102_129, r_102_132, r_102_133, o_get, o_go, o_ias, o_ivv, o_lda, o_ldi, o_pi, o_rv, o_sw, acR_nx, acR_re, acR_ca, acR_no, acR_if, Kc_i, Kc_n, a_lg, a_ls, a_kl, a_pk, a_sw, cw_n, cw_i, cw_l, cw_r, List.length_cons, List.length_nil, List.getElem?_cons_succ, List.getElem?_cons_zero, ↓reduceIte, decide_true, decide_false, Bool.false_eq_true, or_true, true_or, or_false, false_or, or_self, and_true, true_and, not_true_eq_false, not_false_eq_true, Nat.reduceEqDiff, Nat.reduceLT, Nat.reduceLeDiff, Nat.reduceAdd, Nat.reduceSub, Nat.reduceMul, Nat.reduceDiv, Nat.reduceMod, Nat.zero_add, Nat.add_zero, n_z, n_1, n_ltz, n_zlt, n_lt, n_eq, n_cl, n_in, nI_add, pk_mul, n_div, n_sub, nm_mod, ly_0, ly_1, ly_13, cw, n0, n1, n2, n3, c_tieKnot aN_1 v16]
      refine hQ _ ?_ ⟨⟨fun j hj => ?_, fun k hk => ?_, fun c hc => ?_⟩, t6, t8⟩
      · simp only [wi_sc]
        exact Tl_sc (Tl_sc (Tl_sc (Tl_r ρ) (by omega) _) (by omega) _) (by omega) _
      · rw [ud_1, if_neg (by omega), ud_1, if_neg (by omega), ud_1, if_neg (by omega)]
        exact t1 j hj
      · obtain ⟨u1, u2, u3⟩ := t2 k hk
        show upd (ρ.1 2) v0 (nI v1) k = _ ∧ upd (ρ.1 3) v0 (nI v2) k = _ ∧ upd (ρ.1 4) v0 (nI v3) k = _
        simp only [ud_1]
        by_cases q : k = v0
        · rw [q]
          simp only [if_true]
          refine ⟨?_, ?_, ?_⟩
          · rw [if_neg (by omega), if_neg (by omega)]
          · rw [if_neg (by omega)]
          · trivial
        · rw [if_neg q, if_neg q, if_neg q, if_neg (by omega), if_neg (by omega), if_neg (by omega), if_neg (by omega), if_neg (by omega), if_neg (by omega), if_neg (by omega), if_neg (by omega), if_neg (by omega)]
          exact ⟨u1, u2, u3⟩
      · show ρ.1 5 c = _
        rw [ud_1, if_neg (by omega), ud_1, if_neg (by omega), ud_1, if_neg (by omega)]
        exact t3 c hc
    · have k2 : kI z t i = 2 := by omega
      rw [k2] at cw hft
      have tU : telU 2 (vI z t i 0) (vI z t i 1) (vI z t i 2) (vI z t i 3) U = upd U (52 + vI z t i 0) (nI (vI z t i 1)) := by
        unfold telU
        rw [if_neg (by omega), if_pos hft, if_neg (by omega)]
      rw [k2, tU] at hQ
      generalize vI z t i 0 = v0 at *
      generalize vI z t i 1 = v1 at *
      have v9 : v0 < 9 := by
        rw [show ∀ x y, fitK 2 v0 v1 x y = (decide (v0 ≤ 8) && decide (v1 ≤ 30)) from fun _ _ => rfl] at hft
        simp only [Bool.and_eq_true, decide_eq_true_eq] at hft
        omega
      simp (disch := first | assumption | omega) only [cl_102, r_102_0, r_102_1, r_102_4, r_102_5, r_102_8, r_102_36, r_102_37, r_102_38, r_102_41, r_102_42, r_102_43, r_102_46, r_102_47, r_102_50, r_102_51, r_102_52, r_102_55, r_102_58, r_102_61, r_102_62, r_102_65, r_102_66, r_102_69, r_102_70, r_102_71, r_102_74, r_102_75, r_102_78, r_102_79, r_102_80, r_102_83, r_102_84, r_102_87, r_102_88, r_102_89, r_102_92, r_102_93, r_102_96, r_102_97, r_102_98, r_102_101, r_102_104, r_102_107, r_102_108, r_102_111, r_102_114, r_102_115, r_102_118, r_102_119, r_102_120, r_102_123, r_102_124, r_102_127, r_102_128, r_102_129, r_102_132, r_102_133, o_get, o_go, o_ias, o_ivv, o_lda, o_ldi, o_pi, o_rv, o_sw, acR_nx, acR_re, acR_ca, acR_no, acR_if, Kc_i, Kc_n, a_lg, a_ls, a_kl, a_pk, a_sw, cw_n, cw_i, cw_l, cw_r, List.length_cons, List.length_nil, List.getElem?_cons_succ, List.getElem?_cons_zero, ↓reduceIte, decide_true, decide_false, Bool.false_eq_true, or_true, true_or, or_false, false_or, or_self, and_true, true_and, not_true_eq_false, not_false_eq_true, Nat.reduceEqDiff, Nat.reduceLT, Nat.reduceLeDiff, Nat.reduceAdd, Nat.reduceSub, Nat.reduceMul, Nat.reduceDiv, Nat.reduceMod, Nat.zero_add, Nat.add_zero, n_z, n_1, n_ltz, n_zlt, n_lt, n_eq, n_cl, n_in, nI_add, pk_mul, n_div, n_sub, nm_mod, ly_0, ly_1, ly_5, ly_13, cw, n0, n1, v9, wi_sc]
      refine hQ _ (Tl_sc (Tl_r ρ) (by omega) _) ⟨⟨fun j hj => ?_, fun k hk => ?_, fun c hc => ?_⟩, t6, t8⟩
      · rw [ud_1, if_neg (by omega)]
        exact t1 j hj
      · rw [ud_1, if_neg (by omega), ud_1, if_neg (by omega), ud_1, if_neg (by omega)]
        exact t2 k hk
      · show upd (ρ.1 5) v0 (nI v1) c = _
        simp only [ud_1]
        by_cases q : c = v0
        · rw [if_pos q, if_pos (by omega)]
        · rw [if_neg q, if_neg (by omega)]
          exact t3 c hc
theorem FF_all (z : Nat) (t : Nat → Nat) : ∀ n, n ≤ 21 → FF z t n = -1 → ∀ j, j < n → ftI z t j = true
  | 0, _, _, j, hj => by omega
  | n + 1, hn, h, j, hj => by
    simp only [FF] at h
    unfold fsF at h
    have e : FF z t n = -1 ∧ ftI z t n = true := by
      by_cases q : ftI z t n = false ∧ FF z t n = -1
      · rw [if_pos q, n_nm1 (by omega)] at h
        exact h.elim
      · rw [if_neg q] at h
        refine ⟨h, ?_⟩
        cases f : ftI z t n with
        | true => rfl
        | false => exact absurd ⟨f, h⟩ q
    by_cases q : j = n
    · rw [q]; exact e.2
    · exact FF_all z t n (by omega) e.1 j (by omega)
theorem tkB_le {z : Nat} {t : Nat → Nat} : ∀ r q, q ≤ z → tkBad z t r q ≤ z
  | 0, q, hq => (tS_ge hq).2
  | r + 1, q, hq => by
    simp only [tkBad]
    split
    · exact tkB_le r _ (tE_ge hq).2
    · exact (tS_ge hq).2
theorem flI_le {z : Nat} {t : Nat → Nat} {n : Nat} (h : Pz z t n ≤ z) : flI z t n ≤ z := by
  unfold flI
  split
  · exact tkB_le _ _ (tE_ge h).2
  · exact (tS_ge h).2
theorem TS_id (σ : a_HP) : TS σ (σ.1 13) (σ.1 15) = σ := by
  unfold TS
  rw [sc_id, sc_id]
theorem c_read {z : Nat} {t : Nat → Nat} {σ : a_HP} (ht : tx z t (σ.1 14)) (hz0 : σ.1 13 0 = nI z) {n : Nat} (hn : n ≤ 21) (hst : stq z t n = true) (hok : ∀ j, j < n → okI z t j = true) {U0 : Nat → Int32} (hU0 : ∀ j, j < 61 → U0 j = pBg (nI 0) (nI 0) j) (Q : Option Value → a_HP → Prop)
    (hQf : ¬ (kI z t n = 5 ∧ 0 < n) → ∀ (o' R' : Nat → Int32), o' 0 = nI z → Q (some (.int (-10 - nI (flI z t n)))) (TS σ o' R'))
    (hQr : kI z t n = 5 → 0 < n → ¬ FF z t n = -1 → ∀ (o' R' : Nat → Int32), o' 0 = nI z → Q (some (.int (-1000 - FF z t n))) (TS σ o' R'))
    (hQo : kI z t n = 5 → 0 < n → FF z t n = -1 → ∀ (o' R' : Nat → Int32) (ρ : a_HP), o' 0 = nI z → Tl (TS σ o' R') ρ → Te ρ (UU z t U0 n) → Q (some (.int (nI n))) ρ) : Cl 63 [.ref 0] σ Q := by
  have hz := ht.1
  obtain ⟨p1, p2⟩ := Pz_7 n hok
  have fl := flI_le p2
  have fne : (nI (flI z t n) = -1) = False := n_nm1 (by omega)
  have idd := TS_id σ
  have ff : ∀ Q', (_ : _) → (_ : _) → Cl 43 [.ref 13] (TS σ (σ.1 13) (σ.1 15)) Q' := fun Q' a b => c_findFault ht hn hst hok (o := σ.1 13) (R := σ.1 15) hz0 Q' a b
  rw [idd] at ff
  simp (disch := first | assumption | omega) only [cl_63, r_63_0, r_63_1, r_63_4, r_63_7, r_63_8, r_63_9, r_63_10, r_63_13, r_63_15, r_63_16, r_63_17, r_63_18, r_63_19, r_63_22, r_63_23, r_63_24, r_63_25, r_63_28, r_63_31, r_63_32, r_63_33, r_63_34, r_63_35, r_63_37, r_63_38, r_63_41, r_63_44, r_63_47, r_63_48, r_63_49, r_63_52, r_63_55, r_63_58, r_63_59, r_63_62, r_63_65, f_sub, o_bi, o_ceq, o_cge, o_get, o_go, o_inc, o_ivv, o_lda, o_ldi, o_pi, o_ri, o_sti, acR_nx, acR_re, acR_ca, acR_no, acR_if, Kc_i, Kc_n, a_lg, a_ls, a_kl, a_pk, a_sw, cw_n, cw_i, cw_l, cw_r, List.length_cons, List.length_nil, List.getElem?_cons_succ, List.getElem?_cons_zero, ↓reduceIte, decide_true, decide_false, Bool.false_eq_true, or_true, true_or, or_false, false_or, or_self, and_true, true_and, not_true_eq_false, not_false_eq_true, Nat.reduceEqDiff, Nat.reduceLT, Nat.reduceLeDiff, Nat.reduceAdd, Nat.reduceSub, Nat.reduceMul, Nat.reduceDiv, Nat.reduceMod, Nat.zero_add, Nat.add_zero, n_z, n_1, n_ltz, n_zlt, n_lt, n_eq, n_cl, n_in, nI_add, pk_mul, n_div, n_sub, nm_mod, ly_0, ly_13]
  refine ff _ (fun k5 n0 o' R' h0 h1 hr => ?_) (fun hne o' R' h0 => ?_)
  · have hR : (TS σ o' R').1 15 = R' := rfl
    have h13 : (TS σ o' R').1 13 1 = nI n := h1
    have hi : ∀ i, i < n → iOK z t i R' := fun i hi => by
      have ok := hok i hi
      unfold okI at ok
      rw [Bool.and_eq_true] at ok
      obtain ⟨c1, c2⟩ := hr i hi
      have pi := (Pz_7 i (fun j hj => hok j (by omega))).2
      exact ⟨bg_3 ok.1, c1, fun x hx => ⟨c2 x hx, vl_99 _ _ (tE_ge pi).2 ok.2 x hx⟩⟩
    have hQr' := hQr k5 n0
    have hQo' := hQo k5 n0
    simp (disch := first | assumption | omega) only [r_63_0, r_63_1, r_63_4, r_63_7, r_63_8, r_63_9, r_63_10, r_63_13, r_63_15, r_63_16, r_63_17, r_63_18, r_63_19, r_63_22, r_63_23, r_63_24, r_63_25, r_63_28, r_63_31, r_63_32, r_63_33, r_63_34, r_63_35, r_63_37, r_63_38, r_63_41, r_63_44, r_63_47, r_63_48, r_63_49, r_63_52, r_63_55, r_63_58, r_63_59, r_63_62, r_63_65, f_sub, o_bi, o_ceq, o_cge, o_get, o_go, o_inc, o_ivv, o_lda, o_ldi, o_pi, o_ri, o_sti, acR_nx, acR_re, acR_ca, acR_no, acR_if, Kc_i, Kc_n, a_lg, a_ls, a_kl, a_pk, a_sw, cw_n, cw_i, cw_l, cw_r, List.length_cons, List.length_nil, List.getElem?_cons_succ, List.getElem?_cons_zero, ↓reduceIte, decide_true, decide_false, Bool.false_eq_true, or_true, true_or, or_false, false_or, or_self, and_true, true_and, not_true_eq_false, not_false_eq_true, Nat.reduceEqDiff, Nat.reduceLT, Nat.reduceLeDiff, Nat.reduceAdd, Nat.reduceSub, Nat.reduceMul, Nat.reduceDiv, Nat.reduceMod, Nat.zero_add, Nat.add_zero, n_z, n_1, n_ltz, n_zlt, n_lt, n_eq, n_cl, n_in, nI_add, pk_mul, n_div, n_sub, nm_mod, ly_0]
    refine c_firstRef hn hR h13 hi _ ?_
    by_cases f1 : FF z t n = -1
    · have fits := FF_all z t n hn f1
      have loop := lp_dn (C := fun i => ∀ ρ, Tl (TS σ o' R') ρ → (0 < i → Te ρ (UU z t U0 i)) → Rn 63 36 [some (.ref 0), some (.int (-1)), some (.int (-1)), some (.int (nI i))] [] ρ Q) n (fun ρ hT hE => by
        have r13 : ρ.1 13 1 = nI n := by rw [hT.2 13 (by omega) (by omega) (by omega) (by omega) (by omega) (by omega) (by omega)]; exact h13
        rw [r_63_36]
        simp (disch := first | assumption | omega) only [r_63_0, r_63_1, r_63_4, r_63_7, r_63_8, r_63_9, r_63_10, r_63_13, r_63_15, r_63_16, r_63_17, r_63_18, r_63_19, r_63_22, r_63_23, r_63_24, r_63_25, r_63_28, r_63_31, r_63_32, r_63_33, r_63_34, r_63_35, r_63_37, r_63_38, r_63_41, r_63_44, r_63_47, r_63_48, r_63_49, r_63_52, r_63_55, r_63_58, r_63_59, r_63_62, r_63_65, f_sub, o_bi, o_ceq, o_cge, o_get, o_go, o_inc, o_ivv, o_lda, o_ldi, o_pi, o_ri, o_sti, o_ldi, acR_nx, acR_re, acR_ca, acR_no, acR_if, Kc_i, Kc_n, a_lg, a_ls, a_kl, a_pk, a_sw, cw_n, cw_i, cw_l, cw_r, List.length_cons, List.length_nil, List.getElem?_cons_succ, List.getElem?_cons_zero, ↓reduceIte, decide_true, decide_false, Bool.false_eq_true, or_true, true_or, or_false, false_or, or_self, and_true, true_and, not_true_eq_false, not_false_eq_true, Nat.reduceEqDiff, Nat.reduceLT, Nat.reduceLeDiff, Nat.reduceAdd, Nat.reduceSub, Nat.reduceMul, Nat.reduceDiv, Nat.reduceMod, Nat.zero_add, Nat.add_zero, n_z, n_1, n_ltz, n_zlt, n_lt, n_eq, n_cl, n_in, nI_add, pk_mul, n_div, n_sub, nm_mod, ly_0, ly_13, r13, Nat.lt_irrefl]
        exact hQo' f1 o' R' ρ h0 hT (hE n0)) (fun i hin ih ρ hT hE => by
        have r13 : ρ.1 13 1 = nI n := by rw [hT.2 13 (by omega) (by omega) (by omega) (by omega) (by omega) (by omega) (by omega)]; exact h13
        have r15 : ρ.1 15 = R' := by rw [hT.2 15 (by omega) (by omega) (by omega) (by omega) (by omega) (by omega) (by omega)]; exact hR
        have ok := hok i hin
        unfold okI bg at ok
        rw [Bool.and_eq_true] at ok
        rw [r_63_36]
        simp (disch := first | assumption | omega) only [r_63_0, r_63_1, r_63_4, r_63_7, r_63_8, r_63_9, r_63_10, r_63_13, r_63_15, r_63_16, r_63_17, r_63_18, r_63_19, r_63_22, r_63_23, r_63_24, r_63_25, r_63_28, r_63_31, r_63_32, r_63_33, r_63_34, r_63_35, r_63_37, r_63_38, r_63_41, r_63_44, r_63_47, r_63_48, r_63_49, r_63_52, r_63_55, r_63_58, r_63_59, r_63_62, r_63_65, f_sub, o_bi, o_ceq, o_cge, o_get, o_go, o_inc, o_ivv, o_lda, o_ldi, o_pi, o_ri, o_sti, o_ldi, acR_nx, acR_re, acR_ca, acR_no, acR_if, Kc_i, Kc_n, a_lg, a_ls, a_kl, a_pk, a_sw, cw_n, cw_i, cw_l, cw_r, List.length_cons, List.length_nil, List.getElem?_cons_succ, List.getElem?_cons_zero, ↓reduceIte, decide_true, decide_false, Bool.false_eq_true, or_true, true_or, or_false, false_or, or_self, and_true, true_and, not_true_eq_false, not_false_eq_true, Nat.reduceEqDiff, Nat.reduceLT, Nat.reduceLeDiff, Nat.reduceAdd, Nat.reduceSub, Nat.reduceMul, Nat.reduceDiv, Nat.reduceMod, Nat.zero_add, Nat.add_zero, n_z, n_1, n_ltz, n_zlt, n_lt, n_eq, n_cl, n_in, nI_add, pk_mul, n_div, n_sub, nm_mod, ly_0, ly_13, r13, hin]
        refine c_tell (show i ≤ 20 by omega) (U := UU z t U0 i) r15 (hi i hin) (fits i hin) (fun k0 => ?_) (fun k0 => ?_) _ (fun ρ' hT' hE' => ?_)
        · have i0 : i = 0 := by
            by_cases q : i = 0
            · exact q
            · rw [if_neg q] at ok
              have k0' : tKd z t (Pz z t i) = 0 := k0
              rw [k0'] at ok
              exact absurd ok.1 (by decide)
          rw [i0]
          exact hU0
        · refine hE ?_
          by_cases q : i = 0
          · rw [if_pos q] at ok
            exact absurd (of_decide_eq_true ok.1) k0
          · omega
        · simp (disch := first | assumption | omega) only [r_63_0, r_63_1, r_63_4, r_63_7, r_63_8, r_63_9, r_63_10, r_63_13, r_63_15, r_63_16, r_63_17, r_63_18, r_63_19, r_63_22, r_63_23, r_63_24, r_63_25, r_63_28, r_63_31, r_63_32, r_63_33, r_63_34, r_63_35, r_63_37, r_63_38, r_63_41, r_63_44, r_63_47, r_63_48, r_63_49, r_63_52, r_63_55, r_63_58, r_63_59, r_63_62, r_63_65, f_sub, o_bi, o_ceq, o_cge, o_get, o_go, o_inc, o_ivv, o_lda, o_ldi, o_pi, o_ri, o_sti, acR_nx, acR_re, acR_ca, acR_no, acR_if, Kc_i, Kc_n, a_lg, a_ls, a_kl, a_pk, a_sw, cw_n, cw_i, cw_l, cw_r, List.length_cons, List.length_nil, List.getElem?_cons_succ, List.getElem?_cons_zero, ↓reduceIte, decide_true, decide_false, Bool.false_eq_true, or_true, true_or, or_false, false_or, or_self, and_true, true_and, not_true_eq_false, not_false_eq_true, Nat.reduceEqDiff, Nat.reduceLT, Nat.reduceLeDiff, Nat.reduceAdd, Nat.reduceSub, Nat.reduceMul, Nat.reduceDiv, Nat.reduceMod, Nat.zero_add, Nat.add_zero, n_z, n_1, n_ltz, n_zlt, n_lt, n_eq, n_cl, n_in, nI_add, pk_mul, n_div, n_sub, nm_mod]
          exact ih ρ' (Tl_t hT hT') (fun _ => hE'))
      simp (disch := first | assumption | omega) only [r_63_0, r_63_1, r_63_4, r_63_7, r_63_8, r_63_9, r_63_10, r_63_13, r_63_15, r_63_16, r_63_17, r_63_18, r_63_19, r_63_22, r_63_23, r_63_24, r_63_25, r_63_28, r_63_31, r_63_32, r_63_33, r_63_34, r_63_35, r_63_37, r_63_38, r_63_41, r_63_44, r_63_47, r_63_48, r_63_49, r_63_52, r_63_55, r_63_58, r_63_59, r_63_62, r_63_65, f_sub, o_bi, o_ceq, o_cge, o_get, o_go, o_inc, o_ivv, o_lda, o_ldi, o_pi, o_ri, o_sti, acR_nx, acR_re, acR_ca, acR_no, acR_if, Kc_i, Kc_n, a_lg, a_ls, a_kl, a_pk, a_sw, cw_n, cw_i, cw_l, cw_r, List.length_cons, List.length_nil, List.getElem?_cons_succ, List.getElem?_cons_zero, ↓reduceIte, decide_true, decide_false, Bool.false_eq_true, or_true, true_or, or_false, false_or, or_self, and_true, true_and, not_true_eq_false, not_false_eq_true, Nat.reduceEqDiff, Nat.reduceLT, Nat.reduceLeDiff, Nat.reduceAdd, Nat.reduceSub, Nat.reduceMul, Nat.reduceDiv, Nat.reduceMod, Nat.zero_add, Nat.add_zero, n_z, n_1, n_ltz, n_zlt, n_lt, n_eq, n_cl, n_in, nI_add, pk_mul, n_div, n_sub, nm_mod, f1]
      exact loop _ (Tl_r _) (fun h => by omega)
    · simp (disch := first | assumption | omega) only [r_63_0, r_63_1, r_63_4, r_63_7, r_63_8, r_63_9, r_63_10, r_63_13, r_63_15, r_63_16, r_63_17, r_63_18, r_63_19, r_63_22, r_63_23, r_63_24, r_63_25, r_63_28, r_63_31, r_63_32, r_63_33, r_63_34, r_63_35, r_63_37, r_63_38, r_63_41, r_63_44, r_63_47, r_63_48, r_63_49, r_63_52, r_63_55, r_63_58, r_63_59, r_63_62, r_63_65, f_sub, o_bi, o_ceq, o_cge, o_get, o_go, o_inc, o_ivv, o_lda, o_ldi, o_pi, o_ri, o_sti, acR_nx, acR_re, acR_ca, acR_no, acR_if, Kc_i, Kc_n, a_lg, a_ls, a_kl, a_pk, a_sw, cw_n, cw_i, cw_l, cw_r, List.length_cons, List.length_nil, List.getElem?_cons_succ, List.getElem?_cons_zero, ↓reduceIte, decide_true, decide_false, Bool.false_eq_true, or_true, true_or, or_false, false_or, or_self, and_true, true_and, not_true_eq_false, not_false_eq_true, Nat.reduceEqDiff, Nat.reduceLT, Nat.reduceLeDiff, Nat.reduceAdd, Nat.reduceSub, Nat.reduceMul, Nat.reduceDiv, Nat.reduceMod, Nat.zero_add, Nat.add_zero, n_z, n_1, n_ltz, n_zlt, n_lt, n_eq, n_cl, n_in, nI_add, pk_mul, n_div, n_sub, nm_mod, f1]
      exact hQr' f1 o' R' h0
  · simp (disch := first | assumption | omega) only [r_63_0, r_63_1, r_63_4, r_63_7, r_63_8, r_63_9, r_63_10, r_63_13, r_63_15, r_63_16, r_63_17, r_63_18, r_63_19, r_63_22, r_63_23, r_63_24, r_63_25, r_63_28, r_63_31, r_63_32, r_63_33, r_63_34, r_63_35, r_63_37, r_63_38, r_63_41, r_63_44, r_63_47, r_63_48, r_63_49, r_63_52, r_63_55, r_63_58, r_63_59, r_63_62, r_63_65, f_sub, o_bi, o_ceq, o_cge, o_get, o_go, o_inc, o_ivv, o_lda, o_ldi, o_pi, o_ri, o_sti, acR_nx, acR_re, acR_ca, acR_no, acR_if, Kc_i, Kc_n, a_lg, a_ls, a_kl, a_pk, a_sw, cw_n, cw_i, cw_l, cw_r, List.length_cons, List.length_nil, List.getElem?_cons_succ, List.getElem?_cons_zero, ↓reduceIte, decide_true, decide_false, Bool.false_eq_true, or_true, true_or, or_false, false_or, or_self, and_true, true_and, not_true_eq_false, not_false_eq_true, Nat.reduceEqDiff, Nat.reduceLT, Nat.reduceLeDiff, Nat.reduceAdd, Nat.reduceSub, Nat.reduceMul, Nat.reduceDiv, Nat.reduceMod, Nat.zero_add, Nat.add_zero, n_z, n_1, fne]
    exact hQf hne o' R' h0
theorem vN_tel {M k v0 v1 v2 v3 : Nat} {U : Nat → Int32} (h : vN M U) (hf : fitK k v0 v1 v2 v3 = true) (hk : k < 3) (h1 : v1 ≤ 99) : vN M (telU k v0 v1 v2 v3 U) := by
  obtain ⟨g0, g1, g2, g3, g4, g5⟩ := h
  unfold telU
  by_cases k0 : k = 0
  · rw [if_pos k0]
    rw [k0, show fitK 0 v0 v1 v2 v3 = decide (v0 ≤ 1) from rfl] at hf
    have hv := of_decide_eq_true hf
    refine ⟨?_, ⟨v1, h1, rfl⟩, g2, g3, fun k hk => ?_, fun c hc => ?_⟩
    · show nI v0 = nI 0 ∨ nI v0 = nI 1
      rcases (show v0 = 0 ∨ v0 = 1 by omega) with rfl | rfl
      · exact Or.inl rfl
      · exact Or.inr rfl
    · simp only [ud_1]
      rw [if_neg (by omega), if_neg (by omega), if_neg (by omega), if_neg (by omega), if_neg (by omega), if_neg (by omega)]
      exact g4 k hk
    · simp only [ud_1]
      rw [if_neg (by omega), if_neg (by omega)]
      exact g5 c hc
  · rw [if_neg k0, if_pos hf]
    by_cases k1 : k = 1
    · rw [if_pos k1]
      rw [k1, show fitK 1 v0 v1 v2 v3 = (decide (v0 ≤ 15) && decide (v1 ≤ 5) && decide (1 ≤ v2) && decide (v2 ≤ 9) && decide (v3 ≤ 2)) from rfl] at hf
      simp only [Bool.and_eq_true, decide_eq_true_eq] at hf
      have e : ∀ j, j < 4 ∨ 52 ≤ j → upd (upd (upd U (4 + v0) (nI v1)) (20 + v0) (nI v2)) (36 + v0) (nI v3) j = U j := fun j hj => by
        rw [ud_1, if_neg (by omega), ud_1, if_neg (by omega), ud_1, if_neg (by omega)]
      refine ⟨by rw [e _ (by omega)]; exact g0, by rw [e _ (by omega)]; exact g1, by rw [e _ (by omega)]; exact g2, by rw [e _ (by omega)]; exact g3, fun k hk => ?_, fun c hc => by rw [e _ (by omega)]; exact g5 c hc⟩
      obtain ⟨a, b, c⟩ := g4 k hk
      simp only [ud_1]
      by_cases q : k = v0
      · rw [q]
        rw [if_neg (by omega), if_neg (by omega), if_pos rfl, if_neg (by omega), if_pos rfl, if_pos rfl]
        exact ⟨⟨v1, by omega, rfl⟩, ⟨v2, by omega, rfl⟩, ⟨v3, by omega, rfl⟩⟩
      · rw [if_neg (by omega), if_neg (by omega), if_neg (by omega), if_neg (by omega), if_neg (by omega), if_neg (by omega), if_neg (by omega), if_neg (by omega), if_neg (by omega)]
        exact ⟨a, b, c⟩
    · rw [if_neg k1]
      have k2 : k = 2 := by omega
      rw [k2, show fitK 2 v0 v1 v2 v3 = (decide (v0 ≤ 8) && decide (v1 ≤ 30)) from rfl] at hf
      simp only [Bool.and_eq_true, decide_eq_true_eq] at hf
      have e : ∀ j, j < 52 → upd U (52 + v0) (nI v1) j = U j := fun j hj => by rw [ud_1, if_neg (by omega)]
      refine ⟨by rw [e _ (by omega)]; exact g0, by rw [e _ (by omega)]; exact g1, by rw [e _ (by omega)]; exact g2, by rw [e _ (by omega)]; exact g3, fun k hk => ?_, fun c hc => ?_⟩
      · rw [e _ (by omega), e _ (by omega), e _ (by omega)]
        exact g4 k hk
      · rw [ud_1]
        by_cases q : c = v0
        · rw [if_pos (by omega)]; exact ⟨v1, by omega, rfl⟩
        · rw [if_neg (by omega)]; exact g5 c hc
theorem tel_61 {k v0 v1 v2 v3 : Nat} {U : Nat → Int32} (hk : k < 3) {j : Nat} (hj : 61 ≤ j) : telU k v0 v1 v2 v3 U j = U j := by
  unfold telU
  by_cases k0 : k = 0
  · rw [if_pos k0, ud_1, if_neg (by omega), ud_1, if_neg (by omega)]
  · rw [if_neg k0]
    by_cases hf : fitK k v0 v1 v2 v3 = true
    · rw [if_pos hf]
      by_cases k1 : k = 1
      · rw [if_pos k1]
        rw [k1, show fitK 1 v0 v1 v2 v3 = (decide (v0 ≤ 15) && decide (v1 ≤ 5) && decide (1 ≤ v2) && decide (v2 ≤ 9) && decide (v3 ≤ 2)) from rfl] at hf
        simp only [Bool.and_eq_true, decide_eq_true_eq] at hf
        rw [ud_1, if_neg (by omega), ud_1, if_neg (by omega), ud_1, if_neg (by omega)]
      · rw [if_neg k1]
        have k2 : k = 2 := by omega
        rw [k2, show fitK 2 v0 v1 v2 v3 = (decide (v0 ≤ 8) && decide (v1 ≤ 30)) from rfl] at hf
        simp only [Bool.and_eq_true, decide_eq_true_eq] at hf
        rw [ud_1, if_neg (by omega)]
    · rw [if_neg hf]
