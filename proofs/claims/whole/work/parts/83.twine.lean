/-! least: the least twine -/
def hN (f : Nat → Int32) (c : Nat) : Nat := byN f (kA c 0) 0 + byN f (kA c 1) 0 + byN f (kA c 2) 0 + byN f (kA c 3) 0
theorem ph_by {N : Nat} {f : Nat → Int32} (hv : vN N f) {k : Nat} (hk : k < 16) : pH (f 0) (fun j => f (4 + j)) (fun j => f (20 + j)) k = nI (byN f k 0) ∧ byN f k 0 ≤ 21 := by
  obtain ⟨c1, c2⟩ := hb_ok (tw := 0) hv hk (Nat.zero_le _)
  obtain ⟨es, hs⟩ := sN_ok hv hk
  obtain ⟨d, hd, e1⟩ := (hv.2.2.2.2.1 k hk).1
  obtain ⟨rt, hrt, e2⟩ := kRt_ok (vKn_of hv) hk
  have hr : ∃ r : Fin 2, f 0 = nI r.val := by
    rcases hv.1 with e | e
    · exact ⟨0, e⟩
    · exact ⟨1, e⟩
  obtain ⟨r, er⟩ := hr
  refine ⟨?_, c2⟩
  rw [← c1]
  unfold pH byI
  dsimp only
  rw [es, e1, e2, er]
  rw [show (if sN f k = 0 then 0 else sN f k + 0) = sN f k by split <;> omega]
  exact kH_N ⟨d, by omega⟩ ⟨sN f k, by omega⟩ r ⟨rt, by omega⟩
theorem pc_h {N : Nat} {f : Nat → Int32} (hv : vN N f) {c : Nat} (hc : c < 9) : pC (f 0) (fun j => f (4 + j)) (fun j => f (20 + j)) c = nI (hN f c) ∧ hN f c ≤ 84 := by
  have a0 := ph_by hv (kA_lt hc (i := 0) (by omega))
  have a1 := ph_by hv (kA_lt hc (i := 1) (by omega))
  have a2 := ph_by hv (kA_lt hc (i := 2) (by omega))
  have a3 := ph_by hv (kA_lt hc (i := 3) (by omega))
  refine ⟨?_, by unfold hN; omega⟩
  unfold pC hN
  rw [a0.1, a1.1, a2.1, a3.1]
  simp only [nI_add, Nat.zero_add]
def nD (f : Nat → Int32) (c : Nat) : Int := (wdN f c : Int) - (hN f c : Int)
def nDb (f : Nat → Int32) (a b : Nat) : Int := if a = b then 0 else nD f b
def kp2 (σ ρ : a_HP) : Prop := (∀ x, x < 23 ∨ 32 < x → ρ.1 x = σ.1 x) ∧ ρ.2 = σ.2
theorem O_mem {a b k : Nat} (h : k ∈ OA a b 4 ∨ k ∈ OB a b 4 ∨ k ∈ OS a b 4) : ∃ j, j < 4 ∧ (k = kA a j ∨ k = kA b j) := by
  unfold OA OB OS at h
  rcases h with h | h | h
  · rw [List.mem_filter, List.mem_map] at h
    obtain ⟨⟨j, hj, e⟩, -⟩ := h
    exact ⟨j, List.mem_range.mp hj, Or.inl e.symm⟩
  · rw [List.mem_filter, List.mem_map] at h
    obtain ⟨⟨j, hj, e⟩, -⟩ := h
    exact ⟨j, List.mem_range.mp hj, Or.inr e.symm⟩
  · rw [List.mem_filter, List.mem_map] at h
    obtain ⟨⟨j, hj, e⟩, -⟩ := h
    exact ⟨j, List.mem_range.mp hj, Or.inl e.symm⟩
theorem c_fillCostsR {f : Nat → Int32} {s : Nat} (hs : s ≤ 1) {L : List Nat} (hn : L.length ≤ 4) {ρ : a_HP} (hk : ∀ k, k ∈ L → k < 16) (h28 : ρ.1 28 s = nI L.length) (h27 : ∀ i, i < L.length → ρ.1 27 (s * 4 + i) = nI (L.getD i 0)) (hG : ∀ k, k ∈ L → (ρ.1 30 k = nI (moN f k) ∧ moN f k ≤ 9) ∧ ∀ tw, tw ≤ moN f k → ρ.1 31 (k * 10 + tw) = nI (gaN f k tw) ∧ gaN f k tw ≤ 21) (Q : Option Value → a_HP → Prop) (hQ : ∀ T' : Nat → Int32, (∀ i l, i ≤ L.length → l < 31 → T' ((s * 5 + i) * 31 + l) = nI (dL f L i l)) → (∀ j, j < s * 155 ∨ s * 155 + 155 ≤ j → T' j = ρ.1 32 j) → Q none (a_sc ρ 32 T')) : Cl 7 [.ref 23, .int (nI s)] ρ Q := by
  have := c_fillCosts (f := f) hs hn (σ := ρ) (fun i hi => hk _ (gD_mem hi)) h28 h27 (fun i hi => (hG _ (gD_mem hi)).1) (fun i hi => (hG _ (gD_mem hi)).2) (ρ.1 32) Q hQ
  rw [sc_id] at this
  exact this
theorem c_leastTwine {N : Nat} {σ : a_HP} {f : Nat → Int32} (he : eN (σ.1 1) (σ.1 2) (σ.1 3) (σ.1 4) (σ.1 5) f) (hv : vN N f) {a b : Nat} (ha : a < 9) (hb : b < 9) (Q : Option Value → a_HP → Prop) (hQ : ∀ (ρ : a_HP) (best : Nat), kp2 σ ρ → JJ f (OA a b 4) (OB a b 4) (OS a b 4) (nD f a) (nDb f a b) (fun _ _ => True) best (ρ.1 24) → Q (some (.int (if best < 1000 then nI best else -1))) ρ) : Cl 2 [.ref 23, .ref 1, .int (nI a), .int (nI b)] σ Q := by
  have hL : LL (OA a b 4) (OB a b 4) (OS a b 4) := O_LL ⟨a, ha⟩ ⟨b, hb⟩
  obtain ⟨wa1, wa2⟩ := wdN_ok hv ha
  obtain ⟨wb1, wb2⟩ := wdN_ok hv hb
  obtain ⟨pa1, pa2⟩ := pc_h hv ha
  obtain ⟨pb1, pb2⟩ := pc_h hv hb
  have subI : ∀ w h : Nat, w ≤ 30 → h ≤ 84 → (nI w - nI h).toInt = (w : Int) - (h : Int) := fun w h h1 h2 => by
    have := (sub_nI (x := nI w) (g := h) (by rw [nI_toInt (by omega)]; omega) (by rw [nI_toInt (by omega)]; omega) (by omega)).1
    rw [nI_toInt (by omega)] at this
    exact this
  have after : ∀ (ρ : a_HP) (M : Nat → Int32), PI f a b σ 4 ρ → (M 0).toInt = nD f a → (M 1).toInt = nDb f a b → Rn 2 91 [some (.ref 23), some (.ref 1), some (.int (nI a)), some (.int (nI b)), some (.int (nI 4))] [] (a_sc ρ 26 M) Q := by
    intro ρ M hP m0 m1
    obtain ⟨hkp, ⟨n1, n2, n3⟩, ⟨e1, e2, e3⟩, hG⟩ := hP
    have hL' := hL
    obtain ⟨⟨l1, l2, l3⟩, -, d1, d2, d3⟩ := hL'
    have hG' : ∀ k, k ∈ OA a b 4 ∨ k ∈ OB a b 4 ∨ k ∈ OS a b 4 → (ρ.1 30 k = nI (moN f k) ∧ moN f k ≤ 9) ∧ ∀ tw, tw ≤ moN f k → ρ.1 31 (k * 10 + tw) = nI (gaN f k tw) ∧ gaN f k tw ≤ 21 := fun k hk => hG k (O_mem hk)
    simp (disch := first | assumption | omega) only [r_2_0, r_2_1, r_2_4, r_2_5, r_2_6, r_2_7, r_2_8, r_2_11, r_2_12, r_2_13, r_2_14, r_2_15, r_2_16, r_2_19, r_2_20, r_2_24, r_2_25, r_2_28, r_2_29, r_2_30, r_2_31, r_2_32, r_2_34, r_2_37, r_2_40, r_2_43, r_2_44, r_2_47, r_2_48, r_2_49, r_2_52, r_2_53, r_2_54, r_2_55, r_2_56, r_2_59, r_2_60, r_2_61, r_2_62, r_2_65, r_2_66, r_2_67, r_2_70, r_2_71, r_2_72, r_2_73, r_2_74, r_2_77, r_2_78, r_2_79, r_2_80, r_2_81, r_2_84, r_2_85, r_2_88, r_2_89, r_2_90, r_2_91, r_2_92, r_2_93, r_2_96, r_2_97, r_2_98, r_2_101, r_2_102, r_2_105, f_sub, o_bi, o_cge, o_cne, o_get, o_go, o_ial, o_ias, o_inc, o_ivv, o_lda, o_ldi, o_pi, o_put, o_ri, o_sti, acR_nx, acR_re, acR_ca, acR_no, acR_if, Kc_i, Kc_n, a_lg, a_ls, a_kl, a_pk, a_sw, cw_n, cw_i, cw_l, cw_r, List.length_cons, List.length_nil, List.getElem?_cons_succ, List.getElem?_cons_zero, ↓reduceIte, decide_true, decide_false, Bool.false_eq_true, or_true, true_or, or_false, false_or, or_self, and_true, true_and, not_true_eq_false, not_false_eq_true, Nat.reduceEqDiff, Nat.reduceLT, Nat.reduceLeDiff, Nat.reduceAdd, Nat.reduceSub, Nat.reduceMul, Nat.reduceDiv, Nat.reduceMod, Nat.zero_add, Nat.add_zero, ly_23]
    refine c_fillCostsR (s := 0) (f := f) (by omega) l1 (ρ := a_sc ρ 26 M) (fun k hk => (d1 k hk).1) n1 (fun i hi => by rw [Nat.zero_mul, Nat.zero_add]; exact e1 i hi) (fun k hk => hG' k (Or.inl hk)) _ (fun T1 t1 t2 => ?_)
    simp (disch := first | assumption | omega) only [r_2_0, r_2_1, r_2_4, r_2_5, r_2_6, r_2_7, r_2_8, r_2_11, r_2_12, r_2_13, r_2_14, r_2_15, r_2_16, r_2_19, r_2_20, r_2_24, r_2_25, r_2_28, r_2_29, r_2_30, r_2_31, r_2_32, r_2_34, r_2_37, r_2_40, r_2_43, r_2_44, r_2_47, r_2_48, r_2_49, r_2_52, r_2_53, r_2_54, r_2_55, r_2_56, r_2_59, r_2_60, r_2_61, r_2_62, r_2_65, r_2_66, r_2_67, r_2_70, r_2_71, r_2_72, r_2_73, r_2_74, r_2_77, r_2_78, r_2_79, r_2_80, r_2_81, r_2_84, r_2_85, r_2_88, r_2_89, r_2_90, r_2_91, r_2_92, r_2_93, r_2_96, r_2_97, r_2_98, r_2_101, r_2_102, r_2_105, f_sub, o_bi, o_cge, o_cne, o_get, o_go, o_ial, o_ias, o_inc, o_ivv, o_lda, o_ldi, o_pi, o_put, o_ri, o_sti, acR_nx, acR_re, acR_ca, acR_no, acR_if, Kc_i, Kc_n, a_lg, a_ls, a_kl, a_pk, a_sw, cw_n, cw_i, cw_l, cw_r, List.length_cons, List.length_nil, List.getElem?_cons_succ, List.getElem?_cons_zero, ↓reduceIte, decide_true, decide_false, Bool.false_eq_true, or_true, true_or, or_false, false_or, or_self, and_true, true_and, not_true_eq_false, not_false_eq_true, Nat.reduceEqDiff, Nat.reduceLT, Nat.reduceLeDiff, Nat.reduceAdd, Nat.reduceSub, Nat.reduceMul, Nat.reduceDiv, Nat.reduceMod, Nat.zero_add, Nat.add_zero, ly_23]
    refine c_fillCostsR (s := 1) (f := f) (by omega) l2 (ρ := a_sc (a_sc ρ 26 M) 32 T1) (fun k hk => (d2 k hk).1) n2 (fun i hi => e2 i hi) (fun k hk => hG' k (Or.inr (Or.inl hk))) _ (fun T2 u1 u2 => ?_)
    simp (disch := first | assumption | omega) only [r_2_0, r_2_1, r_2_4, r_2_5, r_2_6, r_2_7, r_2_8, r_2_11, r_2_12, r_2_13, r_2_14, r_2_15, r_2_16, r_2_19, r_2_20, r_2_24, r_2_25, r_2_28, r_2_29, r_2_30, r_2_31, r_2_32, r_2_34, r_2_37, r_2_40, r_2_43, r_2_44, r_2_47, r_2_48, r_2_49, r_2_52, r_2_53, r_2_54, r_2_55, r_2_56, r_2_59, r_2_60, r_2_61, r_2_62, r_2_65, r_2_66, r_2_67, r_2_70, r_2_71, r_2_72, r_2_73, r_2_74, r_2_77, r_2_78, r_2_79, r_2_80, r_2_81, r_2_84, r_2_85, r_2_88, r_2_89, r_2_90, r_2_91, r_2_92, r_2_93, r_2_96, r_2_97, r_2_98, r_2_101, r_2_102, r_2_105, f_sub, o_bi, o_cge, o_cne, o_get, o_go, o_ial, o_ias, o_inc, o_ivv, o_lda, o_ldi, o_pi, o_put, o_ri, o_sti, acR_nx, acR_re, acR_ca, acR_no, acR_if, Kc_i, Kc_n, a_lg, a_ls, a_kl, a_pk, a_sw, cw_n, cw_i, cw_l, cw_r, List.length_cons, List.length_nil, List.getElem?_cons_succ, List.getElem?_cons_zero, ↓reduceIte, decide_true, decide_false, Bool.false_eq_true, or_true, true_or, or_false, false_or, or_self, and_true, true_and, not_true_eq_false, not_false_eq_true, Nat.reduceEqDiff, Nat.reduceLT, Nat.reduceLeDiff, Nat.reduceAdd, Nat.reduceSub, Nat.reduceMul, Nat.reduceDiv, Nat.reduceMod, Nat.zero_add, Nat.add_zero, ly_23]
    have hM : MSt f (OA a b 4) (OB a b 4) (OS a b 4) (nD f a) (nDb f a b) (a_sc (a_sc (a_sc ρ 26 M) 32 T1) 32 T2) := by
      refine ⟨⟨n1, n2, n3⟩, ⟨e1, e2, e3⟩, hG', ⟨fun i l hi hl => ?_, u1⟩, ⟨m0, ?_, ?_⟩, m1, ?_, ?_⟩
      · show T2 ((0 * 5 + i) * 31 + l) = _
        rw [u2 _ (by omega)]
        exact t1 i l hi hl
      · unfold nD; omega
      · unfold nD; omega
      · unfold nDb nD; split <;> omega
      · unfold nDb nD; split <;> omega
    refine c_leastOverShared hL hM _ (fun ρ2 best hs hJ => ?_)
    simp (disch := first | assumption | omega) only [r_2_0, r_2_1, r_2_4, r_2_5, r_2_6, r_2_7, r_2_8, r_2_11, r_2_12, r_2_13, r_2_14, r_2_15, r_2_16, r_2_19, r_2_20, r_2_24, r_2_25, r_2_28, r_2_29, r_2_30, r_2_31, r_2_32, r_2_34, r_2_37, r_2_40, r_2_43, r_2_44, r_2_47, r_2_48, r_2_49, r_2_52, r_2_53, r_2_54, r_2_55, r_2_56, r_2_59, r_2_60, r_2_61, r_2_62, r_2_65, r_2_66, r_2_67, r_2_70, r_2_71, r_2_72, r_2_73, r_2_74, r_2_77, r_2_78, r_2_79, r_2_80, r_2_81, r_2_84, r_2_85, r_2_88, r_2_89, r_2_90, r_2_91, r_2_92, r_2_93, r_2_96, r_2_97, r_2_98, r_2_101, r_2_102, r_2_105, f_sub, o_bi, o_cge, o_cne, o_get, o_go, o_ial, o_ias, o_inc, o_ivv, o_lda, o_ldi, o_pi, o_put, o_ri, o_sti, acR_nx, acR_re, acR_ca, acR_no, acR_if, Kc_i, Kc_n, a_lg, a_ls, a_kl, a_pk, a_sw, cw_n, cw_i, cw_l, cw_r, List.length_cons, List.length_nil, List.getElem?_cons_succ, List.getElem?_cons_zero, ↓reduceIte, decide_true, decide_false, Bool.false_eq_true, or_true, true_or, or_false, false_or, or_self, and_true, true_and, not_true_eq_false, not_false_eq_true, Nat.reduceEqDiff, Nat.reduceLT, Nat.reduceLeDiff, Nat.reduceAdd, Nat.reduceSub, Nat.reduceMul, Nat.reduceDiv, Nat.reduceMod, Nat.zero_add, Nat.add_zero]
    refine hQ ρ2 best ⟨fun x hx => ?_, ?_⟩ hJ
    · rw [hs.1 x (by omega) (by omega)]
      have x26 : ¬ x = 26 := by omega
      have x32 : ¬ x = 32 := by omega
      simp only [sc_1, x26, x32, if_false]
      exact hkp.1 x (by omega) (by omega) (by omega) (by omega) (by omega) (by omega)
    · rw [hs.2]; exact hkp.2
  have key := lp_dn (C := fun i => ∀ ρ : a_HP, PI f a b σ i ρ → Rn 2 22 [some (.ref 23), some (.ref 1), some (.int (nI a)), some (.int (nI b)), some (.int (nI i))] [] ρ Q) 4 (fun ρ hP => by
    rw [r_2_22]
    have hkp := hP.1
    have k1 : ρ.1 1 = σ.1 1 := hkp.1 1 (by omega) (by omega) (by omega) (by omega) (by omega) (by omega)
    have k2 : ρ.1 2 = σ.1 2 := hkp.1 2 (by omega) (by omega) (by omega) (by omega) (by omega) (by omega)
    have k3 : ρ.1 3 = σ.1 3 := hkp.1 3 (by omega) (by omega) (by omega) (by omega) (by omega) (by omega)
    have k5 : ρ.1 5 = σ.1 5 := hkp.1 5 (by omega) (by omega) (by omega) (by omega) (by omega) (by omega)
    have w5a : ρ.1 5 a = nI (wdN f a) := by rw [k5, he.2.2 a ha, wa1]
    have w5b : ρ.1 5 b = nI (wdN f b) := by rw [k5, he.2.2 b hb, wb1]
    have ca := c_clauseHolds aN_1 ha
    have cb := c_clauseHolds aN_1 hb
    have cca : ∀ X Q, Cl 24 [.ref 1, .int (nI a)] (a_sc ρ 26 X) Q = Q (some (.int (nI (hN f a)))) (a_sc ρ 26 X) := fun X Q => by
      rw [ca]
      have : pC ((a_sc ρ 26 X).1 1 0) ((a_sc ρ 26 X).1 (1 + 1)) ((a_sc ρ 26 X).1 (1 + 2)) a = nI (hN f a) := by
        rw [← pa1]
        refine pC_c ?_ (fun k hk => ?_) (fun k hk => ?_) ha
        · show ρ.1 1 0 = _; rw [k1]; exact he.1 0 (by omega)
        · show ρ.1 2 k = _; rw [k2]; exact (he.2.1 k hk).1
        · show ρ.1 3 k = _; rw [k3]; exact (he.2.1 k hk).2.1
      rw [this]
    have ccb : ∀ X Q, Cl 24 [.ref 1, .int (nI b)] (a_sc ρ 26 X) Q = Q (some (.int (nI (hN f b)))) (a_sc ρ 26 X) := fun X Q => by
      rw [cb]
      have : pC ((a_sc ρ 26 X).1 1 0) ((a_sc ρ 26 X).1 (1 + 1)) ((a_sc ρ 26 X).1 (1 + 2)) b = nI (hN f b) := by
        rw [← pb1]
        refine pC_c ?_ (fun k hk => ?_) (fun k hk => ?_) hb
        · show ρ.1 1 0 = _; rw [k1]; exact he.1 0 (by omega)
        · show ρ.1 2 k = _; rw [k2]; exact (he.2.1 k hk).1
        · show ρ.1 3 k = _; rw [k3]; exact (he.2.1 k hk).2.1
      rw [this]
    have cca0 : ∀ Q, Cl 24 [.ref 1, .int (nI a)] ρ Q = Q (some (.int (nI (hN f a)))) ρ := fun Q => by
      have := cca (ρ.1 26) Q
      rw [sc_id] at this
      exact this
    by_cases eab : a = b
    · have af := after ρ (upd (upd (upd (ρ.1 26) 0 (nI (wdN f a) - nI (hN f a))) 1 (nI (wdN f b) - nI (hN f b))) 1 (nI 0)) hP (by
        simp only [ud_1, Nat.reduceEqDiff, if_true, if_false]
        exact subI _ _ wa2 pa2) (by
        simp only [ud_1, if_true]
        unfold nDb
        rw [if_pos eab, nI_toInt (by omega)]
        rfl)
      simp (disch := first | assumption | omega) only [r_2_0, r_2_1, r_2_4, r_2_5, r_2_6, r_2_7, r_2_8, r_2_11, r_2_12, r_2_13, r_2_14, r_2_15, r_2_16, r_2_19, r_2_20, r_2_24, r_2_25, r_2_28, r_2_29, r_2_30, r_2_31, r_2_32, r_2_34, r_2_37, r_2_40, r_2_43, r_2_44, r_2_47, r_2_48, r_2_49, r_2_52, r_2_53, r_2_54, r_2_55, r_2_56, r_2_59, r_2_60, r_2_61, r_2_62, r_2_65, r_2_66, r_2_67, r_2_70, r_2_71, r_2_72, r_2_73, r_2_74, r_2_77, r_2_78, r_2_79, r_2_80, r_2_81, r_2_84, r_2_85, r_2_88, r_2_89, r_2_90, r_2_92, r_2_93, r_2_96, r_2_97, r_2_98, r_2_101, r_2_102, r_2_105, f_sub, o_bi, o_cge, o_cne, o_get, o_go, o_ial, o_ias, o_inc, o_ivv, o_lda, o_ldi, o_pi, o_put, o_ri, o_sti, o_ldi, acR_nx, acR_re, acR_ca, acR_no, acR_if, Kc_i, Kc_n, a_lg, a_ls, a_kl, a_pk, a_sw, cw_n, cw_i, cw_l, cw_r, List.length_cons, List.length_nil, List.getElem?_cons_succ, List.getElem?_cons_zero, ↓reduceIte, decide_true, decide_false, Bool.false_eq_true, or_true, true_or, or_false, false_or, or_self, and_true, true_and, not_true_eq_false, not_false_eq_true, Nat.reduceEqDiff, Nat.reduceLT, Nat.reduceLeDiff, Nat.reduceAdd, Nat.reduceSub, Nat.reduceMul, Nat.reduceDiv, Nat.reduceMod, Nat.zero_add, Nat.add_zero, n_z, n_1, n_lt, n_eq, n_in, n_cl, ly_1, ly_5, ly_23, ly_26, ha, hb, w5a, w5b, cca0, ccb, wi_sc, sc_1, sc_sc]
      rw [if_pos eab]
      exact af
    · have af := after ρ (upd (upd (ρ.1 26) 0 (nI (wdN f a) - nI (hN f a))) 1 (nI (wdN f b) - nI (hN f b))) hP (by
        simp only [ud_1, Nat.reduceEqDiff, if_true, if_false]
        exact subI _ _ wa2 pa2) (by
        simp only [ud_1, if_true]
        unfold nDb
        rw [if_neg eab]
        exact subI _ _ wb2 pb2)
      simp (disch := first | assumption | omega) only [r_2_0, r_2_1, r_2_4, r_2_5, r_2_6, r_2_7, r_2_8, r_2_11, r_2_12, r_2_13, r_2_14, r_2_15, r_2_16, r_2_19, r_2_20, r_2_24, r_2_25, r_2_28, r_2_29, r_2_30, r_2_31, r_2_32, r_2_34, r_2_37, r_2_40, r_2_43, r_2_44, r_2_47, r_2_48, r_2_49, r_2_52, r_2_53, r_2_54, r_2_55, r_2_56, r_2_59, r_2_60, r_2_61, r_2_62, r_2_65, r_2_66, r_2_67, r_2_70, r_2_71, r_2_72, r_2_73, r_2_74, r_2_77, r_2_78, r_2_79, r_2_80, r_2_81, r_2_84, r_2_85, r_2_88, r_2_89, r_2_90, r_2_92, r_2_93, r_2_96, r_2_97, r_2_98, r_2_101, r_2_102, r_2_105, f_sub, o_bi, o_cge, o_cne, o_get, o_go, o_ial, o_ias, o_inc, o_ivv, o_lda, o_ldi, o_pi, o_put, o_ri, o_sti, o_ldi, acR_nx, acR_re, acR_ca, acR_no, acR_if, Kc_i, Kc_n, a_lg, a_ls, a_kl, a_pk, a_sw, cw_n, cw_i, cw_l, cw_r, List.length_cons, List.length_nil, List.getElem?_cons_succ, List.getElem?_cons_zero, ↓reduceIte, decide_true, decide_false, Bool.false_eq_true, or_true, true_or, or_false, false_or, or_self, and_true, true_and, not_true_eq_false, not_false_eq_true, Nat.reduceEqDiff, Nat.reduceLT, Nat.reduceLeDiff, Nat.reduceAdd, Nat.reduceSub, Nat.reduceMul, Nat.reduceDiv, Nat.reduceMod, Nat.zero_add, Nat.add_zero, n_z, n_1, n_lt, n_eq, n_in, n_cl, ly_1, ly_5, ly_23, ly_26, ha, hb, w5a, w5b, cca0, ccb, wi_sc, sc_1, sc_sc, eab]
      exact af) (fun i hi ih ρ hP => by
    rw [r_2_22]
    simp (disch := first | assumption | omega) only [r_2_0, r_2_1, r_2_4, r_2_5, r_2_6, r_2_7, r_2_8, r_2_11, r_2_12, r_2_13, r_2_14, r_2_15, r_2_16, r_2_19, r_2_20, r_2_24, r_2_25, r_2_28, r_2_29, r_2_30, r_2_31, r_2_32, r_2_34, r_2_37, r_2_40, r_2_43, r_2_44, r_2_47, r_2_48, r_2_49, r_2_52, r_2_53, r_2_54, r_2_55, r_2_56, r_2_59, r_2_60, r_2_61, r_2_62, r_2_65, r_2_66, r_2_67, r_2_70, r_2_71, r_2_72, r_2_73, r_2_74, r_2_77, r_2_78, r_2_79, r_2_80, r_2_81, r_2_84, r_2_85, r_2_88, r_2_89, r_2_90, r_2_92, r_2_93, r_2_96, r_2_97, r_2_98, r_2_101, r_2_102, r_2_105, f_sub, o_bi, o_cge, o_cne, o_get, o_go, o_ial, o_ias, o_inc, o_ivv, o_lda, o_ldi, o_pi, o_put, o_ri, o_sti, o_ldi, acR_nx, acR_re, acR_ca, acR_no, acR_if, Kc_i, Kc_n, a_lg, a_ls, a_kl, a_pk, a_sw, cw_n, cw_i, cw_l, cw_r, List.length_cons, List.length_nil, List.getElem?_cons_succ, List.getElem?_cons_zero, ↓reduceIte, decide_true, decide_false, Bool.false_eq_true, or_true, true_or, or_false, false_or, or_self, and_true, true_and, not_true_eq_false, not_false_eq_true, Nat.reduceEqDiff, Nat.reduceLT, Nat.reduceLeDiff, Nat.reduceAdd, Nat.reduceSub, Nat.reduceMul, Nat.reduceDiv, Nat.reduceMod, Nat.zero_add, Nat.add_zero, n_z, n_1, n_lt, n_eq, n_in, n_cl, ly_23, hi]
    refine c_listCorners he hv ha hb hi hP _ (fun ρ' hP' => ?_)
    simp (disch := first | assumption | omega) only [r_2_0, r_2_1, r_2_4, r_2_5, r_2_6, r_2_7, r_2_8, r_2_11, r_2_12, r_2_13, r_2_14, r_2_15, r_2_16, r_2_19, r_2_20, r_2_24, r_2_25, r_2_28, r_2_29, r_2_30, r_2_31, r_2_32, r_2_34, r_2_37, r_2_40, r_2_43, r_2_44, r_2_47, r_2_48, r_2_49, r_2_52, r_2_53, r_2_54, r_2_55, r_2_56, r_2_59, r_2_60, r_2_61, r_2_62, r_2_65, r_2_66, r_2_67, r_2_70, r_2_71, r_2_72, r_2_73, r_2_74, r_2_77, r_2_78, r_2_79, r_2_80, r_2_81, r_2_84, r_2_85, r_2_88, r_2_89, r_2_90, r_2_92, r_2_93, r_2_96, r_2_97, r_2_98, r_2_101, r_2_102, r_2_105, f_sub, o_bi, o_cge, o_cne, o_get, o_go, o_ial, o_ias, o_inc, o_ivv, o_lda, o_ldi, o_pi, o_put, o_ri, o_sti, o_ldi, acR_nx, acR_re, acR_ca, acR_no, acR_if, Kc_i, Kc_n, a_lg, a_ls, a_kl, a_pk, a_sw, cw_n, cw_i, cw_l, cw_r, List.length_cons, List.length_nil, List.getElem?_cons_succ, List.getElem?_cons_zero, ↓reduceIte, decide_true, decide_false, Bool.false_eq_true, or_true, true_or, or_false, false_or, or_self, and_true, true_and, not_true_eq_false, not_false_eq_true, Nat.reduceEqDiff, Nat.reduceLT, Nat.reduceLeDiff, Nat.reduceAdd, Nat.reduceSub, Nat.reduceMul, Nat.reduceDiv, Nat.reduceMod, Nat.zero_add, Nat.add_zero, n_z, n_1, n_ltz, n_zlt, n_lt, n_eq, n_cl, n_in, nI_add, pk_mul, n_div, n_sub, nm_mod]
    exact ih ρ' hP')
  simp (disch := first | assumption | omega) only [cl_2, r_2_0, r_2_1, r_2_4, r_2_5, r_2_6, r_2_7, r_2_8, r_2_11, r_2_12, r_2_13, r_2_14, r_2_15, r_2_16, r_2_19, r_2_20, r_2_24, r_2_25, r_2_28, r_2_29, r_2_30, r_2_31, r_2_32, r_2_34, r_2_37, r_2_40, r_2_43, r_2_44, r_2_47, r_2_48, r_2_49, r_2_52, r_2_53, r_2_54, r_2_55, r_2_56, r_2_59, r_2_60, r_2_61, r_2_62, r_2_65, r_2_66, r_2_67, r_2_70, r_2_71, r_2_72, r_2_73, r_2_74, r_2_77, r_2_78, r_2_79, r_2_80, r_2_81, r_2_84, r_2_85, r_2_88, r_2_89, r_2_90, r_2_91, r_2_92, r_2_93, r_2_96, r_2_97, r_2_98, r_2_101, r_2_102, r_2_105, f_sub, o_bi, o_cge, o_cne, o_get, o_go, o_ial, o_ias, o_inc, o_ivv, o_lda, o_ldi, o_pi, o_put, o_ri, o_sti, acR_nx, acR_re, acR_ca, acR_no, acR_if, Kc_i, Kc_n, a_lg, a_ls, a_kl, a_pk, a_sw, cw_n, cw_i, cw_l, cw_r, List.length_cons, List.length_nil, List.getElem?_cons_succ, List.getElem?_cons_zero, ↓reduceIte, decide_true, decide_false, Bool.false_eq_true, or_true, true_or, or_false, false_or, or_self, and_true, true_and, not_true_eq_false, not_false_eq_true, Nat.reduceEqDiff, Nat.reduceLT, Nat.reduceLeDiff, Nat.reduceAdd, Nat.reduceSub, Nat.reduceMul, Nat.reduceDiv, Nat.reduceMod, Nat.zero_add, Nat.add_zero, n_z, n_1, n_ltz, n_zlt, n_lt, n_eq, n_cl, n_in, nI_add, pk_mul, n_div, n_sub, nm_mod, ly_23, ly_28, wi_sc, sc_1, sc_sc]
  refine key _ ⟨⟨fun x x1 x2 x3 x4 x5 x6 => by simp only [sc_1, x1, x3, if_false], rfl⟩, ⟨?_, ?_, ?_⟩, ⟨fun j hj => ?_, fun j hj => ?_, fun j hj => ?_⟩, fun k hk => ?_⟩
  · show upd (upd (σ.1 28) 0 (nI 0)) 1 (nI 0) 0 = nI 0
    rw [ud_1, if_neg (by omega), ud_1, if_pos rfl]
  · show upd (upd (σ.1 28) 0 (nI 0)) 1 (nI 0) 1 = nI 0
    rw [ud_1, if_pos rfl]
  · show upd (σ.1 23) 6 (nI 0) 6 = nI 0
    rw [ud_1, if_pos rfl]
  · simp [OA] at hj
  · simp [OB] at hj
  · simp [OS] at hj
  · obtain ⟨j, hj, -⟩ := hk
    omega
