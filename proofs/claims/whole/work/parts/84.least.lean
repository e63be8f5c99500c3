/-! least: both tell the same -/
theorem dS_app (v : Nat → Nat) : ∀ L L' : List Nat, dS' v (L ++ L') = dS' v L + dS' v L'
  | [], L' => by simp [dS']
  | k :: L, L' => by
    simp only [List.cons_append, dS']
    rw [dS_app v L L']
    omega
theorem dS_perm (v : Nat → Nat) {L L' : List Nat} (h : L.Perm L') : dS' v L = dS' v L' := by
  induction h with
  | nil => rfl
  | cons x _ ih => simp only [dS']; rw [ih]
  | swap x y l => simp only [dS']; omega
  | trans _ _ ih1 ih2 => rw [ih1, ih2]
theorem dS_fil (v : Nat → Nat) (p : Nat → Bool) : ∀ L : List Nat, dS' (fun k => if p k = true then v k else 0) L = dS' v (L.filter p)
  | [] => rfl
  | k :: L => by
    have ih := dS_fil v p L
    cases q : p k with
    | true =>
      rw [List.filter_cons_of_pos (by rw [q])]
      simp only [dS', q, if_true]
      rw [ih]
    | false =>
      rw [List.filter_cons_of_neg (by rw [q]; decide)]
      simp only [dS', q, Bool.false_eq_true, if_false]
      rw [ih]
      omega
theorem dS_add (u v : Nat → Nat) : ∀ L : List Nat, dS' (fun k => u k + v k) L = dS' u L + dS' v L
  | [] => rfl
  | k :: L => by
    simp only [dS']
    rw [dS_add u v L]
    omega
theorem dR_M (f : Nat → Int32) (a b : Nat) (B : Nat → Nat) : ∀ (L : List Nat) (x y : Nat), dR (stM f a b) B L (x, y) = (x - dS' (fun k => if hK a k = true then byN f k (B k) else 0) L, y - dS' (fun k => if hK b k = true then byN f k (B k) else 0) L)
  | [], x, y => by simp only [dR, dS', Nat.sub_zero]
  | k :: L, x, y => by
    simp only [dR, dS', stM]
    rw [dR_M f a b B L]
    cases qa : hK a k <;> cases qb : hK b k
    all_goals simp only [Bool.false_eq_true, if_true, if_false, Nat.zero_add, Nat.sub_sub]
theorem P_a : ∀ a b : Fin 9, ((KL a.val b.val 16).filter (hK a.val)).Perm (OA a.val b.val 4 ++ OS a.val b.val 4) := by decide +kernel
theorem P_b : ∀ a b : Fin 9, a.val ≠ b.val → ((KL a.val b.val 16).filter (hK b.val)).Perm (OB a.val b.val 4 ++ OS a.val b.val 4) := by decide +kernel
theorem P_all : ∀ a b : Fin 9, (KL a.val b.val 16).Perm (OS a.val b.val 4 ++ (OA a.val b.val 4 ++ OB a.val b.val 4)) := by decide +kernel
theorem P_ca : ∀ a b : Fin 9, (OA a.val b.val 4 ++ OS a.val b.val 4).Perm [kA a.val 0, kA a.val 1, kA a.val 2, kA a.val 3] := by decide +kernel
theorem P_cb : ∀ a b : Fin 9, a.val ≠ b.val → (OB a.val b.val 4 ++ OS a.val b.val 4).Perm [kA b.val 0, kA b.val 1, kA b.val 2, kA b.val 3] := by decide +kernel
theorem KL_iff {a b : Nat} (ha : a < 9) (hb : b < 9) (k : Nat) : k ∈ KL a b 16 ↔ k ∈ OA a b 4 ∨ k ∈ OB a b 4 ∨ k ∈ OS a b 4 := by
  have := (P_all ⟨a, ha⟩ ⟨b, hb⟩).mem_iff (a := k)
  dsimp only at this
  rw [this, List.mem_append, List.mem_append]
  constructor
  · rintro (h | h | h)
    · exact Or.inr (Or.inr h)
    · exact Or.inl h
    · exact Or.inr (Or.inl h)
  · rintro (h | h | h)
    · exact Or.inr (Or.inl h)
    · exact Or.inr (Or.inr h)
    · exact Or.inl h
theorem hN_sum (f : Nat → Int32) (c : Nat) : dS' (fun k => byN f k 0) [kA c 0, kA c 1, kA c 2, kA c 3] = hN f c := by
  simp only [dS', hN]
  omega
theorem by_sum {N : Nat} {f : Nat → Int32} (hv : vN N f) {B : Nat → Nat} {L : List Nat} (hB : ∀ k, k ∈ L → k < 16 ∧ B k ≤ moN f k) : dS' (fun k => byN f k (B k)) L = dS' (fun k => byN f k 0) L + dS' (gaB f B) L := by
  rw [← dS_add]
  refine dS_c _ _ L (fun k hk => ?_)
  have := (ga_ok hv (hB k hk).1 (hB k hk).2).1
  unfold gaB gaN
  omega
theorem Gd_iff {N : Nat} {f : Nat → Int32} (hv : vN N f) {a b : Nat} (ha : a < 9) (hb : b < 9) {B : Nat → Nat} (hB : ∀ k, k ∈ KL a b 16 → B k ≤ moN f k) : okM (dR (stM f a b) B (KL a b 16) (wdN f a, wdN f b)) = true ↔ nD f a ≤ ((dS' (gaB f B) (OS a b 4) + dS' (gaB f B) (OA a b 4) : Nat) : Int) ∧ nDb f a b ≤ ((dS' (gaB f B) (OS a b 4) + dS' (gaB f B) (OB a b 4) : Nat) : Int) := by
  have hB' : ∀ k, k ∈ OA a b 4 ∨ k ∈ OB a b 4 ∨ k ∈ OS a b 4 → k < 16 ∧ B k ≤ moN f k := fun k hk => ⟨(KL_mem ((KL_iff ha hb k).mpr hk)).1, hB k ((KL_iff ha hb k).mpr hk)⟩
  have sA := dS_perm (fun k => byN f k (B k)) (P_a ⟨a, ha⟩ ⟨b, hb⟩)
  have bA := by_sum hv (B := B) (L := OA a b 4 ++ OS a b 4) (fun k hk => hB' k (by
    rcases List.mem_append.mp hk with h | h
    · exact Or.inl h
    · exact Or.inr (Or.inr h)))
  have zA := dS_perm (fun k => byN f k 0) (P_ca ⟨a, ha⟩ ⟨b, hb⟩)
  dsimp only at sA zA
  rw [hN_sum] at zA
  rw [zA, dS_app (gaB f B)] at bA
  rw [dR_M, dS_fil _ (hK a), dS_fil _ (hK b), sA, bA]
  unfold okM
  simp only [decide_eq_true_eq]
  by_cases e : a = b
  · have sB : dS' (fun k => byN f k (B k)) ((KL a b 16).filter (hK b)) = dS' (fun k => byN f k (B k)) ((KL a b 16).filter (hK a)) := by rw [e]
    have wB : wdN f b = wdN f a := by rw [e]
    rw [sB, wB, sA, bA]
    unfold nDb nD
    rw [if_pos e]
    omega
  · have sB := dS_perm (fun k => byN f k (B k)) (P_b ⟨a, ha⟩ ⟨b, hb⟩ e)
    have bB := by_sum hv (B := B) (L := OB a b 4 ++ OS a b 4) (fun k hk => hB' k (by
      rcases List.mem_append.mp hk with h | h
      · exact Or.inr (Or.inl h)
      · exact Or.inr (Or.inr h)))
    have zB := dS_perm (fun k => byN f k 0) (P_cb ⟨a, ha⟩ ⟨b, hb⟩ e)
    dsimp only at sB zB
    rw [hN_sum] at zB
    rw [zB, dS_app (gaB f B)] at bB
    rw [sB, bB]
    unfold nDb nD
    rw [if_neg e]
    omega
theorem dG_out {S : Type} (m : Nat → Nat) (st : Nat → Nat → S → S) (ok : S → Bool) (F : Nat) : ∀ (L : List Nat) (s : S) (x : Nat), x ∉ L → dG m st ok F L s x = 0
  | [], _, _, _ => rfl
  | k :: L, s, x, h => by
    have h1 : ¬ x = k := fun e => h (by rw [e]; exact List.mem_cons_self)
    have h2 : x ∉ L := fun e => h (List.mem_cons_of_mem _ e)
    simp only [dG, h1, if_false]
    exact dG_out m st ok F L _ x h2
theorem least_eq {N : Nat} {f : Nat → Int32} (hv : vN N f) {a b : Nat} (ha : a < 9) (hb : b < 9) {best : Nat} {bR : Nat → Int32} (hJ : JJ f (OA a b 4) (OB a b 4) (OS a b 4) (nD f a) (nDb f a b) (fun _ _ => True) best bR) : (best < 1000 ∧ dM f a b 0 (wdN f a) (wdN f b) = best ∧ best ≤ 90 ∧ ∀ k, k < 16 → bR k = nI (gLm f a b 0 (wdN f a) (wdN f b) k)) ∨ (¬ best < 1000 ∧ ¬ dM f a b 0 (wdN f a) (wdN f b) < 1000000) := by
  have hL : LL (OA a b 4) (OB a b 4) (OS a b 4) := O_LL ⟨a, ha⟩ ⟨b, hb⟩
  have mem := KL_iff ha hb
  have h9 : ∀ k, k ∈ OA a b 4 ∨ k ∈ OB a b 4 ∨ k ∈ OS a b 4 → moN f k ≤ 9 := fun k hk => by unfold moN; split <;> omega
  have sum : ∀ B : Nat → Nat, dS' B (KL a b 16) = sCt (OA a b 4) (OB a b 4) (OS a b 4) B := fun B => by
    have := dS_perm B (P_all ⟨a, ha⟩ ⟨b, hb⟩)
    dsimp only at this
    rw [this, dS_app, dS_app]
    unfold sCt
    omega
  have low : ∀ B : Nat → Nat, GdC f (OA a b 4) (OB a b 4) (OS a b 4) (nD f a) (nDb f a b) B → dM f a b 0 (wdN f a) (wdN f b) ≤ sCt (OA a b 4) (OB a b 4) (OS a b 4) B := fun B hB => by
    rw [← sum]
    have h1 : ∀ k, k ∈ KL a b 16 → B k ≤ moN f k := fun k hk => hB.1 k ((mem k).mp hk)
    exact dC_low (moN f) (stM f a b) okM 1000000 B (KL a b 16) _ h1 ((Gd_iff hv ha hb h1).mpr hB.2.2)
  obtain ⟨j1, b', j2, j3⟩ := hJ
  by_cases q : dM f a b 0 (wdN f a) (wdN f b) < 1000000
  · obtain ⟨i1, i2, i3, i4⟩ := dG_ok (moN f) (stM f a b) okM 1000000 (KL a b 16) (wdN f a, wdN f b) (KL_asc a b 16) q
    have hG : GdC f (OA a b 4) (OB a b 4) (OS a b 4) (nD f a) (nDb f a b) (gLm f a b 0 (wdN f a) (wdN f b)) := ⟨fun k hk => i1 k ((mem k).mpr hk), fun k hk => dG_out _ _ _ _ _ _ k (fun z => hk ((mem k).mp z)), (Gd_iff hv ha hb i1).mp i2⟩
    have sG : sCt (OA a b 4) (OB a b 4) (OS a b 4) (gLm f a b 0 (wdN f a) (wdN f b)) = dM f a b 0 (wdN f a) (wdN f b) := by
      rw [← sum]
      exact i3
    have g90 := (sC_le hL h9 hG).1
    obtain ⟨u1, u2⟩ := j3 _ hG trivial
    obtain ⟨g1, g2, g3⟩ := j2 (by omega)
    have lo := low b' g1
    have eq : dM f a b 0 (wdN f a) (wdN f b) = best := by omega
    refine Or.inl ⟨by omega, eq, by omega, fun k hk => ?_⟩
    have n1 := u2 (by omega)
    have n2 : ¬ lx b' (gLm f a b 0 (wdN f a) (wdN f b)) := by
      rintro ⟨k, hk, lt, bef⟩
      have kin : k ∈ KL a b 16 := by
        by_cases z : k ∈ KL a b 16
        · exact z
        · have : gLm f a b 0 (wdN f a) (wdN f b) k = 0 := dG_out _ _ _ _ _ _ k z
          omega
      have h1 : ∀ k, k ∈ KL a b 16 → b' k ≤ moN f k := fun k hk => g1.1 k ((mem k).mp hk)
      exact i4 b' h1 ((Gd_iff hv ha hb h1).mpr g1.2.2) (by rw [sum, g2]; exact eq.symm) ⟨k, kin, lt, fun j _ hj => bef j hj⟩
    rw [(g3 k hk).1]
    rcases lx_tri b' (gLm f a b 0 (wdN f a) (wdN f b)) with t | t | t
    · rw [t k hk]
    · exact absurd t n2
    · exact absurd t n1
  · refine Or.inr ⟨fun z => ?_, q⟩
    obtain ⟨g1, g2, g3⟩ := j2 z
    have lo := low b' g1
    have g90 := (sC_le hL h9 g1).1
    omega
theorem pr_least {N : Nat} {σ : a_HP} (h : Inv N σ) (a b k : Int32) : Pair N 69 179 [.int a, .int b, .int k] σ := by
  unfold Pair
  by_cases hca : a < nI 0 ∨ nI 8 < a
  · simp (disch := first | assumption | omega) only [cl_69, r_69_0, r_69_1, r_69_4, r_69_7, r_69_8, r_69_11, r_69_14, r_69_15, r_69_16, r_69_18, r_69_21, r_69_24, r_69_25, r_69_28, r_69_29, r_69_30, r_69_33, r_69_34, r_69_37, r_69_38, r_69_39, r_69_42, r_69_44, r_69_46, r_69_47, r_69_50, r_69_52, r_69_53, r_69_54, r_69_55, r_69_58, r_69_60, r_69_63, r_69_64, r_69_67, r_69_70, r_69_71, r_69_72, o_cne, o_eq, o_get, o_go, o_ial, o_ivs, o_ivv, o_lda, o_ldi, o_ne, o_pi, o_ri, o_sti, cl_179, r_179_0, r_179_1, r_179_4, r_179_7, r_179_8, r_179_11, r_179_14, r_179_15, r_179_16, r_179_19, r_179_22, r_179_25, r_179_28, r_179_29, r_179_31, r_179_34, r_179_35, r_179_36, r_179_37, r_179_38, r_179_41, r_179_43, r_179_44, r_179_45, r_179_46, r_179_48, r_179_51, r_179_52, r_179_55, r_179_57, r_179_58, r_179_59, r_179_60, r_179_62, r_179_63, r_179_66, r_179_68, r_179_69, r_179_70, r_179_71, r_179_73, r_179_74, r_179_77, r_179_78, r_179_80, r_179_82, r_179_85, r_179_86, r_179_88, r_179_90, r_179_92, r_179_95, r_179_97, r_179_98, r_179_99, r_179_100, r_179_103, r_179_105, r_179_106, r_179_107, r_179_111, r_179_113, r_179_116, r_179_117, r_179_120, r_179_121, r_179_122, r_179_124, r_179_126, r_179_128, r_179_130, r_179_133, r_179_134, r_179_137, r_179_139, r_179_141, r_179_143, r_179_146, r_179_147, r_179_150, r_179_153, r_179_156, r_179_157, r_179_160, r_179_162, r_179_163, r_179_165, r_179_167, r_179_168, r_179_171, r_179_173, r_179_174, r_179_175, r_179_178, r_179_180, r_179_182, r_179_183, r_179_184, r_179_186, r_179_187, r_179_190, r_179_191, r_179_193, r_179_194, r_179_195, r_179_197, r_179_200, r_179_201, r_179_204, r_179_206, r_179_208, r_179_209, r_179_210, r_179_213, r_179_214, r_179_215, r_179_216, r_179_219, r_179_221, r_179_224, r_179_227, r_179_229, r_179_230, r_179_232, r_179_235, r_179_238, r_179_240, r_179_242, r_179_245, r_179_248, r_179_250, r_179_252, r_179_253, r_179_255, r_179_258, r_179_261, r_179_263, r_179_265, r_179_268, r_179_271, r_179_273, r_179_275, r_179_278, r_179_281, r_179_282, f_add, o_bi, o_ceq, o_cge, o_clt, o_cne, o_eq, o_get, o_go, o_i2l, o_ial, o_inc, o_ivs, o_ivv, o_lda, o_ldi, o_ne, o_pi, o_pl, o_ri, o_sti, acR_nx, acR_re, acR_ca, acR_no, acR_if, Kc_i, Kc_n, a_lg, a_ls, a_kl, a_pk, a_sw, cw_n, cw_i, cw_l, cw_r, List.length_cons, List.length_nil, List.getElem?_cons_succ, List.getElem?_cons_zero, ↓reduceIte, decide_true, decide_false, Bool.false_eq_true, or_true, true_or, or_false, false_or, or_self, and_true, true_and, not_true_eq_false, not_false_eq_true, Nat.reduceEqDiff, Nat.reduceLT, Nat.reduceLeDiff, Nat.reduceAdd, Nat.reduceSub, Nat.reduceMul, Nat.reduceDiv, Nat.reduceMod, Nat.zero_add, Nat.add_zero, n_z, n_1, ly_0, ly_61, c_isClause, m_isClause, hca, c_badByTen, m_badAs]
    exact ⟨⟨_, rfl, rfl⟩, Inv_ref h (by omega)⟩
  · by_cases hcb : b < nI 0 ∨ nI 8 < b
    · simp (disch := first | assumption | omega) only [cl_69, r_69_0, r_69_1, r_69_4, r_69_7, r_69_8, r_69_11, r_69_14, r_69_15, r_69_16, r_69_18, r_69_21, r_69_24, r_69_25, r_69_28, r_69_29, r_69_30, r_69_33, r_69_34, r_69_37, r_69_38, r_69_39, r_69_42, r_69_44, r_69_46, r_69_47, r_69_50, r_69_52, r_69_53, r_69_54, r_69_55, r_69_58, r_69_60, r_69_63, r_69_64, r_69_67, r_69_70, r_69_71, r_69_72, o_cne, o_eq, o_get, o_go, o_ial, o_ivs, o_ivv, o_lda, o_ldi, o_ne, o_pi, o_ri, o_sti, cl_179, r_179_0, r_179_1, r_179_4, r_179_7, r_179_8, r_179_11, r_179_14, r_179_15, r_179_16, r_179_19, r_179_22, r_179_25, r_179_28, r_179_29, r_179_31, r_179_34, r_179_35, r_179_36, r_179_37, r_179_38, r_179_41, r_179_43, r_179_44, r_179_45, r_179_46, r_179_48, r_179_51, r_179_52, r_179_55, r_179_57, r_179_58, r_179_59, r_179_60, r_179_62, r_179_63, r_179_66, r_179_68, r_179_69, r_179_70, r_179_71, r_179_73, r_179_74, r_179_77, r_179_78, r_179_80, r_179_82, r_179_85, r_179_86, r_179_88, r_179_90, r_179_92, r_179_95, r_179_97, r_179_98, r_179_99, r_179_100, r_179_103, r_179_105, r_179_106, r_179_107, r_179_111, r_179_113, r_179_116, r_179_117, r_179_120, r_179_121, r_179_122, r_179_124, r_179_126, r_179_128, r_179_130, r_179_133, r_179_134, r_179_137, r_179_139, r_179_141, r_179_143, r_179_146, r_179_147, r_179_150, r_179_153, r_179_156, r_179_157, r_179_160, r_179_162, r_179_163, r_179_165, r_179_167, r_179_168, r_179_171, r_179_173, r_179_174, r_179_175, r_179_178, r_179_180, r_179_182, r_179_183, r_179_184, r_179_186, r_179_187, r_179_190, r_179_191, r_179_193, r_179_194, r_179_195, r_179_197, r_179_200, r_179_201, r_179_204, r_179_206, r_179_208, r_179_209, r_179_210, r_179_213, r_179_214, r_179_215, r_179_216, r_179_219, r_179_221, r_179_224, r_179_227, r_179_229, r_179_230, r_179_232, r_179_235, r_179_238, r_179_240, r_179_242, r_179_245, r_179_248, r_179_250, r_179_252, r_179_253, r_179_255, r_179_258, r_179_261, r_179_263, r_179_265, r_179_268, r_179_271, r_179_273, r_179_275, r_179_278, r_179_281, r_179_282, f_add, o_bi, o_ceq, o_cge, o_clt, o_cne, o_eq, o_get, o_go, o_i2l, o_ial, o_inc, o_ivs, o_ivv, o_lda, o_ldi, o_ne, o_pi, o_pl, o_ri, o_sti, acR_nx, acR_re, acR_ca, acR_no, acR_if, Kc_i, Kc_n, a_lg, a_ls, a_kl, a_pk, a_sw, cw_n, cw_i, cw_l, cw_r, List.length_cons, List.length_nil, List.getElem?_cons_succ, List.getElem?_cons_zero, ↓reduceIte, decide_true, decide_false, Bool.false_eq_true, or_true, true_or, or_false, false_or, or_self, and_true, true_and, not_true_eq_false, not_false_eq_true, Nat.reduceEqDiff, Nat.reduceLT, Nat.reduceLeDiff, Nat.reduceAdd, Nat.reduceSub, Nat.reduceMul, Nat.reduceDiv, Nat.reduceMod, Nat.zero_add, Nat.add_zero, n_z, n_1, ly_0, ly_61, c_isClause, m_isClause, hca, hcb, c_badByTen, m_badAs]
      exact ⟨⟨_, rfl, rfl⟩, Inv_ref h (by omega)⟩
    · by_cases hk : k < -1 ∨ nI 15 < k
      · simp (disch := first | assumption | omega) only [cl_69, r_69_0, r_69_1, r_69_4, r_69_7, r_69_8, r_69_11, r_69_14, r_69_15, r_69_16, r_69_18, r_69_21, r_69_24, r_69_25, r_69_28, r_69_29, r_69_30, r_69_33, r_69_34, r_69_37, r_69_38, r_69_39, r_69_42, r_69_44, r_69_46, r_69_47, r_69_50, r_69_52, r_69_53, r_69_54, r_69_55, r_69_58, r_69_60, r_69_63, r_69_64, r_69_67, r_69_70, r_69_71, r_69_72, o_cne, o_eq, o_get, o_go, o_ial, o_ivs, o_ivv, o_lda, o_ldi, o_ne, o_pi, o_ri, o_sti, cl_179, r_179_0, r_179_1, r_179_4, r_179_7, r_179_8, r_179_11, r_179_14, r_179_15, r_179_16, r_179_19, r_179_22, r_179_25, r_179_28, r_179_29, r_179_31, r_179_34, r_179_35, r_179_36, r_179_37, r_179_38, r_179_41, r_179_43, r_179_44, r_179_45, r_179_46, r_179_48, r_179_51, r_179_52, r_179_55, r_179_57, r_179_58, r_179_59, r_179_60, r_179_62, r_179_63, r_179_66, r_179_68, r_179_69, r_179_70, r_179_71, r_179_73, r_179_74, r_179_77, r_179_78, r_179_80, r_179_82, r_179_85, r_179_86, r_179_88, r_179_90, r_179_92, r_179_95, r_179_97, r_179_98, r_179_99, r_179_100, r_179_103, r_179_105, r_179_106, r_179_107, r_179_111, r_179_113, r_179_116, r_179_117, r_179_120, r_179_121, r_179_122, r_179_124, r_179_126, r_179_128, r_179_130, r_179_133, r_179_134, r_179_137, r_179_139, r_179_141, r_179_143, r_179_146, r_179_147, r_179_150, r_179_153, r_179_156, r_179_157, r_179_160, r_179_162, r_179_163, r_179_165, r_179_167, r_179_168, r_179_171, r_179_173, r_179_174, r_179_175, r_179_178, r_179_180, r_179_182, r_179_183, r_179_184, r_179_186, r_179_187, r_179_190, r_179_191, r_179_193, r_179_194, r_179_195, r_179_197, r_179_200, r_179_201, r_179_204, r_179_206, r_179_208, r_179_209, r_179_210, r_179_213, r_179_214, r_179_215, r_179_216, r_179_219, r_179_221, r_179_224, r_179_227, r_179_229, r_179_230, r_179_232, r_179_235, r_179_238, r_179_240, r_179_242, r_179_245, r_179_248, r_179_250, r_179_252, r_179_253, r_179_255, r_179_258, r_179_261, r_179_263, r_179_265, r_179_268, r_179_271, r_179_273, r_179_275, r_179_278, r_179_281, r_179_282, f_add, o_bi, o_ceq, o_cge, o_clt, o_cne, o_eq, o_get, o_go, o_i2l, o_ial, o_inc, o_ivs, o_ivv, o_lda, o_ldi, o_ne, o_pi, o_pl, o_ri, o_sti, acR_nx, acR_re, acR_ca, acR_no, acR_if, Kc_i, Kc_n, a_lg, a_ls, a_kl, a_pk, a_sw, cw_n, cw_i, cw_l, cw_r, List.length_cons, List.length_nil, List.getElem?_cons_succ, List.getElem?_cons_zero, ↓reduceIte, decide_true, decide_false, Bool.false_eq_true, or_true, true_or, or_false, false_or, or_self, and_true, true_and, not_true_eq_false, not_false_eq_true, Nat.reduceEqDiff, Nat.reduceLT, Nat.reduceLeDiff, Nat.reduceAdd, Nat.reduceSub, Nat.reduceMul, Nat.reduceDiv, Nat.reduceMod, Nat.zero_add, Nat.add_zero, n_z, n_1, ly_0, ly_61, c_isClause, m_isClause, c_within, m_in, l_ltm, l_gt, hca, hcb, hk, c_badByTen, m_badAs]
        exact ⟨⟨_, rfl, rfl⟩, Inv_ref h (by omega)⟩
      · obtain ⟨a, -, a2, rfl⟩ := rng (by omega) (by omega) hca
        obtain ⟨b, -, b2, rfl⟩ := rng (by omega) (by omega) hcb
        have ha : a < 9 := by omega
        have hb : b < 9 := by omega
        have g1 : ¬ (a < 0 ∨ 8 < a) := by omega
        have g2 : ¬ (b < 0 ∨ 8 < b) := by omega
        simp (disch := first | assumption | omega) only [cl_69, r_69_0, r_69_1, r_69_4, r_69_7, r_69_8, r_69_11, r_69_14, r_69_15, r_69_16, r_69_18, r_69_21, r_69_24, r_69_25, r_69_28, r_69_29, r_69_30, r_69_33, r_69_34, r_69_37, r_69_38, r_69_39, r_69_42, r_69_44, r_69_46, r_69_47, r_69_50, r_69_52, r_69_53, r_69_54, r_69_55, r_69_58, r_69_60, r_69_63, r_69_64, r_69_67, r_69_70, r_69_71, r_69_72, o_cne, o_eq, o_get, o_go, o_ial, o_ivs, o_ivv, o_lda, o_ldi, o_ne, o_pi, o_ri, o_sti, acR_nx, acR_re, acR_ca, acR_no, acR_if, Kc_i, Kc_n, a_lg, a_ls, a_kl, a_pk, a_sw, cw_n, cw_i, cw_l, cw_r, List.length_cons, List.length_nil, List.getElem?_cons_succ, List.getElem?_cons_zero, ↓reduceIte, decide_true, decide_false, Bool.false_eq_true, or_true, true_or, or_false, false_or, or_self, and_true, true_and, not_true_eq_false, not_false_eq_true, Nat.reduceEqDiff, Nat.reduceLT, Nat.reduceLeDiff, Nat.reduceAdd, Nat.reduceSub, Nat.reduceMul, Nat.reduceDiv, Nat.reduceMod, Nat.zero_add, Nat.add_zero, n_z, n_1, n_ltz, n_zlt, n_lt, n_eq, n_cl, n_in, nI_add, pk_mul, n_div, n_sub, nm_mod, ly_0, ly_23, c_isClause, c_within, g1, g2, hk]
        refine c_leastTwine h.1.1 h.1.2.1 ha hb _ (fun ρ best hkp hJ => ?_)
        have hi : Inv (N + 1) ρ := Inv_N (Nat.le_succ N) (Inv_keep h (fun x hx _ _ => hkp.1 x (by omega)) (by rw [hkp.1 13 (by omega)]) (fun x h1 h2 => hkp.1 x (by omega)) (hkp.1 62 (by omega)) (fun x h1 h2 => hkp.1 x (by omega)) (by rw [hkp.1 61 (by omega)]) (by rw [hkp.2]) (by rw [hkp.2]) (by rw [hkp.2]))
        have e62 : ρ.1 62 = σ.1 62 := hkp.1 62 (by omega)
        have hle := least_eq h.1.2.1 ha hb hJ
        have fin : ∀ r : Int32, r = (if dM (σ.1 62) a b 0 (wdN (σ.1 62) a) (wdN (σ.1 62) b) < 1000000 then (if k = -1 then nI (dM (σ.1 62) a b 0 (wdN (σ.1 62) a) (wdN (σ.1 62) b)) else nI (gLm (σ.1 62) a b 0 (wdN (σ.1 62) a) (wdN (σ.1 62) b) k.toNatClampNeg)) else -5) → Cl 179 [.ref 61, .int (nI a), .int (nI b), .int k] ρ (fun v' σ2 => (∃ r' : Int32, (some (.int r) : Option Value) = some (.int r') ∧ v' = some (.int r')) ∧ Inv (N + 1) σ2) := by
          intro r hr
          refine m_least (σ := ρ) (N := N) (by rw [e62]; exact h.1.2.1) ha hb hk _ (fun G T => ⟨⟨r, rfl, ?_⟩, ?_⟩)
          · rw [e62, hr]
          · exact hi
        rcases hle with ⟨l1, l2, l3, l4⟩ | ⟨l1, l2⟩
        · rw [if_pos l1]
          have ne : (nI best = -1) = False := n_nm1 (by omega)
          rw [l2, if_pos (by omega)] at fin
          by_cases km : k = -1
          · rw [if_pos km] at fin
            simp (disch := first | assumption | omega) only [r_69_0, r_69_1, r_69_4, r_69_7, r_69_8, r_69_11, r_69_14, r_69_15, r_69_16, r_69_18, r_69_21, r_69_24, r_69_25, r_69_28, r_69_29, r_69_30, r_69_33, r_69_34, r_69_37, r_69_38, r_69_39, r_69_42, r_69_44, r_69_46, r_69_47, r_69_50, r_69_52, r_69_53, r_69_54, r_69_55, r_69_58, r_69_60, r_69_63, r_69_64, r_69_67, r_69_70, r_69_71, r_69_72, o_cne, o_eq, o_get, o_go, o_ial, o_ivs, o_ivv, o_lda, o_ldi, o_ne, o_pi, o_ri, o_sti, acR_nx, acR_re, acR_ca, acR_no, acR_if, Kc_i, Kc_n, a_lg, a_ls, a_kl, a_pk, a_sw, cw_n, cw_i, cw_l, cw_r, List.length_cons, List.length_nil, List.getElem?_cons_succ, List.getElem?_cons_zero, ↓reduceIte, decide_true, decide_false, Bool.false_eq_true, or_true, true_or, or_false, false_or, or_self, and_true, true_and, not_true_eq_false, not_false_eq_true, Nat.reduceEqDiff, Nat.reduceLT, Nat.reduceLeDiff, Nat.reduceAdd, Nat.reduceSub, Nat.reduceMul, Nat.reduceDiv, Nat.reduceMod, Nat.zero_add, Nat.add_zero, ly_0, ly_23, ne, km]
            rw [km] at fin
            exact fin _ rfl
          · rw [if_neg km] at fin
            obtain ⟨kn, kb, rfl⟩ : ∃ kn : Nat, kn ≤ 15 ∧ k = nI kn := by
              have h0 : ¬ k < 0 := by
                intro hlt
                have h1 : ¬ k < -1 := fun z => hk (Or.inl z)
                apply km
                apply Int32.toInt_inj.mp
                have a1 := Int32.lt_iff_toInt_lt.mp hlt
                have a2 : ¬ k.toInt < (-1 : Int32).toInt := fun z => h1 (Int32.lt_iff_toInt_lt.mpr z)
                have a3 : (-1 : Int32).toInt = -1 := by decide
                have a4 : (0 : Int32).toInt = 0 := by decide
                omega
              obtain ⟨d, hd, rfl⟩ := nI_of h0
              refine ⟨d, ?_, rfl⟩
              have : ¬ nI 15 < nI d := fun z => hk (Or.inr z)
              rw [n_lt (by omega) (by omega)] at this
              omega
            have kmm : (nI kn = -1) = False := n_nm1 (by omega)
            have k16 : kn < 16 := by omega
            rw [n_cl (by omega)] at fin
            simp (disch := first | assumption | omega) only [r_69_0, r_69_1, r_69_4, r_69_7, r_69_8, r_69_11, r_69_14, r_69_15, r_69_16, r_69_18, r_69_21, r_69_24, r_69_25, r_69_28, r_69_29, r_69_30, r_69_33, r_69_34, r_69_37, r_69_38, r_69_39, r_69_42, r_69_44, r_69_46, r_69_47, r_69_50, r_69_52, r_69_53, r_69_54, r_69_55, r_69_58, r_69_60, r_69_63, r_69_64, r_69_67, r_69_70, r_69_71, r_69_72, o_cne, o_eq, o_get, o_go, o_ial, o_ivs, o_ivv, o_lda, o_ldi, o_ne, o_pi, o_ri, o_sti, acR_nx, acR_re, acR_ca, acR_no, acR_if, Kc_i, Kc_n, a_lg, a_ls, a_kl, a_pk, a_sw, cw_n, cw_i, cw_l, cw_r, List.length_cons, List.length_nil, List.getElem?_cons_succ, List.getElem?_cons_zero, ↓reduceIte, decide_true, decide_false, Bool.false_eq_true, or_true, true_or, or_false, false_or, or_self, and_true, true_and, not_true_eq_false, not_false_eq_true, Nat.reduceEqDiff, Nat.reduceLT, Nat.reduceLeDiff, Nat.reduceAdd, Nat.reduceSub, Nat.reduceMul, Nat.reduceDiv, Nat.reduceMod, Nat.zero_add, Nat.add_zero, n_in, n_cl, ly_0, ly_23, ly_24, ne, kmm, k16, l4 kn k16]
            exact fin _ rfl
        · rw [if_neg l1]
          rw [if_neg l2] at fin
          simp (disch := first | assumption | omega) only [r_69_0, r_69_1, r_69_4, r_69_7, r_69_8, r_69_11, r_69_14, r_69_15, r_69_16, r_69_18, r_69_21, r_69_24, r_69_25, r_69_28, r_69_29, r_69_30, r_69_33, r_69_34, r_69_37, r_69_38, r_69_39, r_69_42, r_69_44, r_69_46, r_69_47, r_69_50, r_69_52, r_69_53, r_69_54, r_69_55, r_69_58, r_69_60, r_69_63, r_69_64, r_69_67, r_69_70, r_69_71, r_69_72, o_cne, o_eq, o_get, o_go, o_ial, o_ivs, o_ivv, o_lda, o_ldi, o_ne, o_pi, o_ri, o_sti, acR_nx, acR_re, acR_ca, acR_no, acR_if, Kc_i, Kc_n, a_lg, a_ls, a_kl, a_pk, a_sw, cw_n, cw_i, cw_l, cw_r, List.length_cons, List.length_nil, List.getElem?_cons_succ, List.getElem?_cons_zero, ↓reduceIte, decide_true, decide_false, Bool.false_eq_true, or_true, true_or, or_false, false_or, or_self, and_true, true_and, not_true_eq_false, not_false_eq_true, Nat.reduceEqDiff, Nat.reduceLT, Nat.reduceLeDiff, Nat.reduceAdd, Nat.reduceSub, Nat.reduceMul, Nat.reduceDiv, Nat.reduceMod, Nat.zero_add, Nat.add_zero, ly_0, ly_23]
          exact fin _ rfl
