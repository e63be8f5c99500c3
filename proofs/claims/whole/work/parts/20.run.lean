/-! the machine's run, and that it is sound -/
def a_tbs : List (List (Nat × a_OP)) := [tb_0, tb_1, tb_2, tb_3, tb_4, tb_5, tb_6, tb_7, tb_8, tb_9, tb_10, tb_11, tb_12, tb_13, tb_14, tb_15, tb_16, tb_17, tb_18, tb_19, tb_20, tb_21, tb_22, tb_23, tb_24, tb_25, tb_26, tb_27, tb_28, tb_29, tb_30, tb_31, tb_32, tb_33, tb_34, tb_35, tb_36, tb_37, tb_38, tb_39, tb_40, tb_41, tb_42, tb_43, tb_44, tb_45, tb_46, tb_47, tb_48, tb_49, tb_50, tb_51, tb_52, tb_53, tb_54, tb_55, tb_56, tb_57, tb_58, tb_59, tb_60, tb_61, tb_62, tb_63, tb_64, tb_65, tb_66, tb_67, tb_68, tb_69, tb_70, tb_71, tb_72, tb_73, tb_74, tb_75, tb_76, tb_77, tb_78, tb_79, tb_80, tb_81, tb_82, tb_83, tb_84, tb_85, tb_86, tb_87, tb_88, tb_89, tb_90, tb_91, tb_92, tb_93, tb_94, tb_95, tb_96, tb_97, tb_98, tb_99, tb_100, tb_101, tb_102, tb_103, tb_104, tb_105, tb_106, tb_107, tb_108, tb_109, tb_110, tb_111, tb_112, tb_113, tb_114, tb_115, tb_116, tb_117, tb_118, tb_119, tb_120, tb_121, tb_122, tb_123, tb_124, tb_125, tb_126, tb_127, tb_128, tb_129, tb_130, tb_131, tb_132, tb_133, tb_134, tb_135, tb_136, tb_137, tb_138, tb_139, tb_140, tb_141, tb_142, tb_143, tb_144, tb_145, tb_146, tb_147, tb_148, tb_149, tb_150, tb_151, tb_152, tb_153, tb_154, tb_155, tb_156, tb_157, tb_158, tb_159, tb_160, tb_161, tb_162, tb_163, tb_164, tb_165, tb_166, tb_167, tb_168, tb_169, tb_170, tb_171, tb_172, tb_173, tb_174, tb_175, tb_176, tb_177, tb_178, tb_179, tb_180, tb_181, tb_182, tb_183, tb_184, tb_185, tb_186, tb_187, tb_188, tb_189, tb_190, tb_191, tb_192, tb_193, tb_194, tb_195, tb_196, tb_197, tb_198, tb_199, tb_200, tb_201, tb_202, tb_203, tb_204, tb_205, tb_206, tb_207, tb_208, tb_209]
def a_lk : List (Nat × a_OP) → Nat → a_OP
  | [], _ => fun _ _ _ => none
  | q :: r, pc => if q.1 = pc then q.2 else a_lk r pc
def a_tab (y pc : Nat) : a_OP := a_lk ((a_tbs[y]?).getD []) pc
theorem a_lk_snd {y pc : Nat} : ∀ l : List (Nat × a_OP), a_All y l → a_Snd y pc (a_lk l pc)
  | [], _ => fun _ _ _ _ _ _ _ _ _ _ _ _ _ _ _ _ _ _ _ _ _ _ _ => trivial
  | q :: r, h => by
    unfold a_lk
    by_cases hq : q.1 = pc
    · rw [if_pos hq, ← hq]
      exact h.1
    · rw [if_neg hq]
      exact a_lk_snd r h.2
def a_Alls : Nat → List (List (Nat × a_OP)) → Prop
  | _, [] => True
  | y, l :: r => a_All y l ∧ a_Alls (y + 1) r
theorem a_Alls_at : ∀ (L : List (List (Nat × a_OP))) (y k : Nat), a_Alls y L → a_All (y + k) ((L[k]?).getD [])
  | [], y, k, _ => by simp [a_All]
  | l :: r, y, 0, h => h.1
  | l :: r, y, k + 1, h => by
    have := a_Alls_at r (y + 1) k h.2
    rw [show y + 1 + k = y + (k + 1) by omega] at this
    simpa using this
set_option maxRecDepth 100000 in
theorem a_tbs_all : a_Alls 0 a_tbs := And.intro ts_0 (And.intro ts_1 (And.intro ts_2 (And.intro ts_3 (And.intro ts_4 (And.intro ts_5 (And.intro ts_6 (And.intro ts_7 (And.intro ts_8 (And.intro ts_9 (And.intro ts_10 (And.intro ts_11 (And.intro ts_12 (And.intro ts_13 (And.intro ts_14 (And.intro ts_15 (And.intro ts_16 (And.intro ts_17 (And.intro ts_18 (And.intro ts_19 (And.intro ts_20 (And.intro ts_21 (And.intro ts_22 (And.intro ts_23 (And.intro ts_24 (And.intro ts_25 (And.intro ts_26 (And.intro ts_27 (And.intro ts_28 (And.intro ts_29 (And.intro ts_30 (And.intro ts_31 (And.intro ts_32 (And.intro ts_33 (And.intro ts_34 (And.intro ts_35 (And.intro ts_36 (And.intro ts_37 (And.intro ts_38 (And.intro ts_39 (And.intro ts_40 (And.intro ts_41 (And.intro ts_42 (And.intro ts_43 (And.intro ts_44 (And.intro ts_45 (And.intro ts_46 (And.intro ts_47 (And.intro ts_48 (And.intro ts_49 (And.intro ts_50 (And.intro ts_51 (And.intro ts_52 (And.intro ts_53 (And.intro ts_54 (And.intro ts_55 (And.intro ts_56 (And.intro ts_57 (And.intro ts_58 (And.intro ts_59 (And.intro ts_60 (And.intro ts_61 (And.intro ts_62 (And.intro ts_63 (And.intro ts_64 (And.intro ts_65 (And.intro ts_66 (And.intro ts_67 (And.intro ts_68 (And.intro ts_69 (And.intro ts_70 (And.intro ts_71 (And.intro ts_72 (And.intro ts_73 (And.intro ts_74 (And.intro ts_75 (And.intro ts_76 (And.intro ts_77 (And.intro ts_78 (And.intro ts_79 (And.intro ts_80 (And.intro ts_81 (And.intro ts_82 (And.intro ts_83 (And.intro ts_84 (And.intro ts_85 (And.intro ts_86 (And.intro ts_87 (And.intro ts_88 (And.intro ts_89 (And.intro ts_90 (And.intro ts_91 (And.intro ts_92 (And.intro ts_93 (And.intro ts_94 (And.intro ts_95 (And.intro ts_96 (And.intro ts_97 (And.intro ts_98 (And.intro ts_99 (And.intro ts_100 (And.intro ts_101 (And.intro ts_102 (And.intro ts_103 (And.intro ts_104 (And.intro ts_105 (And.intro ts_106 (And.intro ts_107 (And.intro ts_108 (And.intro ts_109 (And.intro ts_110 (And.intro ts_111 (And.intro ts_112 (And.intro ts_113 (And.intro ts_114 (And.intro ts_115 (And.intro ts_116 (And.intro ts_117 (And.intro ts_118 (And.intro ts_119 (And.intro ts_120 (And.intro ts_121 (And.intro ts_122 (And.intro ts_123 (And.intro ts_124 (And.intro ts_125 (And.intro ts_126 (And.intro ts_127 (And.intro ts_128 (And.intro ts_129 (And.intro ts_130 (And.intro ts_131 (And.intro ts_132 (And.intro ts_133 (And.intro ts_134 (And.intro ts_135 (And.intro ts_136 (And.intro ts_137 (And.intro ts_138 (And.intro ts_139 (And.intro ts_140 (And.intro ts_141 (And.intro ts_142 (And.intro ts_143 (And.intro ts_144 (And.intro ts_145 (And.intro ts_146 (And.intro ts_147 (And.intro ts_148 (And.intro ts_149 (And.intro ts_150 (And.intro ts_151 (And.intro ts_152 (And.intro ts_153 (And.intro ts_154 (And.intro ts_155 (And.intro ts_156 (And.intro ts_157 (And.intro ts_158 (And.intro ts_159 (And.intro ts_160 (And.intro ts_161 (And.intro ts_162 (And.intro ts_163 (And.intro ts_164 (And.intro ts_165 (And.intro ts_166 (And.intro ts_167 (And.intro ts_168 (And.intro ts_169 (And.intro ts_170 (And.intro ts_171 (And.intro ts_172 (And.intro ts_173 (And.intro ts_174 (And.intro ts_175 (And.intro ts_176 (And.intro ts_177 (And.intro ts_178 (And.intro ts_179 (And.intro ts_180 (And.intro ts_181 (And.intro ts_182 (And.intro ts_183 (And.intro ts_184 (And.intro ts_185 (And.intro ts_186 (And.intro ts_187 (And.intro ts_188 (And.intro ts_189 (And.intro ts_190 (And.intro ts_191 (And.intro ts_192 (And.intro ts_193 (And.intro ts_194 (And.intro ts_195 (And.intro ts_196 (And.intro ts_197 (And.intro ts_198 (And.intro ts_199 (And.intro ts_200 (And.intro ts_201 (And.intro ts_202 (And.intro ts_203 (And.intro ts_204 (And.intro ts_205 (And.intro ts_206 (And.intro ts_207 (And.intro ts_208 (And.intro ts_209 (trivial))))))))))))))))))))))))))))))))))))))))))))))))))))))))))))))))))))))))))))))))))))))))))))))))))))))))))))))))))))))))))))))))))))))))))))))))))))))))))))))))))))))))))))))))))))))))))))))))))))))))))))))))))
theorem a_tab_snd (y pc : Nat) : a_Snd y pc (a_tab y pc) := by
  have := a_Alls_at a_tbs 0 y a_tbs_all
  rw [Nat.zero_add] at this
  exact a_lk_snd _ this
/-! entry -/
def a_el : List Value → a_LS
  | [] => []
  | .long x :: r => some (.long x) :: none :: a_el r
  | .double x :: r => some (.double x) :: none :: a_el r
  | v :: r => some v :: a_el r
def a_pad : Nat → a_LS → a_LS
  | 0, l => l
  | n + 1, [] => none :: a_pad n []
  | n + 1, v :: r => v :: a_pad n r
def a_en (y : Nat) (as : List Value) : a_LS := a_pad (a_ml y) (a_el as)
theorem a_lg_pad : ∀ (n : Nat) (l : a_LS) (i : Nat) (v : Value), a_lg (a_pad n l) i = some v → a_lg l i = some v
  | 0, l, i, v, h => h
  | n + 1, [], 0, v, h => by simp [a_pad, a_lg] at h
  | n + 1, [], i + 1, v, h => by
    have := a_lg_pad n [] i v (by simpa [a_pad, a_lg] using h)
    simp [a_lg] at this
  | n + 1, w :: r, 0, v, h => by simpa [a_pad, a_lg] using h
  | n + 1, w :: r, i + 1, v, h => by
    simp only [a_pad, a_lg] at h ⊢
    exact a_lg_pad n r i v h
theorem a_el_args (ad : Nat → Nat) : ∀ (as : List Value) (k i : Nat) (v : Value), a_lg (a_el as) i = some v → (k + i, a_cv ad v) ∈ lv_args k (as.map (a_cv ad))
  | [], k, i, v, h => by simp [a_el, a_lg] at h
  | .long x :: r, k, 0, v, h => by
    simp only [a_el, a_lg, Option.some.injEq] at h
    subst h
    simp [lv_args]
  | .long x :: r, k, 1, v, h => by simp [a_el, a_lg] at h
  | .long x :: r, k, i + 2, v, h => by
    have := a_el_args ad r (k + 2) i v (by simpa [a_el, a_lg] using h)
    simp only [List.map_cons, lv_args, a_cv_cat]
    rw [show k + 2 + i = k + (i + 2) by omega] at this
    exact List.mem_cons_of_mem _ (by simpa [Value.category] using this)
  | .double x :: r, k, 0, v, h => by
    simp only [a_el, a_lg, Option.some.injEq] at h
    subst h
    simp [lv_args]
  | .double x :: r, k, 1, v, h => by simp [a_el, a_lg] at h
  | .double x :: r, k, i + 2, v, h => by
    have := a_el_args ad r (k + 2) i v (by simpa [a_el, a_lg] using h)
    simp only [List.map_cons, lv_args, a_cv_cat]
    rw [show k + 2 + i = k + (i + 2) by omega] at this
    exact List.mem_cons_of_mem _ (by simpa [Value.category] using this)
  | .int x :: r, k, i, v, h => by
    cases i with
    | zero =>
      simp only [a_el, a_lg, Option.some.injEq] at h
      subst h
      simp [lv_args]
    | succ i =>
      have := a_el_args ad r (k + 1) i v (by simpa [a_el, a_lg] using h)
      simp only [List.map_cons, lv_args, a_cv_cat]
      rw [show k + 1 + i = k + (i + 1) by omega] at this
      exact List.mem_cons_of_mem _ (by simpa [Value.category] using this)
  | .float x :: r, k, i, v, h => by
    cases i with
    | zero =>
      simp only [a_el, a_lg, Option.some.injEq] at h
      subst h
      simp [lv_args]
    | succ i =>
      have := a_el_args ad r (k + 1) i v (by simpa [a_el, a_lg] using h)
      simp only [List.map_cons, lv_args, a_cv_cat]
      rw [show k + 1 + i = k + (i + 1) by omega] at this
      exact List.mem_cons_of_mem _ (by simpa [Value.category] using this)
  | .null :: r, k, i, v, h => by
    cases i with
    | zero =>
      simp only [a_el, a_lg, Option.some.injEq] at h
      subst h
      simp [lv_args]
    | succ i =>
      have := a_el_args ad r (k + 1) i v (by simpa [a_el, a_lg] using h)
      simp only [List.map_cons, lv_args, a_cv_cat]
      rw [show k + 1 + i = k + (i + 1) by omega] at this
      exact List.mem_cons_of_mem _ (by simpa [Value.category] using this)
  | .ref x :: r, k, i, v, h => by
    cases i with
    | zero =>
      simp only [a_el, a_lg, Option.some.injEq] at h
      subst h
      simp [lv_args]
    | succ i =>
      have := a_el_args ad r (k + 1) i v (by simpa [a_el, a_lg] using h)
      simp only [List.map_cons, lv_args, a_cv_cat]
      rw [show k + 1 + i = k + (i + 1) by omega] at this
      exact List.mem_cons_of_mem _ (by simpa [Value.category] using this)
  | .retAddr x :: r, k, i, v, h => by
    cases i with
    | zero =>
      simp only [a_el, a_lg, Option.some.injEq] at h
      subst h
      simp [lv_args]
    | succ i =>
      have := a_el_args ad r (k + 1) i v (by simpa [a_el, a_lg] using h)
      simp only [List.map_cons, lv_args, a_cv_cat]
      rw [show k + 1 + i = k + (i + 1) by omega] at this
      exact List.mem_cons_of_mem _ (by simpa [Value.category] using this)
theorem a_el_len (ad : Nat → Nat) : ∀ as : List Value, (lg_sl (as.map (a_cv ad))).length = (a_el as).length
  | [] => rfl
  | v :: r => by
    have := a_el_len ad r
    cases v <;> simp_all [lg_sl, a_el, a_cv, Value.category] <;> omega
theorem a_entry (ad : Nat → Nat) (y : Nat) (as : List Value) (h : (a_el as).length ≤ a_ml y) : a_LR ad ((lg_sl (as.map (a_cv ad)) ++ List.replicate (a_ml y - (lg_sl (as.map (a_cv ad))).length) Slot.unset).toArray) (a_ml y) (a_en y as) := by
  obtain ⟨h1, h2, h3⟩ := lv_entry (as.map (a_cv ad)) (n := a_ml y) (by rw [a_el_len]; exact h)
  refine ⟨h1, h2, fun i v hi => ?_⟩
  have := a_el_args ad as 0 i v (a_lg_pad _ _ _ _ hi)
  rw [Nat.zero_add] at this
  exact h3 _ this
/-! the run -/
def a_run : Nat → Nat → Nat → a_LS → List Value → a_HP → Option (Option Value × a_HP)
  | 0, _, _, _, _, _ => none
  | n + 1, y, pc, ls, st, σ => match a_tab y pc ls st σ with
    | none => none
    | some (.inl (pc', ls', st', σ')) => a_run n y pc' ls' st' σ'
    | some (.inr (.inl v)) => some (v, σ)
    | some (.inr (.inr (y', as, pc', r))) => if (a_el as).length ≤ a_ml y' then (match a_run n y' 0 (a_en y' as) [] σ with
        | none => none
        | some (v, σ') => a_run n y pc' ls (v.toList ++ r) σ') else none
theorem a_plain (y : Nat) : plainFor (a_nm y) = true := by
  have h : a_mtL.all (fun q => plainFor q.1) = true := by decide +kernel
  unfold a_nm a_m
  cases hy : a_mtL[y]? with
  | none => decide +kernel
  | some q => exact List.all_eq_true.mp h q (List.mem_of_getElem? hy)
theorem a_sound (l : Launch) (D : va_G) (ad : Nat → Nat) (cA : Nat → ClassId) (A : Nat → Prop) : ∀ (n y pc : Nat) (ls : a_LS) (st : List Value) (σ : a_HP) (v : Option Value) (σ' : a_HP), a_run n y pc ls st σ = some (v, σ') →
    ∀ (p : Program) (e : Env) (s : State) (m : MethodId) (args : Array Value) (below : List Frame) (meth : Method) (c : Code), a_CX y p s m args c D cA ad A → meth.sig.returnType = a_rt y → meth.locks = false → ∀ (H : Heap) (locs : List Loc) (lsC : Array Slot), a_LR ad lsC (a_ml y) ls → a_SR D ad cA A s.heap σ H locs →
      W p l e (a_rm y) s m args below meth c H locs 0 0 (MQ below (a_Qm D ad cA A v σ') args s 0 0 A) (F0 m pc lsC (st.map (a_cv ad))) := by
  intro n
  induction n with
  | zero => intro y pc ls st σ v σ' h; simp [a_run] at h
  | succ n ih =>
    intro y pc ls st σ v σ' h p e s m args below meth c hC hr hlocks H locs lsC hL hS
    have hok := a_tab_snd y pc p l e s m args below meth c D cA ad A hC ls st σ H locs lsC (MQ below (a_Qm D ad cA A v σ') args s 0 0 A) hL hS
    unfold a_run at h
    cases ha : a_tab y pc ls st σ with
    | none => rw [ha] at h; simp at h
    | some q =>
      rw [ha] at h hok
      match q, h, hok with
      | .inl (pc', ls', st', σ1), h, hok =>
        exact hok (fun H' locs' lsC' hL' hS' => ih y pc' ls' st' σ1 v σ' h p e s m args below meth c hC hr hlocks H' locs' lsC' hL' hS')
      | .inr (.inl v1), h, hok =>
        simp only [Option.some.injEq, Prod.mk.injEq] at h
        obtain ⟨rfl, rfl⟩ := h
        have hq : ∀ (o : Outcome) (t : State), o = .returned (v1.map (a_cv ad)) → t.heap = H → s.WarmedH t.vm → a_Qm D ad cA A v1 σ args s o t := fun o t ho ht _ => ⟨ho, by rw [ht]; exact hS.1, hS.2.2.F ht⟩
        rcases hok with ⟨x, ty, rfl, rfl, hd, hty, hn⟩ | ⟨x, rfl, rfl, hd, hty⟩ | ⟨rfl, rfl, hd, hty⟩
        · exact W.zret hC.1 hC.2.1 (hr.trans hty) hn (fun t ht hw => hq _ t rfl ht hw) (fun q hq => hS.2.2.2.2 q hq) hd hlocks
        · exact W.lret hC.1 hC.2.1 (hr.trans hty) (fun t ht hw => hq _ t rfl ht hw) (fun q hq => hS.2.2.2.2 q hq) hd hlocks
        · exact W.vret hC.1 hC.2.1 (hr.trans hty) (fun t ht hw => hq _ t rfl ht hw) (fun q hq => hS.2.2.2.2 q hq) hd hlocks
      | .inr (.inr (y', as, pc', r)), h, hok =>
        dsimp only at h
        split at h
        · rename_i hlen
          cases hb : a_run n y' 0 (a_en y' as) [] σ with
          | none => rw [hb] at h; simp at h
          | some q =>
            obtain ⟨v1, σ1⟩ := q
            rw [hb] at h
            have hM : a_Met l D ad cA A y' as σ v1 σ1 := by
              refine a_ofW (cc := a_cd y') (maxL := a_ml y') (ret := a_rt y') (a_plain y') rfl ?_
              intro p2 e2 s2 m2 args2 below2 meth2 c2 s₁ B hml hv
              obtain ⟨rfl, hP, hK, hD, hZ⟩ := hv
              have hts := atoms_spec (ws := a_ws y') B.pre
              have := ih y' 0 (a_en y' as) [] σ v1 σ1 hb p2 e2 s2 m2 (as.map (a_cv ad)).toArray below2 meth2 c2 ⟨B.exec, B.bytes, hml, findClass_of_methodNamed B.named, fun w hw => hts w (List.mem_cons_of_mem _ hw), hK, hZ⟩ B.returns B.notSynchronized s2.heap [] _ (a_entry ad y' as hlen) ⟨hP, hD, va_S.rf⟩
              rw [lg_entry_eq]
              exact this
            exact hok v1 σ1 hM (fun H' locs' hS' => ih y pc' ls (v1.toList ++ r) σ1 v σ' h p e s m args below meth c hC hr hlocks H' locs' lsC hL hS')
        · simp at h
/-- a method's contract, out of its run -/
theorem a_met {l : Launch} {D : va_G} {ad : Nat → Nat} {cA : Nat → ClassId} {A : Nat → Prop} {n y : Nat} {as : List Value} {σ σ1 : a_HP} {v1 : Option Value} (hlen : (a_el as).length ≤ a_ml y) (hb : a_run n y 0 (a_en y as) [] σ = some (v1, σ1)) : a_Met l D ad cA A y as σ v1 σ1 := by
  refine a_ofW (cc := a_cd y) (maxL := a_ml y) (ret := a_rt y) (a_plain y) rfl ?_
  intro p2 e2 s2 m2 args2 below2 meth2 c2 s₁ B hml hv
  obtain ⟨rfl, hP, hK, hD, hZ⟩ := hv
  have hts := atoms_spec (ws := a_ws y) B.pre
  have := a_sound l D ad cA A n y 0 (a_en y as) [] σ v1 σ1 hb p2 e2 s2 m2 (as.map (a_cv ad)).toArray below2 meth2 c2 ⟨B.exec, B.bytes, hml, findClass_of_methodNamed B.named, fun w hw => hts w (List.mem_cons_of_mem _ hw), hK, hZ⟩ B.returns B.notSynchronized s2.heap [] _ (a_entry ad y as hlen) ⟨hP, hD, va_S.rf⟩
  rw [lg_entry_eq]
  exact this
