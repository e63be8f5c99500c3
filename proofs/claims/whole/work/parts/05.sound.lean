/-! What the machine's state says of the real heap and frame, and the soundness of each instruction. -/
def a_cv (ad : Nat → Nat) : Value → Value
  | .ref a => .ref (ad a)
  | v => v
def a_fc (ad : Nat → Nat) (σ : a_HP) (k j c : Nat) : Value := match c with
  | 0 => .int (σ.1 k j)
  | 1 => .long (σ.2 k j)
  | r + 2 => .ref (ad r)
def a_fv (ad : Nat → Nat) (σ : a_HP) (k : Nat) (fl : List Nat) : List Value := fl.mapIdx (fun j c => a_fc ad σ k j c)
def a_cell (ad : Nat → Nat) (cA : Nat → ClassId) (σ : a_HP) (k : Nat) : va_E := match a_lay k with
  | some (.inl (t, n)) => .inl (cA t, n, .inl (σ.1 k))
  | some (.inr (ci, fl)) => if ci = 99 then .inl (cA 3, fl.length, .inr (.inr (.inr (.inr (fun j => some (ad (fl.getD j 2 - 2))))))) else .inr (ci, a_fv ad σ k fl)
  | none => .inr (0, [])
def a_W (ad : Nat → Nat) (cA : Nat → ClassId) (σ : a_HP) : va_W := (List.range a_N).map (fun k => (ad k, a_cell ad cA σ k))
def a_tys (cA : Nat → ClassId) : List (ClassId × FieldType) := [(cA 0, .int), (cA 1, .byte), (cA 2, .boolean), (cA 3, .object "NetLaw$Image")]
theorem a_W_at {ad : Nat → Nat} {cA : Nat → ClassId} {σ : a_HP} {k : Nat} (h : k < a_N) : (a_W ad cA σ)[k]? = some (ad k, a_cell ad cA σ k) := by
  simp [a_W, h]
theorem a_W_lt {ad : Nat → Nat} {cA : Nat → ClassId} {σ : a_HP} {k : Nat} {q : Nat × va_E} (h : (a_W ad cA σ)[k]? = some q) : k < a_N ∧ q = (ad k, a_cell ad cA σ k) := by
  have hl : k < a_N := by
    have := (List.getElem?_eq_some_iff.mp h).1
    simpa [a_W] using this
  exact ⟨hl, (Option.some.inj ((a_W_at hl).symm.trans h)).symm⟩
theorem a_W_set {ad : Nat → Nat} {cA : Nat → ClassId} {σ σ' : a_HP} {k : Nat} {e : va_E} (hk : k < a_N) (h1 : a_cell ad cA σ' k = e) (h2 : ∀ j, j ≠ k → a_cell ad cA σ' j = a_cell ad cA σ j) : (a_W ad cA σ).set k (ad k, e) = a_W ad cA σ' := by
  apply List.ext_getElem?
  intro j
  by_cases hj : j = k
  · subst hj
    rw [a_W_at hk, h1, List.getElem?_set_self (by simp [a_W]; exact hk)]
  · rw [List.getElem?_set_ne (Ne.symm hj)]
    by_cases hl : j < a_N
    · rw [a_W_at hl, a_W_at hl, h2 j hj]
    · rw [List.getElem?_eq_none (by simp [a_W]; omega), List.getElem?_eq_none (by simp [a_W]; omega)]
theorem a_cell_eq {ad : Nat → Nat} {cA : Nat → ClassId} {σ σ' : a_HP} {k : Nat} (h1 : σ'.1 k = σ.1 k) (h2 : σ'.2 k = σ.2 k) : a_cell ad cA σ' k = a_cell ad cA σ k := by
  have e : ∀ fl, a_fv ad σ' k fl = a_fv ad σ k fl := by
    intro fl
    have : (fun j c => a_fc ad σ' k j c) = (fun j c => a_fc ad σ k j c) := by
      funext j c
      unfold a_fc
      rw [h1, h2]
    unfold a_fv
    rw [this]
  unfold a_cell
  rw [h1]
  simp only [e]
theorem a_D_any {A : Nat → Prop} {ad : Nat → Nat} {cA : Nat → ClassId} {σ σ' : a_HP} (h : va_D A (a_W ad cA σ)) : va_D A (a_W ad cA σ') := by
  refine ⟨fun i j x y hx hy he => ?_, fun k q hq => ?_⟩
  · obtain ⟨hi, rfl⟩ := a_W_lt hx
    obtain ⟨hj, rfl⟩ := a_W_lt hy
    exact h.1 i j _ _ (a_W_at hi) (a_W_at hj) he
  · obtain ⟨hk, rfl⟩ := a_W_lt hq
    exact h.2 k (ad k, a_cell ad cA σ k) (a_W_at hk)
theorem a_cell_arr {ad : Nat → Nat} {cA : Nat → ClassId} {σ : a_HP} {k t n : Nat} (h : a_lay k = some (.inl (t, n))) : a_cell ad cA σ k = .inl (cA t, n, .inl (σ.1 k)) := by
  unfold a_cell; rw [h]
theorem a_cell_obj {ad : Nat → Nat} {cA : Nat → ClassId} {σ : a_HP} {k ci : Nat} {fl : List Nat} (h : a_lay k = some (.inr (ci, fl))) (hc : ci ≠ 99) : a_cell ad cA σ k = .inr (ci, a_fv ad σ k fl) := by
  unfold a_cell; rw [h]; simp [hc]
theorem a_cell_img {ad : Nat → Nat} {cA : Nat → ClassId} {σ : a_HP} {k : Nat} {fl : List Nat} (h : a_lay k = some (.inr (99, fl))) : a_cell ad cA σ k = .inl (cA 3, fl.length, .inr (.inr (.inr (.inr (fun j => some (ad (fl.getD j 2 - 2))))))) := by
  unfold a_cell; rw [h]; simp
theorem a_W_wi {ad : Nat → Nat} {cA : Nat → ClassId} {σ : a_HP} {a t n : Nat} {f : Nat → Int32} (h : a_lay a = some (.inl (t, n))) : (a_W ad cA σ).set a (ad a, .inl (cA t, n, .inl f)) = a_W ad cA (a_sc σ a f) := by
  refine a_W_set (a_lay_lt h) ?_ ?_
  · rw [a_cell_arr h]; simp [a_sc]
  · intro j hj
    exact a_cell_eq (by simp [a_sc, hj]) rfl
theorem a_fv_at {ad : Nat → Nat} {σ : a_HP} {k j c : Nat} {fl : List Nat} (h : fl[j]? = some c) : (a_fv ad σ k fl)[j]? = some (a_fc ad σ k j c) := by
  simp [a_fv, h]
theorem a_fv_set {ad : Nat → Nat} {σ σ' : a_HP} {k j : Nat} {fl : List Nat} {v : Value} (hj : ∀ c, fl[j]? = some c → a_fc ad σ' k j c = v) (ho : ∀ i c, i ≠ j → a_fc ad σ' k i c = a_fc ad σ k i c) : (a_fv ad σ k fl).set j v = a_fv ad σ' k fl := by
  apply List.ext_getElem?
  intro i
  by_cases hi : i = j
  · subst hi
    rw [List.getElem?_set]
    simp only [if_true, a_fv, List.length_mapIdx, List.getElem?_mapIdx]
    cases h : fl[i]? with
    | none =>
      have := List.getElem?_eq_none_iff.mp h
      simp [Nat.not_lt.mpr this]
    | some c =>
      have := (List.getElem?_eq_some_iff.mp h).1
      simp [this, hj c h]
  · rw [List.getElem?_set_ne (Ne.symm hi)]
    simp only [a_fv, List.getElem?_mapIdx]
    cases fl[i]? with
    | none => rfl
    | some c => simp [ho i c hi]
theorem a_W_pi {ad : Nat → Nat} {cA : Nat → ClassId} {σ : a_HP} {a ci k : Nat} {fl : List Nat} {v : Int32} (h : a_lay a = some (.inr (ci, fl))) (hc : ci ≠ 99) (hk : fl[k]? = some 0) : (a_W ad cA σ).set a (ad a, .inr (ci, (a_fv ad σ a fl).set k (.int v))) = a_W ad cA (a_wi σ a k v) := by
  refine a_W_set (a_lay_lt h) ?_ ?_
  · rw [a_cell_obj h hc, a_fv_set (σ' := a_wi σ a k v)]
    · intro c hc2
      rw [hk] at hc2
      cases hc2
      simp [a_fc, a_wi, a_sc, upd]
    · intro i c hi
      match c with
      | 0 => simp [a_fc, a_wi, a_sc, upd, hi]
      | 1 => simp [a_fc, a_wi, a_sc]
      | r + 2 => simp [a_fc]
  · intro j hj
    exact a_cell_eq (by simp [a_wi, a_sc, hj]) rfl
theorem a_W_pl {ad : Nat → Nat} {cA : Nat → ClassId} {σ : a_HP} {a ci k : Nat} {fl : List Nat} {v : Int64} (h : a_lay a = some (.inr (ci, fl))) (hc : ci ≠ 99) (hk : fl[k]? = some 1) : (a_W ad cA σ).set a (ad a, .inr (ci, (a_fv ad σ a fl).set k (.long v))) = a_W ad cA (a_wl σ a k v) := by
  refine a_W_set (a_lay_lt h) ?_ ?_
  · rw [a_cell_obj h hc, a_fv_set (σ' := a_wl σ a k v)]
    · intro c hc2
      rw [hk] at hc2
      cases hc2
      simp [a_fc, a_wl]
    · intro i c hi
      match c with
      | 0 => simp [a_fc, a_wl]
      | 1 => simp [a_fc, a_wl, hi]
      | r + 2 => simp [a_fc]
  · intro j hj
    exact a_cell_eq rfl (by funext i; simp [a_wl, hj])
/-! locals -/
def a_LR (ad : Nat → Nat) (lsC : Array Slot) (nL : Nat) (ls : a_LS) : Prop := lsC.size = nL ∧ lv_wf lsC ∧ ∀ (i : Nat) (v : Value), a_lg ls i = some v → lsC[i]? = some (.val (a_cv ad v))
def a_pr (ad : Nat → Nat) : a_LS → Nat → List (Nat × Value)
  | [], _ => []
  | none :: t, k => a_pr ad t (k + 1)
  | some v :: t, k => (k, a_cv ad v) :: a_pr ad t (k + 1)
theorem a_pr_mem {ad : Nat → Nat} : ∀ (ls : a_LS) (k i : Nat) (v : Value), a_lg ls i = some v → (k + i, a_cv ad v) ∈ a_pr ad ls k
  | [], _, _, _, h => by simp [a_lg] at h
  | none :: t, k, 0, v, h => by simp [a_lg] at h
  | none :: t, k, i + 1, v, h => by
    have := a_pr_mem (ad := ad) t (k + 1) i v (by simpa [a_lg] using h)
    simp only [a_pr]
    rwa [show k + 1 + i = k + (i + 1) by omega] at this
  | some w :: t, k, 0, v, h => by
    simp only [a_lg, Option.some.injEq] at h
    subst h
    simp [a_pr]
  | some w :: t, k, i + 1, v, h => by
    have := a_pr_mem (ad := ad) t (k + 1) i v (by simpa [a_lg] using h)
    simp only [a_pr]
    rw [show k + 1 + i = k + (i + 1) by omega] at this
    exact List.mem_cons_of_mem _ this
theorem a_pr_of {ad : Nat → Nat} : ∀ (ls : a_LS) (k : Nat) (q : Nat × Value), q ∈ a_pr ad ls k → ∃ (i : Nat) (v : Value), q = (k + i, a_cv ad v) ∧ a_lg ls i = some v
  | [], _, _, h => by simp [a_pr] at h
  | none :: t, k, q, h => by
    obtain ⟨i, v, e, hi⟩ := a_pr_of (ad := ad) t (k + 1) q (by simpa [a_pr] using h)
    exact ⟨i + 1, v, by rw [e]; congr 1; omega, by simpa [a_lg] using hi⟩
  | some w :: t, k, q, h => by
    simp only [a_pr] at h
    rcases List.mem_cons.mp h with rfl | h
    · exact ⟨0, w, rfl, rfl⟩
    · obtain ⟨i, v, e, hi⟩ := a_pr_of (ad := ad) t (k + 1) q h
      exact ⟨i + 1, v, by rw [e]; congr 1; omega, by simpa [a_lg] using hi⟩
theorem a_LR_has {ad : Nat → Nat} {lsC : Array Slot} {nL : Nat} {ls : a_LS} (h : a_LR ad lsC nL ls) : lv_has lsC nL (a_pr ad ls 0) := by
  refine ⟨h.1, h.2.1, fun q hq => ?_⟩
  obtain ⟨i, v, rfl, hi⟩ := a_pr_of ls 0 q hq
  rw [Nat.zero_add]
  exact h.2.2 i v hi
theorem a_lg_ls : ∀ (ls : a_LS) (i j : Nat) (x : Option Value), j ≠ i → a_lg (a_ls ls i x) j = a_lg ls j
  | [], _, _, _, _ => rfl
  | _ :: _, 0, 0, _, h => absurd rfl h
  | _ :: _, 0, _ + 1, _, _ => rfl
  | _ :: _, _ + 1, 0, _, _ => rfl
  | _ :: t, i + 1, j + 1, x, h => by
    show a_lg (a_ls t i x) j = a_lg t j
    exact a_lg_ls t i j x (fun e => h (by rw [e]))
theorem a_lg_ls_self : ∀ (ls : a_LS) (i : Nat) (x : Option Value) (w : Value), a_lg (a_ls ls i x) i = some w → x = some w
  | [], i, x, w, h => by cases i <;> simp [a_ls, a_lg] at h
  | _ :: _, 0, x, w, h => by simpa [a_ls, a_lg] using h
  | _ :: t, i + 1, x, w, h => a_lg_ls_self t i x w (by simpa [a_ls, a_lg] using h)
theorem a_cv_cat (ad : Nat → Nat) (v : Value) : (a_cv ad v).category = v.category := by cases v <;> rfl
theorem a_kl_get {ls : a_LS} {i j : Nat} {w : Value} (h : a_lg (a_kl ls i) j = some w) : a_lg ls j = some w ∧ ¬ (j + 1 = i ∧ w.category = 2) := by
  unfold a_kl at h
  cases i with
  | zero => exact ⟨h, fun q => by omega⟩
  | succ i =>
    dsimp only at h
    by_cases hj : j = i
    · subst hj
      cases hv : a_lg ls j with
      | none => simp [hv] at h
      | some v =>
        cases v with
        | long x => simp only [hv] at h; exact absurd (a_lg_ls_self _ _ _ _ h) (by simp)
        | double x => simp only [hv] at h; exact absurd (a_lg_ls_self _ _ _ _ h) (by simp)
        | _ =>
          simp only [hv] at h
          cases h
          exact ⟨rfl, fun q => by simp [Value.category] at q⟩
    · refine ⟨?_, fun q => hj (by omega)⟩
      split at h
      · rwa [a_lg_ls _ _ _ _ hj] at h
      · rwa [a_lg_ls _ _ _ _ hj] at h
      · exact h
theorem a_LR_st1 {ad : Nat → Nat} {ls : a_LS} {lsC' : Array Slot} {nL i : Nat} {v : Value} (h : lv_has lsC' nL ((i, a_cv ad v) :: (a_pr ad ls 0).filter (fun q => !(q.1 == i) && !(q.1 + 1 == i && q.2.category == 2)))) : a_LR ad lsC' nL (a_ls (a_kl ls i) i (some v)) := by
  refine ⟨h.1, h.2.1, fun j w hj => ?_⟩
  by_cases hji : j = i
  · subst hji
    have := a_lg_ls_self _ _ _ _ hj
    cases this
    exact h.2.2 (j, a_cv ad v) List.mem_cons_self
  · rw [a_lg_ls _ _ _ _ hji] at hj
    obtain ⟨h1, h2⟩ := a_kl_get hj
    refine h.2.2 (j, a_cv ad w) (List.mem_cons_of_mem _ (List.mem_filter.mpr ⟨?_, ?_⟩))
    · have := a_pr_mem (ad := ad) ls 0 j w h1
      rwa [Nat.zero_add] at this
    · simp only [a_cv_cat, Bool.and_eq_true, Bool.not_eq_true', beq_eq_false_iff_ne, ne_eq, Bool.and_eq_false_iff]
      refine ⟨hji, ?_⟩
      by_cases q : j + 1 = i
      · exact Or.inr (fun q2 => h2 ⟨q, q2⟩)
      · exact Or.inl q
theorem a_LR_st2 {ad : Nat → Nat} {ls : a_LS} {lsC' : Array Slot} {nL i : Nat} {v : Value} (h : lv_has lsC' nL ((i, a_cv ad v) :: (a_pr ad ls 0).filter (fun q => !(q.1 == i) && (!(q.1 == i + 1) && !(q.1 + 1 == i && q.2.category == 2))))) : a_LR ad lsC' nL (a_ls (a_ls (a_kl ls i) i (some v)) (i + 1) none) := by
  refine ⟨h.1, h.2.1, fun j w hj => ?_⟩
  by_cases hji1 : j = i + 1
  · subst hji1
    exact absurd (a_lg_ls_self _ _ _ _ hj) (by simp)
  rw [a_lg_ls _ _ _ _ hji1] at hj
  by_cases hji : j = i
  · subst hji
    have := a_lg_ls_self _ _ _ _ hj
    cases this
    exact h.2.2 (j, a_cv ad v) List.mem_cons_self
  · rw [a_lg_ls _ _ _ _ hji] at hj
    obtain ⟨h1, h2⟩ := a_kl_get hj
    refine h.2.2 (j, a_cv ad w) (List.mem_cons_of_mem _ (List.mem_filter.mpr ⟨?_, ?_⟩))
    · have := a_pr_mem (ad := ad) ls 0 j w h1
      rwa [Nat.zero_add] at this
    · simp only [a_cv_cat, Bool.and_eq_true, Bool.not_eq_true', beq_eq_false_iff_ne, ne_eq, Bool.and_eq_false_iff]
      refine ⟨hji, hji1, ?_⟩
      by_cases q : j + 1 = i
      · exact Or.inr (fun q2 => h2 ⟨q, q2⟩)
      · exact Or.inl q
/-! the judgement -/
/-- calls of a nest mate's static methods -/
def a_nest : List (String × Nat × MethodName × String) := [("NetLaw$Net", 61, yX7_kindRots, "NetLaw"), ("NetLaw$Net", 57, yX7_kindHolds, "NetLaw"), ("NetLaw$Net", 65, yX7_knotAt, "NetLaw"), ("NetLaw$Mending", 64, yX7_knotAt, "NetLaw"), ("NetLaw$Mending", 95, yX7_kindHolds, "NetLaw"), ("NetLaw$Mending", 72, yX7_hasKnot, "NetLaw"), ("NetLaw$Readings", 35, yX7_kindHolds, "NetLaw")]
def a_NW (U : State) : Prop := ∀ q ∈ a_nest, va_Nw (.methodLinkNest q.1 q.2.1 q.2.2.1 q.2.2.2) U
/-- the text constants, two static fields, the nest mates -/
def a_ST (ad : Nat → Nat) (A : Nat → Prop) (U : State) (H : Heap) : Prop :=
  vk_S 3 [3, 4, 4] [[110, 101, 116], [107, 110, 111, 116], [119, 105, 100, 101]] (fun i => ad (72 + i)) (fun i => ad (75 + i)) A U H ∧ (vk_R "NetLaw$Text" 58 "net" (ad 72) U ∧ vk_R "NetLaw$Text" 64 "knot" (ad 73) U ∧ vk_R "NetLaw$Text" 66 "wide" (ad 74) U) ∧ va_Z "java/lang/String" "COMPACT_STRINGS" "Z" (.int 1) A U H ∧ (va_Z "jdk/internal/util/Preconditions" "SIOOBE_FORMATTER" "Ljava/util/function/BiFunction;" .null A U H ∨ ∃ t : Nat, va_Z "jdk/internal/util/Preconditions" "SIOOBE_FORMATTER" "Ljava/util/function/BiFunction;" (.ref t) A U H) ∧ a_NW U
theorem a_ST.go {ad : Nat → Nat} {A : Nat → Prop} {s U : State} {H : Heap} {locs : List Loc} (h : a_ST ad A s s.heap) (hS : va_S A s.heap H locs) (hW : s.WarmedH U.vm) (hU : U.heap = H) : a_ST ad A U U.heap := by
  obtain ⟨h1, ⟨h2, h3, h4⟩, h5, h6, h7⟩ := h
  rw [hU]
  refine ⟨(h1.kept hS.2.1).moved hW.alike, ⟨h2.warm hW, h3.warm hW, h4.warm hW⟩, (h5.kept hS.2.1).moved hW.alike, ?_, fun q hq => (h7 q hq).warmM hW⟩
  rcases h6 with h6 | ⟨t, h6⟩
  · exact Or.inl ((h6.kept hS.2.1).moved hW.alike)
  · exact Or.inr ⟨t, (h6.kept hS.2.1).moved hW.alike⟩
theorem a_ST.call {ad : Nat → Nat} {A : Nat → Prop} {U : State} {g : JFrame} {mk : MethodId} {a : Array Value} (h : a_ST ad A U U.heap) : a_ST ad A (U.calling g mk a) (U.calling g mk a).heap := by
  obtain ⟨h1, ⟨h2, h3, h4⟩, h5, h6, h7⟩ := h
  refine ⟨vk_S.moved (u := U) (U := U.calling g mk a) (Vm.Alike.refl U.vm) h1, ⟨vk_R.same (u := U) rfl h2, vk_R.same (u := U) rfl h3, vk_R.same (u := U) rfl h4⟩, va_Z.moved (u := U) (U := U.calling g mk a) (Vm.Alike.refl U.vm) h5, ?_, fun q hq => va_Nw.same (u := U) rfl rfl (h7 q hq)⟩
  rcases h6 with h6 | ⟨t, h6⟩
  · exact Or.inl (va_Z.moved (u := U) (U := U.calling g mk a) (Vm.Alike.refl U.vm) h6)
  · exact Or.inr ⟨t, va_Z.moved (u := U) (U := U.calling g mk a) (Vm.Alike.refl U.vm) h6⟩
def a_CX (y : Nat) (p : Program) (s : State) (m : MethodId) (args : Array Value) (c : Code) (D : va_G) (cA : Nat → ClassId) (ad : Nat → Nat) (A : Nat → Prop) : Prop :=
  p.tables.exec = Jvm.exec ∧ c.code = a_cd y ∧ c.maxLocals = a_ml y ∧ s.vm.findClass (a_nm y).cls = some m.cls ∧ (∀ w ∈ a_tb, w.before args s = true) ∧ va_K D vwCl (a_tys cA) s ∧ a_ST ad A s s.heap
def a_SR (D : va_G) (ad : Nat → Nat) (cA : Nat → ClassId) (A : Nat → Prop) (H0 : Heap) (σ : a_HP) (H : Heap) (locs : List Loc) : Prop := va_P D vwCl (a_W ad cA σ) H ∧ va_D A (a_W ad cA σ) ∧ va_S A H0 H locs
def a_Pm (D : va_G) (ad : Nat → Nat) (cA : Nat → ClassId) (A : Nat → Prop) (as : List Value) (σ : a_HP) : Array Value → State → Prop := va_Pc (as.map (a_cv ad)) (fun U => va_P D vwCl (a_W ad cA σ) U.heap ∧ va_K D vwCl (a_tys cA) U ∧ va_D A (a_W ad cA σ) ∧ a_ST ad A U U.heap)
def a_Qm (D : va_G) (ad : Nat → Nat) (cA : Nat → ClassId) (A : Nat → Prop) (v : Option Value) (σ' : a_HP) : Array Value → State → Outcome → State → Prop := fun _ st oc t => oc = .returned (v.map (a_cv ad)) ∧ va_P D vwCl (a_W ad cA σ') t.heap ∧ va_F A st t
def a_Met (l : Launch) (D : va_G) (ad : Nat → Nat) (cA : Nat → ClassId) (A : Nat → Prop) (y : Nat) (as : List Value) (σ : a_HP) (v : Option Value) (σ' : a_HP) : Prop := Met l (a_nm y) (a_ws y) (a_rm y) (a_Pm D ad cA A as σ) (a_Qm D ad cA A v σ') 0 0 A
def a_ret (y pc : Nat) (v : Option Value) (st : List Value) : Prop :=
  (∃ (x : Int32) (ty : FieldType), v = some (.int x) ∧ st = [.int x] ∧ decode (a_cd y) pc = .ok (.ireturn, 1) ∧ a_rt y = some ty ∧ narrow ty (.int x) = .int x) ∨
  (∃ x : Int64, v = some (.long x) ∧ st = [.long x] ∧ decode (a_cd y) pc = .ok (.lreturn, 1) ∧ a_rt y = some .long) ∨
  (v = none ∧ st = [] ∧ decode (a_cd y) pc = .ok (.return_, 1) ∧ a_rt y = none)
def a_Ok (y pc : Nat) (p : Program) (l : Launch) (e : Env) (s : State) (m : MethodId) (args : Array Value) (below : List Frame) (meth : Method) (c : Code) (D : va_G) (cA : Nat → ClassId) (ad : Nat → Nat) (A : Nat → Prop) (st : List Value) (σ : a_HP) (H : Heap) (locs : List Loc) (lsC : Array Slot) (Q : State → Prop) (a : a_AC) : Prop := match a with
  | none => True
  | some (.inl (n, ls', st', σ')) => (∀ (H' : Heap) (locs' : List Loc) (lsC' : Array Slot), a_LR ad lsC' (a_ml y) ls' → a_SR D ad cA A s.heap σ' H' locs' → W p l e (a_rm y) s m args below meth c H' locs' 0 0 Q (F0 m n lsC' (st'.map (a_cv ad)))) → W p l e (a_rm y) s m args below meth c H locs 0 0 Q (F0 m pc lsC (st.map (a_cv ad)))
  | some (.inr (.inl v)) => a_ret y pc v st
  | some (.inr (.inr (y', as, n, r))) => ∀ (v : Option Value) (σ' : a_HP), a_Met l D ad cA A y' as σ v σ' → (∀ (H' : Heap) (locs' : List Loc), a_SR D ad cA A s.heap σ' H' locs' → W p l e (a_rm y) s m args below meth c H' locs' 0 0 Q (F0 m n lsC ((v.toList ++ r).map (a_cv ad)))) → W p l e (a_rm y) s m args below meth c H locs 0 0 Q (F0 m pc lsC (st.map (a_cv ad)))
def a_Snd (y pc : Nat) (op : a_OP) : Prop := ∀ (p : Program) (l : Launch) (e : Env) (s : State) (m : MethodId) (args : Array Value) (below : List Frame) (meth : Method) (c : Code) (D : va_G) (cA : Nat → ClassId) (ad : Nat → Nat) (A : Nat → Prop), a_CX y p s m args c D cA ad A →
  ∀ (ls : a_LS) (st : List Value) (σ : a_HP) (H : Heap) (locs : List Loc) (lsC : Array Slot) (Q : State → Prop), a_LR ad lsC (a_ml y) ls → a_SR D ad cA A s.heap σ H locs → a_Ok y pc p l e s m args below meth c D cA ad A st σ H locs lsC Q (op ls st σ)
