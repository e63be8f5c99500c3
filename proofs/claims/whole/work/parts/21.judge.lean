/-! the judgement that methods are proved in: Rn (from a place on), Cl (a call); each step is an equation -/
theorem a_run_mono : ∀ (n y pc : Nat) (ls : a_LS) (st : List Value) (σ : a_HP) (q : Option Value × a_HP), a_run n y pc ls st σ = some q → ∀ k : Nat, n ≤ k → a_run k y pc ls st σ = some q := by
  intro n
  induction n with
  | zero => intro y pc ls st σ q h; simp [a_run] at h
  | succ n ih =>
    intro y pc ls st σ q h k hk
    obtain ⟨k, rfl⟩ : ∃ j, k = j + 1 := ⟨k - 1, by omega⟩
    have hk' : n ≤ k := by omega
    unfold a_run at h ⊢
    cases ha : a_tab y pc ls st σ with
    | none => rw [ha] at h; simp at h
    | some a =>
      rw [ha] at h
      match a, h with
      | .inl (pc', ls', st', σ1), h => exact ih _ _ _ _ _ _ h k hk'
      | .inr (.inl v1), h => exact h
      | .inr (.inr (y', as, pc', r)), h =>
        dsimp only at h ⊢
        split at h
        · rename_i hlen
          rw [if_pos hlen]
          cases hb : a_run n y' 0 (a_en y' as) [] σ with
          | none => rw [hb] at h; simp at h
          | some z =>
            rw [hb] at h
            rw [ih _ _ _ _ _ _ hb k hk']
            exact ih _ _ _ _ _ _ h k hk'
        · simp at h
def Rn (y pc : Nat) (ls : a_LS) (st : List Value) (σ : a_HP) (Q : Option Value → a_HP → Prop) : Prop := ∃ (n : Nat) (v : Option Value) (σ' : a_HP), a_run n y pc ls st σ = some (v, σ') ∧ Q v σ'
def Cl (y : Nat) (as : List Value) (σ : a_HP) (Q : Option Value → a_HP → Prop) : Prop := (a_el as).length ≤ a_ml y ∧ Rn y 0 (a_en y as) [] σ Q
def Kc (y n : Nat) (ls : a_LS) (r : List Value) (Q : Option Value → a_HP → Prop) : Option Value → a_HP → Prop := fun v σ => Rn y n ls (v.toList ++ r) σ Q
def acR (y : Nat) (a : a_AC) (ls : a_LS) (σ : a_HP) (Q : Option Value → a_HP → Prop) : Prop := match a with
  | none => False
  | some (.inl (n, ls', st', σ')) => Rn y n ls' st' σ' Q
  | some (.inr (.inl v)) => Q v σ
  | some (.inr (.inr (y', as, n, r))) => Cl y' as σ (Kc y n ls r Q)
theorem Kc_i (y n : Nat) (ls : a_LS) (r : List Value) (Q : Option Value → a_HP → Prop) (v : Value) (σ : a_HP) : Kc y n ls r Q (some v) σ = Rn y n ls (v :: r) σ Q := rfl
theorem Kc_n (y n : Nat) (ls : a_LS) (r : List Value) (Q : Option Value → a_HP → Prop) (σ : a_HP) : Kc y n ls r Q none σ = Rn y n ls r σ Q := rfl
theorem acR_nx (y n : Nat) (ls' : a_LS) (st' : List Value) (σ' : a_HP) (ls : a_LS) (σ : a_HP) (Q : Option Value → a_HP → Prop) : acR y (a_nx n ls' st' σ') ls σ Q = Rn y n ls' st' σ' Q := rfl
theorem acR_re (y : Nat) (v : Option Value) (ls : a_LS) (σ : a_HP) (Q : Option Value → a_HP → Prop) : acR y (a_re v) ls σ Q = Q v σ := rfl
theorem acR_ca (y y' n : Nat) (as r : List Value) (ls : a_LS) (σ : a_HP) (Q : Option Value → a_HP → Prop) : acR y (a_ca y' as n r) ls σ Q = Cl y' as σ (Kc y n ls r Q) := rfl
theorem acR_no (y : Nat) (ls : a_LS) (σ : a_HP) (Q : Option Value → a_HP → Prop) : acR y none ls σ Q = False := rfl
theorem acR_if (y : Nat) (c : Prop) [Decidable c] (a b : a_AC) (ls : a_LS) (σ : a_HP) (Q : Option Value → a_HP → Prop) : acR y (if c then a else b) ls σ Q = if c then acR y a ls σ Q else acR y b ls σ Q := by
  by_cases h : c
  · rw [if_pos h, if_pos h]
  · rw [if_neg h, if_neg h]
theorem rn_eq (y pc : Nat) (ls : a_LS) (st : List Value) (σ : a_HP) (Q : Option Value → a_HP → Prop) : Rn y pc ls st σ Q = acR y (a_tab y pc ls st σ) ls σ Q := by
  apply propext
  constructor
  · rintro ⟨n, v, σ', h, hq⟩
    cases n with
    | zero => simp [a_run] at h
    | succ n =>
      unfold a_run at h
      cases ha : a_tab y pc ls st σ with
      | none => rw [ha] at h; simp at h
      | some a =>
        rw [ha] at h
        match a, h with
        | .inl (pc', ls', st', σ1), h => exact ⟨n, v, σ', h, hq⟩
        | .inr (.inl v1), h =>
          simp only [Option.some.injEq, Prod.mk.injEq] at h
          obtain ⟨rfl, rfl⟩ := h
          exact hq
        | .inr (.inr (y', as, pc', r)), h =>
          dsimp only at h
          split at h
          · rename_i hlen
            cases hb : a_run n y' 0 (a_en y' as) [] σ with
            | none => rw [hb] at h; simp at h
            | some z =>
              obtain ⟨v1, σ1⟩ := z
              rw [hb] at h
              exact ⟨hlen, n, v1, σ1, hb, n, v, σ', h, hq⟩
          · simp at h
  · intro h
    cases ha : a_tab y pc ls st σ with
    | none => rw [ha] at h; exact absurd h id
    | some a =>
      rw [ha] at h
      match a, h, ha with
      | .inl (pc', ls', st', σ1), h, ha =>
        obtain ⟨n, v, σ', h1, hq⟩ := h
        refine ⟨n + 1, v, σ', ?_, hq⟩
        unfold a_run
        rw [ha]
        exact h1
      | .inr (.inl v1), h, ha =>
        refine ⟨1, v1, σ, ?_, h⟩
        unfold a_run
        rw [ha]
      | .inr (.inr (y', as, pc', r)), h, ha =>
        obtain ⟨hlen, n1, v1, σ1, h1, n2, v, σ', h2, hq⟩ := h
        refine ⟨max n1 n2 + 1, v, σ', ?_, hq⟩
        unfold a_run
        rw [ha]
        dsimp only
        rw [if_pos hlen, a_run_mono _ _ _ _ _ _ _ h1 (max n1 n2) (Nat.le_max_left _ _)]
        exact a_run_mono _ _ _ _ _ _ _ h2 (max n1 n2) (Nat.le_max_right _ _)
theorem rn_row {y pc : Nat} {op : a_OP} (h : a_tab y pc = op) (ls : a_LS) (st : List Value) (σ : a_HP) (Q : Option Value → a_HP → Prop) : Rn y pc ls st σ Q = acR y (op ls st σ) ls σ Q := by rw [rn_eq, h]
theorem cl_of {y : Nat} {as : List Value} {ls : a_LS} (h : (a_el as).length ≤ a_ml y) (he : a_en y as = ls) (σ : a_HP) (Q : Option Value → a_HP → Prop) : Cl y as σ Q = Rn y 0 ls [] σ Q := by
  subst he
  exact propext ⟨fun q => q.2, fun q => ⟨h, q⟩⟩
theorem rn_mono {y pc : Nat} {ls : a_LS} {st : List Value} {σ : a_HP} {Q Q' : Option Value → a_HP → Prop} (h : Rn y pc ls st σ Q) (hQ : ∀ v σ', Q v σ' → Q' v σ') : Rn y pc ls st σ Q' := by
  obtain ⟨n, v, σ', h1, h2⟩ := h
  exact ⟨n, v, σ', h1, hQ _ _ h2⟩
theorem cl_mono {y : Nat} {as : List Value} {σ : a_HP} {Q Q' : Option Value → a_HP → Prop} (h : Cl y as σ Q) (hQ : ∀ v σ', Q v σ' → Q' v σ') : Cl y as σ Q' := ⟨h.1, rn_mono h.2 hQ⟩
/-- from a call that is run to the contract of the real machine -/
theorem cl_met {l : Launch} {D : va_G} {ad : Nat → Nat} {cA : Nat → ClassId} {A : Nat → Prop} {y : Nat} {as : List Value} {σ : a_HP} {Q : Option Value → a_HP → Prop} (h : Cl y as σ Q) : ∃ (v : Option Value) (σ' : a_HP), a_Met l D ad cA A y as σ v σ' ∧ Q v σ' := by
  obtain ⟨hlen, n, v, σ', h1, h2⟩ := h
  exact ⟨v, σ', a_met hlen h1, h2⟩
/-- a loop whose states are told by the counter -/
theorem lp_up {P : Nat → Prop} (e : Nat) (hs : ∀ i, i < e → P i = P (i + 1)) : P 0 = P e := by
  have h : ∀ k, k ≤ e → P 0 = P k := by
    intro k
    induction k with
    | zero => intro _; rfl
    | succ k ih => intro hk; rw [ih (by omega), hs k (by omega)]
  exact h e (Nat.le_refl e)
theorem lp_from {P : Nat → Prop} (b e : Nat) (hb : b ≤ e) (hs : ∀ i, b ≤ i → i < e → P i = P (i + 1)) : P b = P e := by
  have h : ∀ k, b ≤ k → k ≤ e → P b = P k := by
    intro k
    induction k with
    | zero => intro h1 _; rw [show b = 0 by omega]
    | succ k ih =>
      intro h1 hk
      by_cases hb : b = k + 1
      · rw [hb]
      · rw [ih (by omega) (by omega), hs k (by omega) (by omega)]
  exact h e hb (Nat.le_refl e)
