/-! the invariant between the class' cells and the reference's -/
def eN (o kd st vl wd f : Nat → Int32) : Prop := (∀ j, j < 4 → o j = f j) ∧ (∀ k, k < 16 → kd k = f (4 + k) ∧ st k = f (20 + k) ∧ vl k = f (36 + k)) ∧ ∀ c, c < 9 → wd c = f (52 + c)
def vKnot (a b c : Int32) : Prop := (∃ d : Nat, d ≤ 5 ∧ a = nI d) ∧ (∃ d : Nat, d ≤ 9 ∧ b = nI d) ∧ ∃ d : Nat, d ≤ 2 ∧ c = nI d
def vN (N : Nat) (f : Nat → Int32) : Prop := (f 0 = nI 0 ∨ f 0 = nI 1) ∧ (∃ d : Nat, d ≤ 99 ∧ f 1 = nI d) ∧ (∃ d : Nat, d ≤ 65535 ∧ f 2 = nI d) ∧ (∃ d : Nat, d ≤ N ∧ f 3 = nI d) ∧ (∀ k, k < 16 → vKnot (f (4 + k)) (f (20 + k)) (f (36 + k))) ∧ ∀ c, c < 9 → ∃ d : Nat, d ≤ 30 ∧ f (52 + c) = nI d
def vRow (N : Nat) (g : Nat → Int32) : Prop := (∀ k, k < 16 → vKnot (g k) (g (16 + k)) (g (32 + k))) ∧ (∃ d : Nat, d ≤ 99 ∧ g 48 = nI d) ∧ ∃ d : Nat, d ≤ N ∧ g 49 = nI d
def pP (N : Nat) (o rw f : Nat → Int32) : Prop := ∃ n : Nat, n ≤ 8 ∧ f 80 = nI n ∧ o 0 = nI n ∧ (∀ j, j < 50 * n → rw j = f (81 + j)) ∧ ∀ i, i < n → vRow N (fun j => f (81 + 50 * i + j))
def pR (o s r h f : Nat → Int32) : Prop := ∃ n : Nat, n ≤ 6 ∧ f 61 = nI n ∧ o 0 = nI n ∧ ∀ i, i < n → (s i = f (62 + 3 * i) ∧ r i = f (63 + 3 * i) ∧ h i = f (64 + 3 * i)) ∧ (∃ d : Nat, 1 ≤ d ∧ d ≤ 9 ∧ f (62 + 3 * i) = nI d) ∧ (f (63 + 3 * i) = nI 0 ∨ f (63 + 3 * i) = nI 1) ∧ ∃ d : Nat, d ≤ 30 ∧ f (64 + 3 * i) = nI d
def iS (N : Nat) (σ : a_HP) (q p r : Nat) (f : Nat → Int32) : Prop := eN (σ.1 q) (σ.1 (q + 1)) (σ.1 (q + 2)) (σ.1 (q + 3)) (σ.1 (q + 4)) f ∧ vN N f ∧ pP N (σ.1 p) (σ.1 (p + 1)) f ∧ pR (σ.1 r) (σ.1 (r + 1)) (σ.1 (r + 2)) (σ.1 (r + 3)) f
def iI (N : Nat) (σ : a_HP) (i b : Nat) : Prop := σ.1 b 0 = σ.1 66 i ∧ (σ.1 66 i = nI 0 ∨ σ.1 66 i = nI 1) ∧ (σ.1 66 i = nI 1 → iS N σ (b + 1) (b + 6) (b + 8) (fun j => σ.1 65 (481 * i + j)))
def iT (σ : a_HP) : Prop := ∃ z : Nat, z ≤ 150 ∧ σ.1 13 0 = nI z ∧ σ.1 61 6 = nI z ∧ ∀ j, j < z → σ.1 14 j = σ.1 67 j ∧ ∃ d : Nat, d ≤ 127 ∧ σ.1 67 j = nI d
def iF (σ : a_HP) : Prop := σ.2 16 0 = σ.2 61 7 ∧ σ.2 16 1 = σ.2 61 8
def iX (σ : a_HP) : Prop := ∀ j, j < 3 → σ.1 17 j = σ.1 68 j
def Inv (N : Nat) (σ : a_HP) : Prop := iS N σ 1 6 8 (σ.1 62) ∧ iI N σ 0 37 ∧ iI N σ 1 49 ∧ iT σ ∧ iF σ ∧ iX σ
/-! what a piece hangs on -/
theorem eN_f {o kd st vl wd f f' : Nat → Int32} (h : eN o kd st vl wd f) (he : ∀ j, j < 61 → f' j = f j) : eN o kd st vl wd f' :=
  ⟨fun j hj => by rw [he j (by omega)]; exact h.1 j hj, fun k hk => by rw [he _ (by omega), he _ (by omega), he _ (by omega)]; exact h.2.1 k hk, fun c hc => by rw [he _ (by omega)]; exact h.2.2 c hc⟩
theorem vN_f {N : Nat} {f f' : Nat → Int32} (h : vN N f) (he : ∀ j, j < 61 → f' j = f j) : vN N f' := by
  obtain ⟨h1, h2, h3, h4, h5, h6⟩ := h
  refine ⟨by rw [he 0 (by omega)]; exact h1, by rw [he 1 (by omega)]; exact h2, by rw [he 2 (by omega)]; exact h3, by rw [he 3 (by omega)]; exact h4, fun k hk => ?_, fun c hc => ?_⟩
  · rw [he _ (by omega), he _ (by omega), he _ (by omega)]; exact h5 k hk
  · rw [he _ (by omega)]; exact h6 c hc
theorem vN_N {N N' : Nat} {f : Nat → Int32} (hN : N ≤ N') (h : vN N f) : vN N' f := by
  obtain ⟨h1, h2, h3, ⟨d, hd, e⟩, h5⟩ := h
  exact ⟨h1, h2, h3, ⟨d, by omega, e⟩, h5⟩
theorem vRow_N {N N' : Nat} {g : Nat → Int32} (hN : N ≤ N') (h : vRow N g) : vRow N' g := by
  obtain ⟨h1, h2, d, hd, e⟩ := h
  exact ⟨h1, h2, d, by omega, e⟩
theorem pP_N {N N' : Nat} {o rw f : Nat → Int32} (hN : N ≤ N') (h : pP N o rw f) : pP N' o rw f := by
  obtain ⟨n, h1, h2, h3, h4, h5⟩ := h
  exact ⟨n, h1, h2, h3, h4, fun i hi => vRow_N hN (h5 i hi)⟩
theorem pP_f {N : Nat} {o rw f f' : Nat → Int32} (h : pP N o rw f) (he : ∀ j, 80 ≤ j → f' j = f j) : pP N o rw f' := by
  obtain ⟨n, h1, h2, h3, h4, h5⟩ := h
  refine ⟨n, h1, by rw [he 80 (by omega)]; exact h2, h3, fun j hj => by rw [he _ (by omega)]; exact h4 j hj, fun i hi => ?_⟩
  have : (fun j => f' (81 + 50 * i + j)) = (fun j => f (81 + 50 * i + j)) := by funext j; exact he _ (by omega)
  rw [this]
  exact h5 i hi
theorem pR_f {o s r h f f' : Nat → Int32} (hp : pR o s r h f) (he : ∀ j, 61 ≤ j → j < 80 → f' j = f j) : pR o s r h f' := by
  obtain ⟨n, h1, h2, h3, h4⟩ := hp
  refine ⟨n, h1, by rw [he 61 (by omega) (by omega)]; exact h2, h3, fun i hi => ?_⟩
  rw [he (62 + 3 * i) (by omega) (by omega), he (63 + 3 * i) (by omega) (by omega), he (64 + 3 * i) (by omega) (by omega)]
  exact h4 i hi
theorem iS_N {N N' : Nat} (hN : N ≤ N') {σ : a_HP} {q p r : Nat} {f : Nat → Int32} (h : iS N σ q p r f) : iS N' σ q p r f := ⟨h.1, vN_N hN h.2.1, pP_N hN h.2.2.1, h.2.2.2⟩
theorem iI_N {N N' : Nat} (hN : N ≤ N') {σ : a_HP} {i b : Nat} (h : iI N σ i b) : iI N' σ i b := ⟨h.1, h.2.1, fun e => iS_N hN (h.2.2 e)⟩
theorem Inv_N {N N' : Nat} (hN : N ≤ N') {σ : a_HP} (h : Inv N σ) : Inv N' σ := ⟨iS_N hN h.1, iI_N hN h.2.1, iI_N hN h.2.2.1, h.2.2.2⟩
/-- the cells that count stay: so does the invariant -/
theorem Inv_keep {N : Nat} {σ σ' : a_HP} (h : Inv N σ) (h1 : ∀ a, a < 18 → a ≠ 15 → a ≠ 13 → σ'.1 a = σ.1 a) (h13 : σ'.1 13 0 = σ.1 13 0) (h2 : ∀ a, 37 ≤ a → a < 61 → σ'.1 a = σ.1 a) (h3 : σ'.1 62 = σ.1 62) (h4 : ∀ a, 65 ≤ a → a < 69 → σ'.1 a = σ.1 a) (h5 : σ'.1 61 6 = σ.1 61 6) (h6 : σ'.2 16 = σ.2 16) (h7 : σ'.2 61 7 = σ.2 61 7) (h8 : σ'.2 61 8 = σ.2 61 8) : Inv N σ' := by
  obtain ⟨a1, a2, a3, a4, a5, a6⟩ := h
  refine ⟨?_, ?_, ?_, ?_, ?_, ?_⟩
  · unfold iS at a1 ⊢
    simp only [h1 1 (by omega) (by omega) (by omega), h1 2 (by omega) (by omega) (by omega), h1 3 (by omega) (by omega) (by omega), h1 4 (by omega) (by omega) (by omega), h1 5 (by omega) (by omega) (by omega), h1 6 (by omega) (by omega) (by omega), h1 7 (by omega) (by omega) (by omega), h1 8 (by omega) (by omega) (by omega), h1 9 (by omega) (by omega) (by omega), h1 10 (by omega) (by omega) (by omega), h1 11 (by omega) (by omega) (by omega), h3, Nat.reduceAdd] at a1 ⊢
    exact a1
  · unfold iI iS at a2 ⊢
    simp only [h2 37 (by omega) (by omega), h2 38 (by omega) (by omega), h2 39 (by omega) (by omega), h2 40 (by omega) (by omega), h2 41 (by omega) (by omega), h2 42 (by omega) (by omega), h2 43 (by omega) (by omega), h2 44 (by omega) (by omega), h2 45 (by omega) (by omega), h2 46 (by omega) (by omega), h2 47 (by omega) (by omega), h2 48 (by omega) (by omega), h4 66 (by omega) (by omega), h4 65 (by omega) (by omega), Nat.reduceAdd] at a2 ⊢
    exact a2
  · unfold iI iS at a3 ⊢
    simp only [h2 49 (by omega) (by omega), h2 50 (by omega) (by omega), h2 51 (by omega) (by omega), h2 52 (by omega) (by omega), h2 53 (by omega) (by omega), h2 54 (by omega) (by omega), h2 55 (by omega) (by omega), h2 56 (by omega) (by omega), h2 57 (by omega) (by omega), h2 58 (by omega) (by omega), h2 59 (by omega) (by omega), h2 60 (by omega) (by omega), h4 66 (by omega) (by omega), h4 65 (by omega) (by omega), Nat.reduceAdd] at a3 ⊢
    exact a3
  · unfold iT at a4 ⊢
    rw [h13, h5, h1 14 (by omega) (by omega) (by omega), h4 67 (by omega) (by omega)]
    exact a4
  · unfold iF at a5 ⊢
    rw [h6, h7, h8]
    exact a5
  · unfold iX at a6 ⊢
    rw [h1 17 (by omega) (by omega) (by omega), h4 68 (by omega) (by omega)]
    exact a6
/-! refused calls -/
theorem Inv_ref {N : Nat} {σ : a_HP} (h : Inv N σ) {j : Nat} (hj : j < 3) : Inv (N + 1) (a_wi (a_wi σ 17 j (σ.1 17 j + nI 1)) 68 j (σ.1 68 j + nI 1)) := by
  obtain ⟨a1, a2, a3, a4, a5, a6⟩ := Inv_N (Nat.le_succ N) h
  refine ⟨a1, a2, a3, a4, a5, ?_⟩
  intro i hi
  simp only [wi_sc, sc_1, Nat.reduceEqDiff, if_true, if_false, ud_1]
  by_cases h1 : i = j
  · subst h1
    simp only [if_true]
    rw [a6 i hi]
  · simp only [h1, if_false]
    exact a6 i hi
