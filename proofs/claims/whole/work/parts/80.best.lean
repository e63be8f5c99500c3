/-! least: the best over what the shared knots get -/
def q1 : List Nat → (Nat → Nat) → Nat
  | [], _ => 0
  | s :: _, B => B s
def q2 : List Nat → (Nat → Nat) → Nat
  | _ :: t :: _, B => B t
  | _, _ => 0
def gS (f : Nat → Int32) : List Nat → Nat → Nat → Nat
  | [], _, _ => 0
  | [s], p, _ => gaN f s p
  | s :: t :: _, p, q => gaN f s p + gaN f t q
def gaB (f : Nat → Int32) (B : Nat → Nat) (k : Nat) : Nat := gaN f k (B k)
def GdC (f : Nat → Int32) (LA LB LS : List Nat) (na nb : Int) (B : Nat → Nat) : Prop := (∀ k, k ∈ LA ∨ k ∈ LB ∨ k ∈ LS → B k ≤ moN f k) ∧ (∀ k, ¬ (k ∈ LA ∨ k ∈ LB ∨ k ∈ LS) → B k = 0) ∧ na ≤ ((dS' (gaB f B) LS + dS' (gaB f B) LA : Nat) : Int) ∧ nb ≤ ((dS' (gaB f B) LS + dS' (gaB f B) LB : Nat) : Int)
def sCt (LA LB LS : List Nat) (B : Nat → Nat) : Nat := dS' B LS + dS' B LA + dS' B LB
theorem dR_C (f : Nat → Int32) (B : Nat → Nat) : ∀ (L : List Nat) (w : Nat), dR (stC f) B L w = w - dS' (gaB f B) L
  | [], w => by simp only [dR, dS', Nat.sub_zero]
  | k :: L, w => by
    simp only [dR, dS']
    rw [dR_C f B L]
    simp only [stC, gaB]
    omega
theorem dS_le {B : Nat → Nat} {c : Nat} : ∀ L : List Nat, (∀ k, k ∈ L → B k ≤ c) → dS' B L ≤ c * L.length
  | [], _ => by simp [dS']
  | k :: L, h => by
    have := dS_le L (fun j hj => h j (List.mem_cons_of_mem _ hj))
    have h1 := h k List.mem_cons_self
    simp only [dS', List.length_cons]
    rw [Nat.mul_add, Nat.mul_one]
    omega
theorem sh_sum {LS : List Nat} (hl : LS.length ≤ 2) (f : Nat → Int32) (C : Nat → Nat) : dS' C LS = q1 LS C + q2 LS C ∧ dS' (gaB f C) LS = gS f LS (q1 LS C) (q2 LS C) := by
  match LS, hl with
  | [], _ => simp [dS', q1, q2, gS]
  | [s], _ => simp [dS', q1, q2, gS, gaB]
  | [s, t], _ => simp [dS', q1, q2, gS, gaB]
  | s :: t :: u :: r, hl => simp at hl
theorem sh_at {LS : List Nat} (hl : LS.length ≤ 2) (hp : LS.Pairwise (· < ·)) (C : Nat → Nat) {k : Nat} (hk : k ∈ LS) : C k = rS LS (q1 LS C) (q2 LS C) k := by
  match LS, hl, hp, hk with
  | [s], _, _, hk =>
    simp at hk
    simp [rS, q1, hk]
  | [s, t], _, hp, hk =>
    simp at hk hp
    rcases hk with e | e
    · have : ¬ k = t := by omega
      simp only [rS, q1, q2]
      rw [if_neg this, if_pos e, e]
    · simp only [rS, q1, q2]
      rw [if_pos e, e]
  | s :: t :: u :: r, hl, _, _ => simp at hl
theorem sh_rS {LS : List Nat} (hl : LS.length ≤ 2) (hp : LS.Pairwise (· < ·)) {m : Nat → Nat} {p q : Nat} (h1 : p ≤ q1 LS m) (h2 : q ≤ q2 LS m) : q1 LS (rS LS p q) = p ∧ q2 LS (rS LS p q) = q ∧ (∀ k, k ∉ LS → rS LS p q k = 0) ∧ ∀ k, k ∈ LS → rS LS p q k ≤ m k := by
  match LS, hl, hp, h1, h2 with
  | [], _, _, h1, h2 =>
    simp only [q1, q2] at h1 h2
    exact ⟨by simp only [q1]; omega, by simp only [q2]; omega, fun _ _ => rfl, fun k hk => absurd hk List.not_mem_nil⟩
  | [s], _, _, h1, h2 =>
    simp only [q1, q2] at h1 h2
    refine ⟨by simp only [q1, rS, if_true], by simp only [q2]; omega, fun k hk => ?_, fun k hk => ?_⟩
    · simp at hk
      simp only [rS]
      rw [if_neg hk]
    · simp at hk
      simp only [rS]
      rw [if_pos hk, hk]
      exact h1
  | [s, t], _, hp, h1, h2 =>
    simp only [q1, q2] at h1 h2
    simp at hp
    have ne : ¬ s = t := by omega
    refine ⟨by simp only [q1, rS, if_true, ne, if_false], by simp only [q2, rS, if_true], fun k hk => ?_, fun k hk => ?_⟩
    · simp at hk
      simp only [rS]
      rw [if_neg hk.2, if_neg hk.1]
    · simp at hk
      simp only [rS]
      rcases hk with e | e
      · rw [if_neg (by omega), if_pos e, e]
        exact h1
      · rw [if_pos e, e]
        exact h2
  | s :: t :: u :: r, hl, _, _, _ => simp at hl
theorem sh_le {LS : List Nat} {m C : Nat → Nat} (h : ∀ k, k ∈ LS → C k ≤ m k) : q1 LS C ≤ q1 LS m ∧ q2 LS C ≤ q2 LS m := by
  match LS, h with
  | [], _ => exact ⟨Nat.le_refl _, Nat.le_refl _⟩
  | [s], h => exact ⟨h s (by simp), Nat.le_refl _⟩
  | s :: t :: r, h => exact ⟨h s (by simp), h t (by simp)⟩
/-- one side: the first of the cheapest -/
theorem side_ok (f : Nat → Int32) {L : List Nat} (hp : L.Pairwise (· < ·)) {w : Nat} (h : dL f L 0 w < 1000) : (∀ k, k ∈ L → gL f L 0 w k ≤ moN f k) ∧ w ≤ dS' (gaB f (gL f L 0 w)) L ∧ dS' (gL f L 0 w) L = dL f L 0 w ∧ ∀ C : Nat → Nat, (∀ k, k ∈ L → C k ≤ moN f k) → w ≤ dS' (gaB f C) L → dS' C L = dL f L 0 w → ¬ ∃ k, k ∈ L ∧ C k < gL f L 0 w k ∧ ∀ j, j ∈ L → j < k → C j = gL f L 0 w j := by
  obtain ⟨i1, i2, i3, i4⟩ := dG_ok (moN f) (stC f) okC 1000 L w hp h
  refine ⟨i1, ?_, i3, fun C h1 h2 h3 => i4 C h1 ?_ h3⟩
  · rw [dR_C] at i2
    simp only [okC, decide_eq_true_eq] at i2
    have : dS' (gaB f (gL f L 0 w)) L = dS' (gaB f (dG (moN f) (stC f) okC 1000 L w)) L := rfl
    rw [this]
    omega
  · rw [dR_C]
    simp only [okC, decide_eq_true_eq]
    omega
theorem side_low (f : Nat → Int32) {L : List Nat} {w : Nat} {C : Nat → Nat} (h1 : ∀ k, k ∈ L → C k ≤ moN f k) (h2 : w ≤ dS' (gaB f C) L) : dL f L 0 w ≤ dS' C L := by
  refine dC_low (moN f) (stC f) okC 1000 C L w h1 ?_
  rw [dR_C]
  simp only [okC, decide_eq_true_eq]
  omega
theorem step_low {f : Nat → Int32} {LA LB LS : List Nat} {na nb : Int} (hL : LL LA LB LS) {C : Nat → Nat} (hC : GdC f LA LB LS na nb C) {p q g : Nat} (e1 : q1 LS C = p) (e2 : q2 LS C = q) (hg : g = gS f LS p q) : dL f LA 0 (na - g).toNat ≤ dS' C LA ∧ dL f LB 0 (nb - g).toNat ≤ dS' C LB ∧ dS' C LS = p + q := by
  obtain ⟨s1, s2⟩ := sh_sum hL.1.2.2 f C
  rw [e1, e2] at s1 s2
  obtain ⟨c1, c2, c3, c4⟩ := hC
  rw [s2, ← hg] at c3 c4
  exact ⟨side_low f (fun k hk => c1 k (Or.inl hk)) (by omega), side_low f (fun k hk => c1 k (Or.inr (Or.inl hk))) (by omega), s1⟩
theorem step_ok {f : Nat → Int32} {LA LB LS : List Nat} {na nb : Int} (hL : LL LA LB LS) {p q g : Nat} (h1 : p ≤ q1 LS (moN f)) (h2 : q ≤ q2 LS (moN f)) (hg : g = gS f LS p q) (hA : dL f LA 0 (na - g).toNat < 1000) (hB : dL f LB 0 (nb - g).toNat < 1000) :
    GdC f LA LB LS na nb (rW f LA LB LS (na - g).toNat (nb - g).toNat p q) ∧ sCt LA LB LS (rW f LA LB LS (na - g).toNat (nb - g).toNat p q) = p + q + dL f LA 0 (na - g).toNat + dL f LB 0 (nb - g).toNat ∧ ∀ C, GdC f LA LB LS na nb C → q1 LS C = p → q2 LS C = q → sCt LA LB LS C = p + q + dL f LA 0 (na - g).toNat + dL f LB 0 (nb - g).toNat → ¬ lx C (rW f LA LB LS (na - g).toNat (nb - g).toNat p q) := by
  have hL' := hL
  obtain ⟨⟨l1, l2, l3⟩, ⟨p1, p2, p3⟩, d1, d2, d3⟩ := hL
  obtain ⟨a1, a2, a3, a4⟩ := side_ok f p1 hA
  obtain ⟨b1, b2, b3, b4⟩ := side_ok f p2 hB
  obtain ⟨r1, r2, r3, r4⟩ := sh_rS l3 p3 h1 h2
  obtain ⟨R, hR⟩ : ∃ R, R = rW f LA LB LS (na - g).toNat (nb - g).toNat p q := ⟨_, rfl⟩
  rw [← hR]
  have eA : ∀ k, k ∈ LA → R k = gL f LA 0 (na - g).toNat k := fun k hk => by rw [hR]; unfold rW; rw [if_pos hk]
  have eB : ∀ k, k ∈ LB → R k = gL f LB 0 (nb - g).toNat k := fun k hk => by rw [hR]; unfold rW; rw [if_neg (d2 k hk).2.1, if_pos hk]
  have eS : ∀ k, k ∉ LA → k ∉ LB → R k = rS LS p q k := fun k h1 h2 => by rw [hR]; unfold rW; rw [if_neg h1, if_neg h2]
  have eS' : ∀ k, k ∈ LS → R k = rS LS p q k := fun k hk => eS k (d3 k hk).2.1 (d3 k hk).2.2
  have sA : dS' R LA = dS' (gL f LA 0 (na - g).toNat) LA := dS_c _ _ LA eA
  have sB : dS' R LB = dS' (gL f LB 0 (nb - g).toNat) LB := dS_c _ _ LB eB
  have sS' : dS' R LS = dS' (rS LS p q) LS := dS_c _ _ LS eS'
  have gA : dS' (gaB f R) LA = dS' (gaB f (gL f LA 0 (na - g).toNat)) LA := dS_c _ _ LA (fun k hk => by unfold gaB; rw [eA k hk])
  have gB : dS' (gaB f R) LB = dS' (gaB f (gL f LB 0 (nb - g).toNat)) LB := dS_c _ _ LB (fun k hk => by unfold gaB; rw [eB k hk])
  have gg : dS' (gaB f R) LS = dS' (gaB f (rS LS p q)) LS := dS_c _ _ LS (fun k hk => by unfold gaB; rw [eS' k hk])
  obtain ⟨t1, t2⟩ := sh_sum l3 f (rS LS p q)
  rw [r1, r2] at t1 t2
  rw [← hg] at t2
  refine ⟨⟨fun k hk => ?_, fun k hk => ?_, ?_, ?_⟩, ?_, fun C hC e1 e2 hs => ?_⟩
  · rcases hk with h | h | h
    · rw [eA k h]; exact a1 k h
    · rw [eB k h]; exact b1 k h
    · rw [eS' k h]; exact r4 k h
  · rw [eS k (fun h => hk (Or.inl h)) (fun h => hk (Or.inr (Or.inl h)))]
    exact r3 k (fun h => hk (Or.inr (Or.inr h)))
  · rw [gg, t2, gA]; omega
  · rw [gg, t2, gB]; omega
  · unfold sCt
    rw [sS', t1, sA, sB, a3, b3]
  · obtain ⟨lA, lB, lS⟩ := step_low hL' hC e1 e2 hg
    obtain ⟨c1, c2, c3, c4⟩ := hC
    have s2 := (sh_sum l3 f C).2
    rw [e1, e2, ← hg] at s2
    rw [s2] at c3 c4
    unfold sCt at hs
    rintro ⟨k, hk, lt, bef⟩
    by_cases kA' : k ∈ LA
    · refine a4 C (fun j hj => c1 j (Or.inl hj)) (by omega) (by omega) ⟨k, kA', by rw [← eA k kA']; exact lt, fun j hj hjk => by rw [← eA j hj]; exact bef j hjk⟩
    · by_cases kB' : k ∈ LB
      · refine b4 C (fun j hj => c1 j (Or.inr (Or.inl hj))) (by omega) (by omega) ⟨k, kB', by rw [← eB k kB']; exact lt, fun j hj hjk => by rw [← eB j hj]; exact bef j hjk⟩
      · rw [eS k kA' kB'] at lt
        by_cases kS : k ∈ LS
        · have := sh_at l3 p3 C kS
          rw [e1, e2] at this
          omega
        · rw [r3 k kS] at lt
          omega
def JJ (f : Nat → Int32) (LA LB LS : List Nat) (na nb : Int) (T : Nat → Nat → Prop) (best : Nat) (bR : Nat → Int32) : Prop := best ≤ 1000 ∧ ∃ b : Nat → Nat, (best < 1000 → GdC f LA LB LS na nb b ∧ sCt LA LB LS b = best ∧ ∀ k, k < 16 → bR k = nI (b k) ∧ b k ≤ 1000) ∧ ∀ C, GdC f LA LB LS na nb C → T (q1 LS C) (q2 LS C) → best ≤ sCt LA LB LS C ∧ (sCt LA LB LS C = best → ¬ lx C b)
theorem JJ_m {f : Nat → Int32} {LA LB LS : List Nat} {na nb : Int} {T T' : Nat → Nat → Prop} {best : Nat} {bR : Nat → Int32} (h : JJ f LA LB LS na nb T best bR) (ht : ∀ C, GdC f LA LB LS na nb C → T' (q1 LS C) (q2 LS C) → T (q1 LS C) (q2 LS C)) : JJ f LA LB LS na nb T' best bR := by
  obtain ⟨h1, b, h2, h3⟩ := h
  exact ⟨h1, b, h2, fun C hC t => h3 C hC (ht C hC t)⟩
theorem sC_le {f : Nat → Int32} {LA LB LS : List Nat} {na nb : Int} (hL : LL LA LB LS) (h9 : ∀ k, k ∈ LA ∨ k ∈ LB ∨ k ∈ LS → moN f k ≤ 9) {C : Nat → Nat} (hC : GdC f LA LB LS na nb C) : sCt LA LB LS C ≤ 90 ∧ ∀ k, C k ≤ 9 := by
  obtain ⟨⟨l1, l2, l3⟩, -, -, -, -⟩ := hL
  have a := dS_le (B := C) (c := 9) LA (fun k hk => Nat.le_trans (hC.1 k (Or.inl hk)) (h9 k (Or.inl hk)))
  have b := dS_le (B := C) (c := 9) LB (fun k hk => Nat.le_trans (hC.1 k (Or.inr (Or.inl hk))) (h9 k (Or.inr (Or.inl hk))))
  have c := dS_le (B := C) (c := 9) LS (fun k hk => Nat.le_trans (hC.1 k (Or.inr (Or.inr hk))) (h9 k (Or.inr (Or.inr hk))))
  refine ⟨by unfold sCt; omega, fun k => ?_⟩
  by_cases h : k ∈ LA ∨ k ∈ LB ∨ k ∈ LS
  · exact Nat.le_trans (hC.1 k h) (h9 k h)
  · rw [hC.2.1 k h]; omega
theorem gS_le {f : Nat → Int32} {LA LB LS : List Nat} {na nb : Int} {σ : a_HP} (hm : MSt f LA LB LS na nb σ) {p q : Nat} (h1 : p ≤ q1 LS (moN f)) (h2 : q ≤ q2 LS (moN f)) : gS f LS p q ≤ 42 ∧ p ≤ 9 ∧ q ≤ 9 := by
  have h := hm.2.2.1
  match LS, h, h1, h2 with
  | [], h, h1, h2 => simp only [q1, q2, gS] at *; omega
  | [s], h, h1, h2 =>
    simp only [q1, q2, gS] at *
    have a := h s (by simp)
    have := (a.2 p h1).2
    have := a.1.2
    omega
  | s :: t :: r, h, h1, h2 =>
    simp only [q1, q2, gS] at *
    have a := h s (by simp)
    have b := h t (by simp)
    have := (a.2 p h1).2
    have := (b.2 q h2).2
    have := a.1.2
    have := b.1.2
    omega
