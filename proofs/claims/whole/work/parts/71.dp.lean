/-! least: costs and the first of the cheapest, for any state -/
section dp
variable {S : Type} (m : Nat → Nat) (stp' : Nat → Nat → S → S) (ok : S → Bool) (F : Nat)
/-- the least of g 0 .. g n, capped -/
def mnT (F : Nat) (g : Nat → Nat) : Nat → Nat
  | 0 => if g 0 < F then g 0 else F
  | n + 1 => if g (n + 1) < mnT F g n then g (n + 1) else mnT F g n
theorem mnT_le (g : Nat → Nat) : ∀ n, mnT F g n ≤ F ∧ ∀ j, j ≤ n → mnT F g n ≤ g j
  | 0 => by
    simp only [mnT]
    refine ⟨by split <;> omega, fun j hj => ?_⟩
    rw [show j = 0 by omega]
    split <;> omega
  | n + 1 => by
    obtain ⟨h1, h2⟩ := mnT_le g n
    simp only [mnT]
    refine ⟨by split <;> omega, fun j hj => ?_⟩
    by_cases q : j = n + 1
    · rw [q]; split <;> omega
    · have := h2 j (by omega)
      split <;> omega
theorem mnT_at (g : Nat → Nat) : ∀ n, mnT F g n < F → ∃ j, j ≤ n ∧ g j = mnT F g n
  | 0, h => by
    simp only [mnT] at h ⊢
    by_cases q : g 0 < F
    · exact ⟨0, by omega, by rw [if_pos q]⟩
    · rw [if_neg q] at h; omega
  | n + 1, h => by
    simp only [mnT] at h ⊢
    by_cases q : g (n + 1) < mnT F g n
    · exact ⟨n + 1, by omega, by rw [if_pos q]⟩
    · rw [if_neg q] at h ⊢
      obtain ⟨j, h1, h2⟩ := mnT_at g n h
      exact ⟨j, by omega, h2⟩
/-- the first j ≤ n with g j = c, else n -/
def fsT (g : Nat → Nat) (c : Nat) : Nat → Nat → Nat
  | 0, j => j
  | n + 1, j => if g j = c then j else fsT g c n (j + 1)
theorem fsT_ok (g : Nat → Nat) (c : Nat) : ∀ n j, (∃ i, j ≤ i ∧ i ≤ j + n ∧ g i = c) → j ≤ fsT g c n j ∧ fsT g c n j ≤ j + n ∧ g (fsT g c n j) = c ∧ ∀ i, j ≤ i → i < fsT g c n j → g i ≠ c
  | 0, j, ⟨i, h1, h2, h3⟩ => by
    have : i = j := by omega
    subst this
    simp only [fsT]
    exact ⟨Nat.le_refl _, by omega, h3, fun k _ _ => by omega⟩
  | n + 1, j, ⟨i, h1, h2, h3⟩ => by
    simp only [fsT]
    by_cases q : g j = c
    · rw [if_pos q]
      exact ⟨Nat.le_refl _, by omega, q, fun k _ _ => by omega⟩
    · rw [if_neg q]
      have ne : i ≠ j := fun e => q (e ▸ h3)
      obtain ⟨a, b, c', d⟩ := fsT_ok g c n (j + 1) ⟨i, by omega, by omega, h3⟩
      refine ⟨by omega, by omega, c', fun k hk1 hk2 => ?_⟩
      by_cases e : k = j
      · rw [e]; exact q
      · exact d k (by omega) hk2
def dC : List Nat → S → Nat
  | [], s => if ok s = true then 0 else F
  | k :: L, s => mnT F (fun tw => tw + dC L (stp' k tw s)) (m k)
/-- what the first of the cheapest gives to knot x -/
def dG : List Nat → S → Nat → Nat
  | [], _, _ => 0
  | k :: L, s, x => if x = k then fsT (fun tw => tw + dC m stp' ok F L (stp' k tw s)) (dC m stp' ok F (k :: L) s) (m k) 0 else dG L (stp' k (fsT (fun tw => tw + dC m stp' ok F L (stp' k tw s)) (dC m stp' ok F (k :: L) s) (m k) 0) s) x
def dR (stp' : Nat → Nat → S → S) (B : Nat → Nat) : List Nat → S → S
  | [], s => s
  | k :: L, s => dR stp' B L (stp' k (B k) s)
def dS' (B : Nat → Nat) : List Nat → Nat
  | [] => 0
  | k :: L => B k + dS' B L
theorem dC_le : ∀ L s, dC m stp' ok F L s ≤ F
  | [], s => by simp only [dC]; split <;> omega
  | k :: L, s => (mnT_le F _ (m k)).1
theorem dC_low (B : Nat → Nat) : ∀ L s, (∀ k, k ∈ L → B k ≤ m k) → ok (dR stp' B L s) = true → dC m stp' ok F L s ≤ dS' B L
  | [], s, _, h => by
    simp only [dC, dR, dS'] at h ⊢
    rw [if_pos h]
    exact Nat.le_refl _
  | k :: L, s, hB, h => by
    have ih := dC_low B L (stp' k (B k) s) (fun j hj => hB j (List.mem_cons_of_mem _ hj)) h
    have := (mnT_le F (fun tw => tw + dC m stp' ok F L (stp' k tw s)) (m k)).2 (B k) (hB k List.mem_cons_self)
    simp only [dC, dS'] at *
    omega
theorem dR_c (B B' : Nat → Nat) : ∀ L s, (∀ k, k ∈ L → B k = B' k) → dR stp' B L s = dR stp' B' L s
  | [], _, _ => rfl
  | k :: L, s, h => by
    simp only [dR]
    rw [h k List.mem_cons_self]
    exact dR_c B B' L _ (fun j hj => h j (List.mem_cons_of_mem _ hj))
theorem dS_c (B B' : Nat → Nat) : ∀ L, (∀ k, k ∈ L → B k = B' k) → dS' B L = dS' B' L
  | [], _ => rfl
  | k :: L, h => by
    simp only [dS']
    rw [h k List.mem_cons_self, dS_c B B' L (fun j hj => h j (List.mem_cons_of_mem _ hj))]
theorem dG_ok : ∀ L s, L.Pairwise (· < ·) → dC m stp' ok F L s < F → (∀ k, k ∈ L → dG m stp' ok F L s k ≤ m k) ∧ ok (dR stp' (dG m stp' ok F L s) L s) = true ∧ dS' (dG m stp' ok F L s) L = dC m stp' ok F L s ∧ ∀ B : Nat → Nat, (∀ k, k ∈ L → B k ≤ m k) → ok (dR stp' B L s) = true → dS' B L = dC m stp' ok F L s → ¬ ∃ k, k ∈ L ∧ B k < dG m stp' ok F L s k ∧ ∀ j, j ∈ L → j < k → B j = dG m stp' ok F L s j
  | [], s, _, h => by
    simp only [dC] at h
    refine ⟨fun k hk => absurd hk List.not_mem_nil, ?_, ?_, fun B _ _ _ => ?_⟩
    · simp only [dR]
      by_cases q : ok s = true
      · exact q
      · rw [if_neg q] at h; omega
    · simp only [dS', dC]
      by_cases q : ok s = true
      · rw [if_pos q]
      · rw [if_neg q] at h; omega
    · rintro ⟨k, hk, -⟩
      exact absurd hk List.not_mem_nil
  | k :: L, s, hp, h => by
    rw [List.pairwise_cons] at hp
    obtain ⟨hk, hL⟩ := hp
    have hlow := mnT_le F (fun tw => tw + dC m stp' ok F L (stp' k tw s)) (m k)
    obtain ⟨j, hj1, hj2⟩ := mnT_at F (fun tw => tw + dC m stp' ok F L (stp' k tw s)) (m k) h
    obtain ⟨-, f1, f2, f3⟩ := fsT_ok (fun tw => tw + dC m stp' ok F L (stp' k tw s)) (dC m stp' ok F (k :: L) s) (m k) 0 ⟨j, by omega, by omega, hj2⟩
    have gk : dG m stp' ok F (k :: L) s k = fsT (fun tw => tw + dC m stp' ok F L (stp' k tw s)) (dC m stp' ok F (k :: L) s) (m k) 0 := by
      simp only [dG, if_true]
    generalize hv : fsT (fun tw => tw + dC m stp' ok F L (stp' k tw s)) (dC m stp' ok F (k :: L) s) (m k) 0 = v at *
    have gx : ∀ x, x ∈ L → dG m stp' ok F (k :: L) s x = dG m stp' ok F L (stp' k v s) x := fun x hx => by
      have := hk x hx
      show (if x = k then _ else dG m stp' ok F L (stp' k (fsT (fun tw => tw + dC m stp' ok F L (stp' k tw s)) (dC m stp' ok F (k :: L) s) (m k) 0) s) x) = _
      rw [if_neg (by omega), hv]
    have cv : v + dC m stp' ok F L (stp' k v s) = dC m stp' ok F (k :: L) s := f2
    have cF : dC m stp' ok F (k :: L) s < F := h
    obtain ⟨i1, i2, i3, i4⟩ := dG_ok L (stp' k v s) hL (by omega)
    refine ⟨fun x hx => ?_, ?_, ?_, fun B hB hok hsum => ?_⟩
    · rcases List.mem_cons.mp hx with e | e
      · rw [e, gk]; omega
      · rw [gx x e]; exact i1 x e
    · simp only [dR]
      rw [gk, dR_c stp' _ _ L _ gx]
      exact i2
    · simp only [dS']
      rw [gk, dS_c _ _ L gx, i3]
      exact cv
    · rintro ⟨x, hx, hlt, hbef⟩
      have hBL : ∀ y, y ∈ L → B y ≤ m y := fun y hy => hB y (List.mem_cons_of_mem _ hy)
      have bk := hB k List.mem_cons_self
      have lowL := dC_low m stp' ok F B L (stp' k (B k) s) hBL hok
      have at' := hlow.2 (B k) bk
      have sum' : B k + dS' B L = dC m stp' ok F (k :: L) s := hsum
      have eqk : B k + dC m stp' ok F L (stp' k (B k) s) = dC m stp' ok F (k :: L) s := by
        have : dC m stp' ok F (k :: L) s ≤ B k + dC m stp' ok F L (stp' k (B k) s) := at'
        omega
      rcases List.mem_cons.mp hx with e | e
      · subst e
        rw [gk] at hlt
        exact f3 (B x) (by omega) hlt eqk
      · have hkx := hk x e
        have bkv : B k = v := by rw [← gk]; exact hbef k List.mem_cons_self hkx
        have hok' : ok (dR stp' B L (stp' k (B k) s)) = true := hok
        rw [bkv] at hok' sum'
        refine i4 B hBL hok' (by omega) ⟨x, e, ?_, fun y hy hyx => ?_⟩
        · rw [← gx x e]; exact hlt
        · rw [← gx y hy]; exact hbef y (List.mem_cons_of_mem _ hy) hyx
end dp
