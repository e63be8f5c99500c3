/-! read -/
theorem MT_1 (σ : a_HP) (o R o' D U : Nat → Int32) (w : Int64) {a : Nat} (h1 : a ≠ 13) (h2 : a ≠ 15) (h3 : a ≠ 61) (h4 : a ≠ 69) (h5 : a ≠ 63) : (MS (TS σ o R) o' w D U).1 a = σ.1 a := by
  show (if a = 61 then o' else if a = 69 then D else if a = 63 then U else (TS σ o R).1 a) = σ.1 a
  rw [if_neg h3, if_neg h4, if_neg h5]
  show (if a = 15 then R else if a = 13 then o else σ.1 a) = σ.1 a
  rw [if_neg h2, if_neg h1]
theorem MT_inv {N z : Nat} {σ : a_HP} (h : Inv N σ) (hz0 : σ.1 13 0 = nI z) (hz6 : σ.1 61 6 = nI z) {o R o' D U : Nat → Int32} {w : Int64} (h0 : o 0 = nI z) (h6 : o' 6 = nI z) : Inv (N + 1) (MS (TS σ o R) o' w D U) := by
  refine Inv_N (Nat.le_succ N) (Inv_keep h (fun a b1 b2 b3 => MT_1 σ o R o' D U w b3 b2 (by omega) (by omega) (by omega)) ?_ (fun a b1 b2 => MT_1 σ o R o' D U w (by omega) (by omega) (by omega) (by omega) (by omega)) (MT_1 σ o R o' D U w (by omega) (by omega) (by omega) (by omega) (by omega)) (fun a b1 b2 => MT_1 σ o R o' D U w (by omega) (by omega) (by omega) (by omega) (by omega)) ?_ ?_ rfl rfl)
  · exact h0.trans hz0.symm
  · exact h6.trans hz6.symm
  · funext j
    show (if (16 : Nat) = 61 ∧ j = 13 then w else σ.2 16 j) = σ.2 16 j
    rw [if_neg (by omega)]
theorem vN_U0 (M : Nat) (g : Nat → Int32) : vN M (fun j => if j < 481 then pBg (nI 0) (nI 0) j else g j) := by
  refine ⟨Or.inl rfl, ⟨0, by omega, rfl⟩, ⟨0, by omega, rfl⟩, ⟨0, by omega, rfl⟩, fun k hk => ?_, fun c hc => ?_⟩
  · have z : ∀ j, 4 ≤ j → j < 52 → (if j < 481 then pBg (nI 0) (nI 0) j else g j) = nI 0 := by
      intro j hj hj2
      unfold pBg
      rw [if_pos (by omega), if_neg (by omega), if_neg (by omega), if_neg (by omega)]
    dsimp only
    rw [z _ (by omega) (by omega), z _ (by omega) (by omega), z _ (by omega) (by omega)]
    exact ⟨⟨0, by omega, rfl⟩, ⟨0, by omega, rfl⟩, ⟨0, by omega, rfl⟩⟩
  · refine ⟨9, by omega, ?_⟩
    dsimp only
    unfold pBg
    rw [if_pos (by omega), if_neg (by omega), if_neg (by omega), if_pos (by omega)]
theorem vN_UU {M z : Nat} {t : Nat → Nat} {U : Nat → Int32} (h : vN M U) : ∀ n, (∀ j, j < n → ftI z t j = true ∧ kI z t j < 3 ∧ vI z t j 1 ≤ 99) → vN M (UU z t U n)
  | 0, _ => h
  | n + 1, hf => by
    obtain ⟨a, b, c⟩ := hf n (by omega)
    exact vN_tel (vN_UU h n (fun j hj => hf j (by omega))) a b c
theorem UU_61 {z : Nat} {t : Nat → Nat} {U : Nat → Int32} {x : Nat} (hx : 61 ≤ x) : ∀ n, (∀ j, j < n → kI z t j < 3) → UU z t U n x = U x
  | 0, _ => rfl
  | n + 1, hf => by
    simp only [UU]
    rw [tel_61 (hf n (by omega)) hx]
    exact UU_61 hx n (fun j hj => hf j (by omega))
theorem pr_read {N : Nat} {σ : a_HP} (h : Inv N σ) : Pair N 63 166 [] σ := by
  unfold Pair
  obtain ⟨z, hz, z0, z6, hb⟩ := h.2.2.2.1
  have htm : tx z (fun j => (σ.1 67 j).toNatClampNeg) (σ.1 67) := ⟨hz, fun j hj => by
    obtain ⟨d, hd, e⟩ := (hb j hj).2
    dsimp only
    rw [e, n_cl (by omega)]
    exact ⟨rfl, hd⟩⟩
  have htc : tx z (fun j => (σ.1 67 j).toNatClampNeg) (σ.1 14) := ⟨hz, fun j hj => by
    rw [(hb j hj).1]
    exact htm.2 j hj⟩
  generalize (fun j => (σ.1 67 j).toNatClampNeg) = t at *
  obtain ⟨n, hn, hst, hok⟩ := stop_ex z t hz
  have kb : ∀ j, j < n → kI z t j < 3 := fun j hj => by
    have ok := hok j hj
    unfold okI at ok
    rw [Bool.and_eq_true] at ok
    exact bg_3 ok.1
  have vb : ∀ j, j < n → vI z t j 1 ≤ 99 := fun j hj => by
    have ok := hok j hj
    unfold okI at ok
    rw [Bool.and_eq_true] at ok
    have pj := (Pz_7 j (fun i hi => hok i (by omega))).2
    exact vl_99 _ _ (tE_ge pj).2 ok.2 1 (by unfold nn; split <;> omega)
  have u61 : ∀ j, j < 61 → (fun j => if j < 481 then pBg (nI 0) (nI 0) j else σ.1 63 j) j = pBg (nI 0) (nI 0) j := fun j hj => by
    dsimp only
    rw [if_pos (by omega)]
  refine c_read htc z0 hn hst hok u61 _ (fun hne o R h0 => ?_) (fun k5 n0 hf o R h0 => ?_) (fun k5 n0 hf o R ρ h0 hT hE => ?_)
  · refine m_read (σ := TS σ o R) htm z6 hn hst hok _ (fun _ o' D' U' w' h6 => ⟨⟨_, rfl, rfl⟩, MT_inv h z0 z6 h0 h6⟩) (fun k5 n0 => absurd ⟨k5, n0⟩ hne) (fun k5 n0 => absurd ⟨k5, n0⟩ hne)
  · refine m_read (σ := TS σ o R) htm z6 hn hst hok _ (fun hne => absurd ⟨k5, n0⟩ hne) (fun _ _ _ o' D' U' w' h6 => ⟨⟨_, rfl, rfl⟩, MT_inv h z0 z6 h0 h6⟩) (fun _ _ hf' => absurd hf' hf)
  · have fits := FF_all z t n hn hf
    have r : ∀ a, a ≠ 1 → a ≠ 2 → a ≠ 3 → a ≠ 4 → a ≠ 5 → a ≠ 6 → a ≠ 8 → a ≠ 13 → a ≠ 15 → ρ.1 a = σ.1 a := fun a b1 b2 b3 b4 b5 b6 b8 b13 b15 => by
      rw [hT.2 a b1 b2 b3 b4 b5 b6 b8]
      show (if a = 15 then R else if a = 13 then o else σ.1 a) = σ.1 a
      rw [if_neg b15, if_neg b13]
    have r67 : ρ.1 67 = σ.1 67 := r 67 (by omega) (by omega) (by omega) (by omega) (by omega) (by omega) (by omega) (by omega) (by omega)
    have r63 : ρ.1 63 = σ.1 63 := r 63 (by omega) (by omega) (by omega) (by omega) (by omega) (by omega) (by omega) (by omega) (by omega)
    have r61 : ρ.1 61 = σ.1 61 := r 61 (by omega) (by omega) (by omega) (by omega) (by omega) (by omega) (by omega) (by omega) (by omega)
    have r62 : ρ.1 62 = σ.1 62 := r 62 (by omega) (by omega) (by omega) (by omega) (by omega) (by omega) (by omega) (by omega) (by omega)
    have r13 : ρ.1 13 = o := by rw [hT.2 13 (by omega) (by omega) (by omega) (by omega) (by omega) (by omega) (by omega)]; rfl
    refine m_read (σ := ρ) (by rw [r67]; exact htm) (by rw [r61]; exact z6) hn hst hok _ (fun hne => absurd ⟨k5, n0⟩ hne) (fun _ _ hf' => absurd hf hf') (fun _ _ _ o' D' w' h6 => ⟨⟨_, rfl, rfl⟩, ?_⟩)
    rw [r63, r62]
    have vU : vN (N + 1) (UU z t (fun j => if j < 481 then pBg (nI 0) (nI 0) j else σ.1 63 j) n) := vN_UU (vN_U0 _ _) n (fun j hj => ⟨fits j hj, kb j hj, vb j hj⟩)
    have w61 : UU z t (fun j => if j < 481 then pBg (nI 0) (nI 0) j else σ.1 63 j) n 61 = nI 0 := by rw [UU_61 (by omega) n kb]; rfl
    have w80 : UU z t (fun j => if j < 481 then pBg (nI 0) (nI 0) j else σ.1 63 j) n 80 = nI 0 := by rw [UU_61 (by omega) n kb]; rfl
    generalize UU z t (fun j => if j < 481 then pBg (nI 0) (nI 0) j else σ.1 63 j) n = V at *
    have cp : ∀ j, j < 481 → va_cpy V (σ.1 62) 0 0 481 j = V j := fun j hj => by
      unfold va_cpy
      rw [if_pos (by omega)]
      congr 1
      omega
    generalize va_cpy V (σ.1 62) 0 0 481 = f at *
    have X : Inv N ((fun a => if a ≤ 11 ∨ a = 62 then σ.1 a else (a_sc (MS ρ o' w' D' V) 62 f).1 a), (a_sc (MS ρ o' w' D' V) 62 f).2) := by
      have big : ∀ a, 12 ≤ a → a ≠ 62 → a ≠ 13 → a ≠ 15 → a ≠ 61 → a ≠ 69 → a ≠ 63 → (a_sc (MS ρ o' w' D' V) 62 f).1 a = σ.1 a := fun a c1 c2 c3 c4 c5 c6 c7 => by
        rw [sc_1, if_neg c2]
        show (if a = 61 then o' else if a = 69 then D' else if a = 63 then V else ρ.1 a) = σ.1 a
        rw [if_neg c5, if_neg c6, if_neg c7]
        exact r a (by omega) (by omega) (by omega) (by omega) (by omega) (by omega) (by omega) c3 c4
      refine Inv_keep h (fun a b1 b2 b3 => ?_) ?_ (fun a b1 b2 => ?_) ?_ (fun a b1 b2 => ?_) ?_ ?_ ?_ ?_
      · dsimp only
        by_cases q : a ≤ 11 ∨ a = 62
        · rw [if_pos q]
        · rw [if_neg q]; exact big a (by omega) (by omega) b3 b2 (by omega) (by omega) (by omega)
      · show ρ.1 13 0 = σ.1 13 0
        rw [r13]; exact h0.trans z0.symm
      · dsimp only
        rw [if_neg (by omega)]; exact big a (by omega) (by omega) (by omega) (by omega) (by omega) (by omega) (by omega)
      · rfl
      · dsimp only
        rw [if_neg (by omega)]; exact big a (by omega) (by omega) (by omega) (by omega) (by omega) (by omega) (by omega)
      · show o' 6 = σ.1 61 6
        exact h6.trans z6.symm
      · funext j
        show (if (16 : Nat) = 61 ∧ j = 13 then w' else ρ.2 16 j) = σ.2 16 j
        rw [if_neg (by omega), hT.1]
        rfl
      · show ρ.2 61 7 = σ.2 61 7
        rw [hT.1]; rfl
      · show ρ.2 61 8 = σ.2 61 8
        rw [hT.1]; rfl
    obtain ⟨-, a2, a3, a4, a5, a6⟩ := Inv_N (Nat.le_succ N) X
    refine ⟨⟨?_, ?_, ?_, ?_⟩, a2, a3, a4, a5, a6⟩
    · exact eN_f hE.1 (fun j hj => cp j (by omega))
    · exact vN_f vU (fun j hj => cp j (by omega))
    · exact ⟨0, by omega, (cp 80 (by omega)).trans w80, hE.2.1, fun j hj => by omega, fun i hi => by omega⟩
    · exact ⟨0, by omega, (cp 61 (by omega)).trans w61, hE.2.2, fun i hi => by omega⟩
