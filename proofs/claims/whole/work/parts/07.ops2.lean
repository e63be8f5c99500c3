theorem a_99 {ci : Nat} {q : vw_C} (h : vwCl[ci]? = some q) : ci ≠ 99 := by
  intro e
  subst e
  simp [vwCl] at h
theorem s_get {y pc n ci k ix N : Nat} {C : String} {T : u_T} (hc : vwCl[ci]? = some (C, T, N)) (hin : ∀ w ∈ u_ws C T N, w ∈ a_tb) (hk : k < N) (hl : Cond.fieldLink (a_nm y).cls ix (T k).1 (T k).2.1 (T k).2.2.1 ∈ a_tb) (hd : decode (a_cd y) pc = .ok (.getfield ix, 3)) (hn : pc + 3 = n) : a_Snd y pc (o_get ci k n) := by
  intro p l e s m args below meth c D cA ad A hC ls st σ H locs lsC Q hL hS
  obtain ⟨hx, hb, hml, hown, hts, hK, hZ⟩ := hC
  subst hn
  unfold o_get
  split
  · rename_i a r
    split
    · rename_i ci' fl hla
      split
      · rename_i hci
        subst hci
        have hat := a_W_at (ad := ad) (cA := cA) (σ := σ) (a_lay_lt hla)
        rw [a_cell_obj hla (a_99 hc)] at hat
        split
        · rename_i hf
          exact fun kk => va_get hx hb hts hin hown hK hS.1 a hat hc k hk (hts _ hl) (fun _ h => h) (a_fv_at hf) hd (kk H locs lsC hL hS)
        · rename_i hf
          exact fun kk => va_get hx hb hts hin hown hK hS.1 a hat hc k hk (hts _ hl) (fun _ h => h) (a_fv_at hf) hd (kk H locs lsC hL hS)
        · rename_i j hf
          exact fun kk => va_get hx hb hts hin hown hK hS.1 a hat hc k hk (hts _ hl) (fun _ h => h) (a_fv_at hf) hd (kk H locs lsC hL hS)
        · trivial
      · trivial
    · trivial
  · trivial
theorem s_put {y pc n ci k ix N : Nat} {C : String} {T : u_T} {ty0 : Nat → FieldType} (hc : vwCl[ci]? = some (C, T, N)) (hin : ∀ w ∈ u_ws C T N, w ∈ a_tb) (hty : ∀ k, k < N → parseFieldDescriptor (T k).2.2.1 = some (ty0 k)) (hnm : ∀ a, a < N → ∀ b, b < N → a ≠ b → (T a).2.1 ≠ (T b).2.1) (hk : k < N) (hl : Cond.fieldLink (a_nm y).cls ix (T k).1 (T k).2.1 (T k).2.2.1 ∈ a_tb) (hfin : (T k).2.2.2 = false) (ht : ty0 k = .int) (hd : decode (a_cd y) pc = .ok (.putfield ix, 3)) (hn : pc + 3 = n) : a_Snd y pc (o_put ci k n) := by
  intro p l e s m args below meth c D cA ad A hC ls st σ H locs lsC Q hL hS
  obtain ⟨hx, hb, hml, hown, hts, hK, hZ⟩ := hC
  subst hn
  unfold o_put
  split
  · rename_i x a r
    split
    · rename_i ci' fl hla
      split
      · rename_i hci
        subst hci
        have hat := a_W_at (ad := ad) (cA := cA) (σ := σ) (a_lay_lt hla)
        rw [a_cell_obj hla (a_99 hc)] at hat
        split
        · rename_i hf
          refine fun kk => va_put hx hb hts hin ty0 hty hnm hown hK hS.1 hS.2.1 hS.2.2 a hat hc k hk (hts _ hl) (fun _ h => h) hfin (ty := .int) (v := .int x) (by rw [← ht]; exact hty k hk) rfl rfl ?_ hd (fun H1 locs1 g1 g2 g3 => ?_)
          · have := (List.getElem?_eq_some_iff.mp hf).1
            simpa [a_fv] using this
          · rw [a_W_pi hla (a_99 hc) hf] at g1 g2
            exact kk H1 locs1 lsC hL ⟨g1, g2, g3⟩
        · trivial
      · trivial
    · trivial
  · trivial
theorem s_putz {y pc n ci k ix N : Nat} {C : String} {T : u_T} {ty0 : Nat → FieldType} (hc : vwCl[ci]? = some (C, T, N)) (hin : ∀ w ∈ u_ws C T N, w ∈ a_tb) (hty : ∀ k, k < N → parseFieldDescriptor (T k).2.2.1 = some (ty0 k)) (hnm : ∀ a, a < N → ∀ b, b < N → a ≠ b → (T a).2.1 ≠ (T b).2.1) (hk : k < N) (hl : Cond.fieldLink (a_nm y).cls ix (T k).1 (T k).2.1 (T k).2.2.1 ∈ a_tb) (hfin : (T k).2.2.2 = false) (ht : ty0 k = .boolean) (hd : decode (a_cd y) pc = .ok (.putfield ix, 3)) (hn : pc + 3 = n) : a_Snd y pc (o_putz ci k n) := by
  intro p l e s m args below meth c D cA ad A hC ls st σ H locs lsC Q hL hS
  obtain ⟨hx, hb, hml, hown, hts, hK, hZ⟩ := hC
  subst hn
  unfold o_putz
  split
  · rename_i x a r
    split
    · rename_i ci' fl hla
      split
      · rename_i hci
        subst hci
        have hat := a_W_at (ad := ad) (cA := cA) (σ := σ) (a_lay_lt hla)
        rw [a_cell_obj hla (a_99 hc)] at hat
        split
        · rename_i hf
          split
          · rename_i h01
            refine fun kk => va_put hx hb hts hin ty0 hty hnm hown hK hS.1 hS.2.1 hS.2.2 a hat hc k hk (hts _ hl) (fun _ h => h) hfin (ty := .boolean) (v := .int x) (by rw [← ht]; exact hty k hk) (by rcases h01 with rfl | rfl <;> decide) (by rcases h01 with rfl | rfl <;> decide) ?_ hd (fun H1 locs1 g1 g2 g3 => ?_)
            · have := (List.getElem?_eq_some_iff.mp hf).1
              simpa [a_fv] using this
            · rw [a_W_pi hla (a_99 hc) hf] at g1 g2
              exact kk H1 locs1 lsC hL ⟨g1, g2, g3⟩
          · trivial
        · trivial
      · trivial
    · trivial
  · trivial
theorem s_putl {y pc n ci k ix N : Nat} {C : String} {T : u_T} {ty0 : Nat → FieldType} (hc : vwCl[ci]? = some (C, T, N)) (hin : ∀ w ∈ u_ws C T N, w ∈ a_tb) (hty : ∀ k, k < N → parseFieldDescriptor (T k).2.2.1 = some (ty0 k)) (hnm : ∀ a, a < N → ∀ b, b < N → a ≠ b → (T a).2.1 ≠ (T b).2.1) (hk : k < N) (hl : Cond.fieldLink (a_nm y).cls ix (T k).1 (T k).2.1 (T k).2.2.1 ∈ a_tb) (hfin : (T k).2.2.2 = false) (ht : ty0 k = .long) (hd : decode (a_cd y) pc = .ok (.putfield ix, 3)) (hn : pc + 3 = n) : a_Snd y pc (o_putl ci k n) := by
  intro p l e s m args below meth c D cA ad A hC ls st σ H locs lsC Q hL hS
  obtain ⟨hx, hb, hml, hown, hts, hK, hZ⟩ := hC
  subst hn
  unfold o_putl
  split
  · rename_i x a r
    split
    · rename_i ci' fl hla
      split
      · rename_i hci
        subst hci
        have hat := a_W_at (ad := ad) (cA := cA) (σ := σ) (a_lay_lt hla)
        rw [a_cell_obj hla (a_99 hc)] at hat
        split
        · rename_i hf
          refine fun kk => va_put hx hb hts hin ty0 hty hnm hown hK hS.1 hS.2.1 hS.2.2 a hat hc k hk (hts _ hl) (fun _ h => h) hfin (ty := .long) (v := .long x) (by rw [← ht]; exact hty k hk) rfl rfl ?_ hd (fun H1 locs1 g1 g2 g3 => ?_)
          · have := (List.getElem?_eq_some_iff.mp hf).1
            simpa [a_fv] using this
          · rw [a_W_pl hla (a_99 hc) hf] at g1 g2
            exact kk H1 locs1 lsC hL ⟨g1, g2, g3⟩
        · trivial
      · trivial
    · trivial
  · trivial
theorem s_ial {y pc n : Nat} (hd : decode (a_cd y) pc = .ok (.iaload, 1)) (hn : pc + 1 = n) : a_Snd y pc (o_ial n) := by
  intro p l e s m args below meth c D cA ad A hC ls st σ H locs lsC Q hL hS
  obtain ⟨hx, hb, hml, hown, hts, hK, hZ⟩ := hC
  subst hn
  unfold o_ial
  split
  · rename_i j a r
    split
    · rename_i m0 hla
      split
      · rename_i hj
        have hat := a_W_at (ad := ad) (cA := cA) (σ := σ) (a_lay_lt hla)
        rw [a_cell_arr hla] at hat
        exact fun kk => va_iald hx hb hK hS.1 a 0 hat rfl (a_in_vp hj) hd (kk H locs lsC hL hS)
      · trivial
    · trivial
  · trivial
theorem s_bal {y pc n : Nat} (hd : decode (a_cd y) pc = .ok (.baload, 1)) (hn : pc + 1 = n) : a_Snd y pc (o_bal n) := by
  intro p l e s m args below meth c D cA ad A hC ls st σ H locs lsC Q hL hS
  obtain ⟨hx, hb, hml, hown, hts, hK, hZ⟩ := hC
  subst hn
  unfold o_bal
  split
  · rename_i j a r
    split
    · rename_i m0 hla
      split
      · rename_i hj
        have hat := a_W_at (ad := ad) (cA := cA) (σ := σ) (a_lay_lt hla)
        rw [a_cell_arr hla] at hat
        exact fun kk => va_bald hx hb hK hS.1 a 1 hat rfl (a_in_vp hj) hd (kk H locs lsC hL hS)
      · trivial
    · rename_i m0 hla
      split
      · rename_i hj
        have hat := a_W_at (ad := ad) (cA := cA) (σ := σ) (a_lay_lt hla)
        rw [a_cell_arr hla] at hat
        exact fun kk => va_zald hx hb hK hS.1 a 2 hat rfl (a_in_vp hj) hd (kk H locs lsC hL hS)
      · trivial
    · trivial
  · trivial
theorem s_aal {y pc n : Nat} (hd : decode (a_cd y) pc = .ok (.aaload, 1)) (hn : pc + 1 = n) : a_Snd y pc (o_aal n) := by
  intro p l e s m args below meth c D cA ad A hC ls st σ H locs lsC Q hL hS
  obtain ⟨hx, hb, hml, hown, hts, hK, hZ⟩ := hC
  subst hn
  unfold o_aal
  split
  · rename_i j a r
    split
    · rename_i fl hla
      split
      · rename_i hj
        have hat := a_W_at (ad := ad) (cA := cA) (σ := σ) (a_lay_lt hla)
        rw [a_cell_img hla] at hat
        exact fun kk => va_aldq hx hb hK hS.1 a 3 hat rfl (a_in_vp hj) hd (kk H locs lsC hL hS)
      · trivial
    · trivial
  · trivial
theorem s_ias {y pc n : Nat} (hd : decode (a_cd y) pc = .ok (.iastore, 1)) (hn : pc + 1 = n) : a_Snd y pc (o_ias n) := by
  intro p l e s m args below meth c D cA ad A hC ls st σ H locs lsC Q hL hS
  obtain ⟨hx, hb, hml, hown, hts, hK, hZ⟩ := hC
  subst hn
  unfold o_ias
  split
  · rename_i x j a r
    split
    · rename_i m0 hla
      split
      · rename_i hj
        have hat := a_W_at (ad := ad) (cA := cA) (σ := σ) (a_lay_lt hla)
        rw [a_cell_arr hla] at hat
        exact fun kk => va_iast hx hb hK hS.1 hS.2.1 hS.2.2 a 0 hat rfl (a_in_vp hj) hd (fun H1 locs1 g1 g2 g3 => by
          rw [a_W_wi hla] at g1 g2
          exact kk H1 locs1 lsC hL ⟨g1, g2, g3⟩)
      · trivial
    · trivial
  · trivial
theorem s_bas {y pc n : Nat} (hd : decode (a_cd y) pc = .ok (.bastore, 1)) (hn : pc + 1 = n) : a_Snd y pc (o_bas n) := by
  intro p l e s m args below meth c D cA ad A hC ls st σ H locs lsC Q hL hS
  obtain ⟨hx, hb, hml, hown, hts, hK, hZ⟩ := hC
  subst hn
  unfold o_bas
  split
  · rename_i x j a r
    split
    · rename_i m0 hla
      split
      · rename_i hj
        have hat := a_W_at (ad := ad) (cA := cA) (σ := σ) (a_lay_lt hla)
        rw [a_cell_arr hla] at hat
        exact fun kk => va_bast hx hb hK hS.1 hS.2.1 hS.2.2 a 1 hat rfl (a_in_vp hj) hd (fun H1 locs1 g1 g2 g3 => by
          rw [a_W_wi hla, vp_nar_byte] at g1 g2
          exact kk H1 locs1 lsC hL ⟨g1, g2, g3⟩)
      · trivial
    · rename_i m0 hla
      split
      · rename_i hj
        split
        · rename_i h01
          have hat := a_W_at (ad := ad) (cA := cA) (σ := σ) (a_lay_lt hla)
          rw [a_cell_arr hla] at hat
          have e1 : vp_nar .boolean x = x := by rcases h01 with rfl | rfl <;> decide
          exact fun kk => va_zast hx hb hK hS.1 hS.2.1 hS.2.2 a 2 hat rfl (a_in_vp hj) hd (fun H1 locs1 g1 g2 g3 => by
            rw [a_W_wi hla, e1] at g1 g2
            exact kk H1 locs1 lsC hL ⟨g1, g2, g3⟩)
        · trivial
      · trivial
    · trivial
  · trivial
theorem s_len {y pc n : Nat} (hd : decode (a_cd y) pc = .ok (.arraylength, 1)) (hn : pc + 1 = n) : a_Snd y pc (o_len n) := by
  intro p l e s m args below meth c D cA ad A hC ls st σ H locs lsC Q hL hS
  obtain ⟨hx, hb, hml, hown, hts, hK, hZ⟩ := hC
  subst hn
  unfold o_len
  split
  · rename_i a r
    split
    · rename_i t0 m0 hla
      have hat := a_W_at (ad := ad) (cA := cA) (σ := σ) (a_lay_lt hla)
      rw [a_cell_arr hla] at hat
      have ht : (a_lay a = some (.inl (0, m0)) ∨ a_lay a = some (.inl (1, m0)) ∨ a_lay a = some (.inl (2, m0))) → t0 = 0 ∨ t0 = 1 ∨ t0 = 2 := by
        rw [hla]
        rintro (h | h | h) <;> cases h <;> simp
      have key : t0 = 0 ∨ t0 = 1 ∨ t0 = 2 := by
        have hall : ∀ k, k < 72 → ∀ t n, a_lay k = some (.inl (t, n)) → t = 0 ∨ t = 1 ∨ t = 2 := by
          intro k hk t n h
          have hd2 : ∀ k : Fin 72, (match a_lay k.val with | some (.inl (t, _)) => decide (t < 3) | _ => true) = true := by decide +kernel
          have := hd2 ⟨k, hk⟩
          simp only [h, decide_eq_true_eq] at this
          omega
        exact hall a (a_lay_lt hla) t0 m0 hla
      rcases key with rfl | rfl | rfl
      · exact fun kk => va_alen hx hb hK hS.1 a 0 hat (ty := .int) rfl rfl hd (kk H locs lsC hL hS)
      · exact fun kk => va_alen hx hb hK hS.1 a 1 hat (ty := .byte) rfl rfl hd (kk H locs lsC hL hS)
      · exact fun kk => va_alen hx hb hK hS.1 a 2 hat (ty := .boolean) rfl rfl hd (kk H locs lsC hL hS)
    · trivial
  · trivial
