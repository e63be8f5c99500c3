theorem s_lds {y pc n k ix : Nat} (hy : (a_nm y).cls = "NetLaw$Text") (hk : (k = 0 ∧ ix = 58) ∨ (k = 1 ∧ ix = 64) ∨ (k = 2 ∧ ix = 66)) (hd : decode (a_cd y) pc = .ok (.ldc ix, 2)) (hn : pc + 2 = n) : a_Snd y pc (o_lds k n) := by
  intro p l e s m args below meth c D cA ad A hC ls st σ H locs lsC Q hL hS
  obtain ⟨hx, hb, hml, hown, hts, hK, hZ⟩ := hC
  subst hn
  rw [hy] at hown
  rcases hk with ⟨rfl, rfl⟩ | ⟨rfl, rfl⟩ | ⟨rfl, rfl⟩
  · exact fun kk => va_ldcS hx hb hown hZ.2.1.1 hd (kk H locs lsC hL hS)
  · exact fun kk => va_ldcS hx hb hown hZ.2.1.2.1 hd (kk H locs lsC hL hS)
  · exact fun kk => va_ldcS hx hb hown hZ.2.1.2.2 hd (kk H locs lsC hL hS)
theorem s_sln {y pc n ix : Nat} (hl : Cond.methodLink (a_nm y).cls ix yJ0_length_8abf5 ∈ a_tb) (hR : 5 ≤ (a_rm y).frames ∧ 150 ≤ (a_rm y).locals) (hd : decode (a_cd y) pc = .ok (.invokevirtual ix, 3)) (hn : pc + 3 = n) : a_Snd y pc (o_sln n) := s_slnX hl hR hd hn
theorem s_sch {y pc n ix : Nat} (hl : Cond.methodLink (a_nm y).cls ix yJ0_charAt_5068e ∈ a_tb) (hR : 5 ≤ (a_rm y).frames ∧ 150 ≤ (a_rm y).locals) (hd : decode (a_cd y) pc = .ok (.invokevirtual ix, 3)) (hn : pc + 3 = n) : a_Snd y pc (o_sch n) := s_schX hl hR hd hn
def a_All (y : Nat) : List (Nat × a_OP) → Prop
  | [] => True
  | q :: r => a_Snd y q.1 q.2 ∧ a_All y r
