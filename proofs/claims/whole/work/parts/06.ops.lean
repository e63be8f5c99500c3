theorem s_ldin {y pc i n : Nat} {k : Fin 4} (hd : decode (a_cd y) pc = .ok (.iload_n k, 1)) (hk : (k : Nat) = i) (hn : pc + 1 = n) : a_Snd y pc (o_ldi i n) := by
  intro p l e s m args below meth c D cA ad A hC ls st σ H locs lsC Q hL hS
  obtain ⟨hx, hb, hml, hown, hts, hK, hZ⟩ := hC
  unfold o_ldi
  split
  · rename_i x hg
    subst hn
    exact fun kk => lv_iload_n hx hb hd hk (hL.2.2 _ _ hg) (kk H locs lsC hL hS)
  · trivial
theorem s_ldi {y pc i n : Nat} (hd : decode (a_cd y) pc = .ok (.iload i, 2)) (hn : pc + 2 = n) : a_Snd y pc (o_ldi i n) := by
  intro p l e s m args below meth c D cA ad A hC ls st σ H locs lsC Q hL hS
  obtain ⟨hx, hb, hml, hown, hts, hK, hZ⟩ := hC
  unfold o_ldi
  split
  · rename_i x hg
    subst hn
    exact fun kk => lv_iload hx hb hd (hL.2.2 _ _ hg) (kk H locs lsC hL hS)
  · trivial
theorem s_ldln {y pc i n : Nat} {k : Fin 4} (hd : decode (a_cd y) pc = .ok (.lload_n k, 1)) (hk : (k : Nat) = i) (hn : pc + 1 = n) : a_Snd y pc (o_ldl i n) := by
  intro p l e s m args below meth c D cA ad A hC ls st σ H locs lsC Q hL hS
  obtain ⟨hx, hb, hml, hown, hts, hK, hZ⟩ := hC
  unfold o_ldl
  split
  · rename_i x hg
    subst hn
    exact fun kk => lv_lload_n hx hb hd hk (hL.2.2 _ _ hg) (kk H locs lsC hL hS)
  · trivial
theorem s_ldl {y pc i n : Nat} (hd : decode (a_cd y) pc = .ok (.lload i, 2)) (hn : pc + 2 = n) : a_Snd y pc (o_ldl i n) := by
  intro p l e s m args below meth c D cA ad A hC ls st σ H locs lsC Q hL hS
  obtain ⟨hx, hb, hml, hown, hts, hK, hZ⟩ := hC
  unfold o_ldl
  split
  · rename_i x hg
    subst hn
    exact fun kk => lv_lload hx hb hd (hL.2.2 _ _ hg) (kk H locs lsC hL hS)
  · trivial
theorem s_ldan {y pc i n : Nat} {k : Fin 4} (hd : decode (a_cd y) pc = .ok (.aload_n k, 1)) (hk : (k : Nat) = i) (hn : pc + 1 = n) : a_Snd y pc (o_lda i n) := by
  intro p l e s m args below meth c D cA ad A hC ls st σ H locs lsC Q hL hS
  obtain ⟨hx, hb, hml, hown, hts, hK, hZ⟩ := hC
  unfold o_lda
  split
  · rename_i x hg
    subst hn
    exact fun kk => lv_aload_n hx hb hd hk (hL.2.2 _ _ hg) (kk H locs lsC hL hS)
  · trivial
theorem s_lda {y pc i n : Nat} (hd : decode (a_cd y) pc = .ok (.aload i, 2)) (hn : pc + 2 = n) : a_Snd y pc (o_lda i n) := by
  intro p l e s m args below meth c D cA ad A hC ls st σ H locs lsC Q hL hS
  obtain ⟨hx, hb, hml, hown, hts, hK, hZ⟩ := hC
  unfold o_lda
  split
  · rename_i x hg
    subst hn
    exact fun kk => lv_aload hx hb hd (hL.2.2 _ _ hg) (kk H locs lsC hL hS)
  · trivial
theorem s_stin {y pc i n : Nat} {k : Fin 4} (hd : decode (a_cd y) pc = .ok (.istore_n k, 1)) (hk : (k : Nat) = i) (hn : pc + 1 = n) (hi : i < a_ml y) : a_Snd y pc (o_sti i n) := by
  intro p l e s m args below meth c D cA ad A hC ls st σ H locs lsC Q hL hS
  obtain ⟨hx, hb, hml, hown, hts, hK, hZ⟩ := hC
  unfold o_sti
  split
  · rename_i x r
    subst hn
    exact fun kk => lv_istore_n hx hb hd hk (a_LR_has hL) hi rfl (fun ls' h' => kk H locs ls' (a_LR_st1 (v := .int x) h') hS)
  · trivial
theorem s_sti {y pc i n : Nat} (hd : decode (a_cd y) pc = .ok (.istore i, 2)) (hn : pc + 2 = n) (hi : i < a_ml y) : a_Snd y pc (o_sti i n) := by
  intro p l e s m args below meth c D cA ad A hC ls st σ H locs lsC Q hL hS
  obtain ⟨hx, hb, hml, hown, hts, hK, hZ⟩ := hC
  unfold o_sti
  split
  · rename_i x r
    subst hn
    exact fun kk => lv_istore hx hb hd (a_LR_has hL) hi rfl (fun ls' h' => kk H locs ls' (a_LR_st1 (v := .int x) h') hS)
  · trivial
theorem s_stln {y pc i n : Nat} {k : Fin 4} (hd : decode (a_cd y) pc = .ok (.lstore_n k, 1)) (hk : (k : Nat) = i) (hn : pc + 1 = n) (hi : i + 1 < a_ml y) : a_Snd y pc (o_stl i n) := by
  intro p l e s m args below meth c D cA ad A hC ls st σ H locs lsC Q hL hS
  obtain ⟨hx, hb, hml, hown, hts, hK, hZ⟩ := hC
  unfold o_stl
  split
  · rename_i x r
    subst hn
    exact fun kk => lv_lstore_n hx hb hd hk (a_LR_has hL) hi rfl (fun ls' h' => kk H locs ls' (a_LR_st2 (v := .long x) h') hS)
  · trivial
theorem s_stl {y pc i n : Nat} (hd : decode (a_cd y) pc = .ok (.lstore i, 2)) (hn : pc + 2 = n) (hi : i + 1 < a_ml y) : a_Snd y pc (o_stl i n) := by
  intro p l e s m args below meth c D cA ad A hC ls st σ H locs lsC Q hL hS
  obtain ⟨hx, hb, hml, hown, hts, hK, hZ⟩ := hC
  unfold o_stl
  split
  · rename_i x r
    subst hn
    exact fun kk => lv_lstore hx hb hd (a_LR_has hL) hi rfl (fun ls' h' => kk H locs ls' (a_LR_st2 (v := .long x) h') hS)
  · trivial
theorem s_stan {y pc i n : Nat} {k : Fin 4} (hd : decode (a_cd y) pc = .ok (.astore_n k, 1)) (hk : (k : Nat) = i) (hn : pc + 1 = n) (hi : i < a_ml y) : a_Snd y pc (o_sta i n) := by
  intro p l e s m args below meth c D cA ad A hC ls st σ H locs lsC Q hL hS
  obtain ⟨hx, hb, hml, hown, hts, hK, hZ⟩ := hC
  unfold o_sta
  split
  · rename_i x r
    subst hn
    exact fun kk => lv_astore_n hx hb hd hk (a_LR_has hL) hi rfl (fun ls' h' => kk H locs ls' (a_LR_st1 (v := .ref x) h') hS)
  · trivial
theorem s_sta {y pc i n : Nat} (hd : decode (a_cd y) pc = .ok (.astore i, 2)) (hn : pc + 2 = n) (hi : i < a_ml y) : a_Snd y pc (o_sta i n) := by
  intro p l e s m args below meth c D cA ad A hC ls st σ H locs lsC Q hL hS
  obtain ⟨hx, hb, hml, hown, hts, hK, hZ⟩ := hC
  unfold o_sta
  split
  · rename_i x r
    subst hn
    exact fun kk => lv_astore hx hb hd (a_LR_has hL) hi rfl (fun ls' h' => kk H locs ls' (a_LR_st1 (v := .ref x) h') hS)
  · trivial
theorem s_inc {y pc i n : Nat} {c0 : Int} {v : Int32} (hd : decode (a_cd y) pc = .ok (.iinc i c0, 3)) (hv : Int32.ofInt c0 = v) (hn : pc + 3 = n) (hi : i < a_ml y) : a_Snd y pc (o_inc i v n) := by
  intro p l e s m args below meth c D cA ad A hC ls st σ H locs lsC Q hL hS
  obtain ⟨hx, hb, hml, hown, hts, hK, hZ⟩ := hC
  unfold o_inc
  split
  · rename_i x hg
    subst hn
    subst hv
    obtain ⟨k, hk⟩ := List.getElem?_of_mem (a_pr_mem (ad := ad) ls 0 i _ hg)
    rw [Nat.zero_add] at hk
    exact fun kk => lv_iinc hx hb hd (a_LR_has hL) hk rfl hi rfl (fun ls' h' => kk H locs ls' (a_LR_st1 (v := .int (x + Int32.ofInt c0)) h') hS)
  · trivial
theorem s_pic {y pc n : Nat} {c0 : Int} {v : Int32} (hd : decode (a_cd y) pc = .ok (.iconst c0, 1)) (hv : Int32.ofInt c0 = v) (hn : pc + 1 = n) : a_Snd y pc (o_pi v n) := by
  intro p l e s m args below meth c D cA ad A hC ls st σ H locs lsC Q hL hS
  obtain ⟨hx, hb, hml, hown, hts, hK, hZ⟩ := hC
  subst hn
  exact fun kk => lv_iconst hx hb hd hv (kk H locs lsC hL hS)
theorem s_pib {y pc n : Nat} {c0 : Int} {v : Int32} (hd : decode (a_cd y) pc = .ok (.bipush c0, 2)) (hv : (Int8.ofInt c0).toInt32 = v) (hn : pc + 2 = n) : a_Snd y pc (o_pi v n) := by
  intro p l e s m args below meth c D cA ad A hC ls st σ H locs lsC Q hL hS
  obtain ⟨hx, hb, hml, hown, hts, hK, hZ⟩ := hC
  subst hn
  exact fun kk => lv_bipush hx hb hd hv (kk H locs lsC hL hS)
theorem s_pis {y pc n : Nat} {c0 : Int} {v : Int32} (hd : decode (a_cd y) pc = .ok (.sipush c0, 3)) (hv : (Int16.ofInt c0).toInt32 = v) (hn : pc + 3 = n) : a_Snd y pc (o_pi v n) := by
  intro p l e s m args below meth c D cA ad A hC ls st σ H locs lsC Q hL hS
  obtain ⟨hx, hb, hml, hown, hts, hK, hZ⟩ := hC
  subst hn
  exact fun kk => lv_sipush hx hb hd hv (kk H locs lsC hL hS)
theorem s_plc {y pc n : Nat} {c0 : Fin 2} {v : Int64} (hd : decode (a_cd y) pc = .ok (.lconst c0, 1)) (hv : Int64.ofNat (c0 : Nat) = v) (hn : pc + 1 = n) : a_Snd y pc (o_pl v n) := by
  intro p l e s m args below meth c D cA ad A hC ls st σ H locs lsC Q hL hS
  obtain ⟨hx, hb, hml, hown, hts, hK, hZ⟩ := hC
  subst hn
  exact fun kk => lv_lconst hx hb hd hv (kk H locs lsC hL hS)
theorem s_pid {y pc n ix : Nat} {v : Int32} (hd : decode (a_cd y) pc = .ok (.ldc ix, 2)) (hw : Cond.constant (a_nm y).cls ix v ∈ a_tb) (hn : pc + 2 = n) : a_Snd y pc (o_pi v n) := by
  intro p l e s m args below meth c D cA ad A hC ls st σ H locs lsC Q hL hS
  obtain ⟨hx, hb, hml, hown, hts, hK, hZ⟩ := hC
  subst hn
  exact fun kk => lv_ldc hx hb hown (hts _ hw) hd (kk H locs lsC hL hS)
theorem s_piw {y pc n ix : Nat} {v : Int32} (hd : decode (a_cd y) pc = .ok (.ldc_w ix, 3)) (hw : Cond.constant (a_nm y).cls ix v ∈ a_tb) (hn : pc + 3 = n) : a_Snd y pc (o_pi v n) := by
  intro p l e s m args below meth c D cA ad A hC ls st σ H locs lsC Q hL hS
  obtain ⟨hx, hb, hml, hown, hts, hK, hZ⟩ := hC
  subst hn
  exact fun kk => lv_ldcw hx hb hown (hts _ hw) hd (kk H locs lsC hL hS)
theorem s_pld {y pc n ix : Nat} {v : Int64} (hd : decode (a_cd y) pc = .ok (.ldc2_w ix, 3)) (hw : Cond.constantLong (a_nm y).cls ix v ∈ a_tb) (hn : pc + 3 = n) : a_Snd y pc (o_pl v n) := by
  intro p l e s m args below meth c D cA ad A hC ls st σ H locs lsC Q hL hS
  obtain ⟨hx, hb, hml, hown, hts, hK, hZ⟩ := hC
  subst hn
  exact fun kk => lv_ldc2 hx hb hown (hts _ hw) hd (kk H locs lsC hL hS)
theorem s_iadd {y pc n : Nat} (hd : decode (a_cd y) pc = .ok (.iadd, 1)) (hn : pc + 1 = n) : a_Snd y pc (o_bi f_add n) := by
  intro p l e s m args below meth c D cA ad A hC ls st σ H locs lsC Q hL hS
  obtain ⟨hx, hb, hml, hown, hts, hK, hZ⟩ := hC
  unfold o_bi
  split
  · subst hn
    exact fun kk => lv_iadd hx hb hd (kk H locs lsC hL hS)
  · trivial
theorem s_isub {y pc n : Nat} (hd : decode (a_cd y) pc = .ok (.isub, 1)) (hn : pc + 1 = n) : a_Snd y pc (o_bi f_sub n) := by
  intro p l e s m args below meth c D cA ad A hC ls st σ H locs lsC Q hL hS
  obtain ⟨hx, hb, hml, hown, hts, hK, hZ⟩ := hC
  unfold o_bi
  split
  · subst hn
    exact fun kk => lv_isub hx hb hd (kk H locs lsC hL hS)
  · trivial
theorem s_imul {y pc n : Nat} (hd : decode (a_cd y) pc = .ok (.imul, 1)) (hn : pc + 1 = n) : a_Snd y pc (o_bi f_mul n) := by
  intro p l e s m args below meth c D cA ad A hC ls st σ H locs lsC Q hL hS
  obtain ⟨hx, hb, hml, hown, hts, hK, hZ⟩ := hC
  unfold o_bi
  split
  · subst hn
    exact fun kk => lv_imul hx hb hd (kk H locs lsC hL hS)
  · trivial
theorem s_iand {y pc n : Nat} (hd : decode (a_cd y) pc = .ok (.iand, 1)) (hn : pc + 1 = n) : a_Snd y pc (o_bi f_and n) := by
  intro p l e s m args below meth c D cA ad A hC ls st σ H locs lsC Q hL hS
  obtain ⟨hx, hb, hml, hown, hts, hK, hZ⟩ := hC
  unfold o_bi
  split
  · subst hn
    exact fun kk => lv_iand hx hb hd (kk H locs lsC hL hS)
  · trivial
theorem s_ior {y pc n : Nat} (hd : decode (a_cd y) pc = .ok (.ior, 1)) (hn : pc + 1 = n) : a_Snd y pc (o_bi f_or n) := by
  intro p l e s m args below meth c D cA ad A hC ls st σ H locs lsC Q hL hS
  obtain ⟨hx, hb, hml, hown, hts, hK, hZ⟩ := hC
  unfold o_bi
  split
  · subst hn
    exact fun kk => lv_ior hx hb hd (kk H locs lsC hL hS)
  · trivial
theorem s_ixor {y pc n : Nat} (hd : decode (a_cd y) pc = .ok (.ixor, 1)) (hn : pc + 1 = n) : a_Snd y pc (o_bi f_xor n) := by
  intro p l e s m args below meth c D cA ad A hC ls st σ H locs lsC Q hL hS
  obtain ⟨hx, hb, hml, hown, hts, hK, hZ⟩ := hC
  unfold o_bi
  split
  · subst hn
    exact fun kk => lv_ixor hx hb hd (kk H locs lsC hL hS)
  · trivial
theorem s_ishl {y pc n : Nat} (hd : decode (a_cd y) pc = .ok (.ishl, 1)) (hn : pc + 1 = n) : a_Snd y pc (o_bi f_shl n) := by
  intro p l e s m args below meth c D cA ad A hC ls st σ H locs lsC Q hL hS
  obtain ⟨hx, hb, hml, hown, hts, hK, hZ⟩ := hC
  unfold o_bi
  split
  · subst hn
    exact fun kk => lv_ishl hx hb hd (kk H locs lsC hL hS)
  · trivial
theorem s_ishr {y pc n : Nat} (hd : decode (a_cd y) pc = .ok (.ishr, 1)) (hn : pc + 1 = n) : a_Snd y pc (o_bi f_shr n) := by
  intro p l e s m args below meth c D cA ad A hC ls st σ H locs lsC Q hL hS
  obtain ⟨hx, hb, hml, hown, hts, hK, hZ⟩ := hC
  unfold o_bi
  split
  · subst hn
    exact fun kk => lv_ishr hx hb hd (kk H locs lsC hL hS)
  · trivial
theorem s_iushr {y pc n : Nat} (hd : decode (a_cd y) pc = .ok (.iushr, 1)) (hn : pc + 1 = n) : a_Snd y pc (o_bi f_ush n) := by
  intro p l e s m args below meth c D cA ad A hC ls st σ H locs lsC Q hL hS
  obtain ⟨hx, hb, hml, hown, hts, hK, hZ⟩ := hC
  unfold o_bi
  split
  · subst hn
    exact fun kk => lv_iushr hx hb hd rfl (kk H locs lsC hL hS)
  · trivial
theorem s_idiv {y pc n : Nat} (hd : decode (a_cd y) pc = .ok (.idiv, 1)) (hn : pc + 1 = n) : a_Snd y pc (o_bd f_div n) := by
  intro p l e s m args below meth c D cA ad A hC ls st σ H locs lsC Q hL hS
  obtain ⟨hx, hb, hml, hown, hts, hK, hZ⟩ := hC
  unfold o_bd
  split
  · split
    · trivial
    · rename_i h0
      subst hn
      exact fun kk => lv_idiv hx hb hd h0 (kk H locs lsC hL hS)
  · trivial
theorem s_irem {y pc n : Nat} (hd : decode (a_cd y) pc = .ok (.irem, 1)) (hn : pc + 1 = n) : a_Snd y pc (o_bd f_rem n) := by
  intro p l e s m args below meth c D cA ad A hC ls st σ H locs lsC Q hL hS
  obtain ⟨hx, hb, hml, hown, hts, hK, hZ⟩ := hC
  unfold o_bd
  split
  · split
    · trivial
    · rename_i h0
      subst hn
      exact fun kk => lv_irem hx hb hd h0 (kk H locs lsC hL hS)
  · trivial
theorem s_ladd {y pc n : Nat} (hd : decode (a_cd y) pc = .ok (.ladd, 1)) (hn : pc + 1 = n) : a_Snd y pc (o_bl g_add n) := by
  intro p l e s m args below meth c D cA ad A hC ls st σ H locs lsC Q hL hS
  obtain ⟨hx, hb, hml, hown, hts, hK, hZ⟩ := hC
  unfold o_bl
  split
  · subst hn
    exact fun kk => lv_ladd hx hb hd (kk H locs lsC hL hS)
  · trivial
theorem s_lsub {y pc n : Nat} (hd : decode (a_cd y) pc = .ok (.lsub, 1)) (hn : pc + 1 = n) : a_Snd y pc (o_bl g_sub n) := by
  intro p l e s m args below meth c D cA ad A hC ls st σ H locs lsC Q hL hS
  obtain ⟨hx, hb, hml, hown, hts, hK, hZ⟩ := hC
  unfold o_bl
  split
  · subst hn
    exact fun kk => lv_lsub hx hb hd (kk H locs lsC hL hS)
  · trivial
theorem s_lmul {y pc n : Nat} (hd : decode (a_cd y) pc = .ok (.lmul, 1)) (hn : pc + 1 = n) : a_Snd y pc (o_bl g_mul n) := by
  intro p l e s m args below meth c D cA ad A hC ls st σ H locs lsC Q hL hS
  obtain ⟨hx, hb, hml, hown, hts, hK, hZ⟩ := hC
  unfold o_bl
  split
  · subst hn
    exact fun kk => lv_lmul hx hb hd (kk H locs lsC hL hS)
  · trivial
theorem s_ldiv {y pc n : Nat} (hd : decode (a_cd y) pc = .ok (.ldiv, 1)) (hn : pc + 1 = n) : a_Snd y pc (o_bm g_div n) := by
  intro p l e s m args below meth c D cA ad A hC ls st σ H locs lsC Q hL hS
  obtain ⟨hx, hb, hml, hown, hts, hK, hZ⟩ := hC
  unfold o_bm
  split
  · split
    · trivial
    · rename_i h0
      subst hn
      exact fun kk => lv_ldiv hx hb hd h0 (kk H locs lsC hL hS)
  · trivial
theorem s_lrem {y pc n : Nat} (hd : decode (a_cd y) pc = .ok (.lrem, 1)) (hn : pc + 1 = n) : a_Snd y pc (o_bm g_rem n) := by
  intro p l e s m args below meth c D cA ad A hC ls st σ H locs lsC Q hL hS
  obtain ⟨hx, hb, hml, hown, hts, hK, hZ⟩ := hC
  unfold o_bm
  split
  · split
    · trivial
    · rename_i h0
      subst hn
      exact fun kk => lv_lrem hx hb hd h0 (kk H locs lsC hL hS)
  · trivial
theorem s_i2l {y pc n : Nat} (hd : decode (a_cd y) pc = .ok (.i2l, 1)) (hn : pc + 1 = n) : a_Snd y pc (o_i2l n) := by
  intro p l e s m args below meth c D cA ad A hC ls st σ H locs lsC Q hL hS
  obtain ⟨hx, hb, hml, hown, hts, hK, hZ⟩ := hC
  unfold o_i2l
  split
  · subst hn
    exact fun kk => lv_i2l hx hb hd rfl (kk H locs lsC hL hS)
  · trivial
theorem s_l2i {y pc n : Nat} (hd : decode (a_cd y) pc = .ok (.l2i, 1)) (hn : pc + 1 = n) : a_Snd y pc (o_l2i n) := by
  intro p l e s m args below meth c D cA ad A hC ls st σ H locs lsC Q hL hS
  obtain ⟨hx, hb, hml, hown, hts, hK, hZ⟩ := hC
  unfold o_l2i
  split
  · subst hn
    exact fun kk => lv_l2i hx hb hd rfl (kk H locs lsC hL hS)
  · trivial
theorem s_i2b {y pc n : Nat} (hd : decode (a_cd y) pc = .ok (.i2b, 1)) (hn : pc + 1 = n) : a_Snd y pc (o_i2b n) := by
  intro p l e s m args below meth c D cA ad A hC ls st σ H locs lsC Q hL hS
  obtain ⟨hx, hb, hml, hown, hts, hK, hZ⟩ := hC
  unfold o_i2b
  split
  · subst hn
    exact fun kk => lv_i2b hx hb hd rfl (kk H locs lsC hL hS)
  · trivial
theorem s_lcmp {y pc n : Nat} (hd : decode (a_cd y) pc = .ok (.lcmp, 1)) (hn : pc + 1 = n) : a_Snd y pc (o_lcmp n) := by
  intro p l e s m args below meth c D cA ad A hC ls st σ H locs lsC Q hL hS
  obtain ⟨hx, hb, hml, hown, hts, hK, hZ⟩ := hC
  unfold o_lcmp
  split
  · subst hn
    exact fun kk => W.lcmp hx hb hd (kk H locs lsC hL hS)
  · trivial
theorem s_dup {y pc n : Nat} (hd : decode (a_cd y) pc = .ok (.dup, 1)) (hn : pc + 1 = n) : a_Snd y pc (o_dup n) := by
  intro p l e s m args below meth c D cA ad A hC ls st σ H locs lsC Q hL hS
  obtain ⟨hx, hb, hml, hown, hts, hK, hZ⟩ := hC
  unfold o_dup
  split
  · subst hn
    exact fun kk => lv_dup hx hb hd rfl (kk H locs lsC hL hS)
  · subst hn
    exact fun kk => lv_dup hx hb hd rfl (kk H locs lsC hL hS)
  · trivial
theorem s_dup2 {y pc n : Nat} (hd : decode (a_cd y) pc = .ok (.dup2, 1)) (hn : pc + 1 = n) : a_Snd y pc (o_dup2 n) := by
  intro p l e s m args below meth c D cA ad A hC ls st σ H locs lsC Q hL hS
  obtain ⟨hx, hb, hml, hown, hts, hK, hZ⟩ := hC
  unfold o_dup2
  split
  · subst hn
    exact fun kk => lv_dup2_11 hx hb hd rfl rfl (kk H locs lsC hL hS)
  · trivial
theorem s_pop {y pc n : Nat} (hd : decode (a_cd y) pc = .ok (.pop, 1)) (hn : pc + 1 = n) : a_Snd y pc (o_pop n) := by
  intro p l e s m args below meth c D cA ad A hC ls st σ H locs lsC Q hL hS
  obtain ⟨hx, hb, hml, hown, hts, hK, hZ⟩ := hC
  unfold o_pop
  split
  · rename_i x r
    subst hn
    exact fun kk => lv_pop (va := .int x) hx hb hd rfl (kk H locs lsC hL hS)
  · trivial
theorem s_ieq {y pc n t : Nat} {off : Int} (hd : decode (a_cd y) pc = .ok (.ifCond .eq off, 3)) (ht : (pc : Int) + off = (t : Int)) (hn : pc + 3 = n) : a_Snd y pc (o_eq t n) := by
  intro p l e s m args below meth c D cA ad A hC ls st σ H locs lsC Q hL hS
  obtain ⟨hx, hb, hml, hown, hts, hK, hZ⟩ := hC
  unfold o_eq
  subst hn
  split
  · split
    · rename_i h
      exact fun kk => lv_if_eq hx hb hd ht (fun _ => kk H locs lsC hL hS) (fun q => absurd h q)
    · rename_i h
      exact fun kk => lv_if_eq hx hb hd ht (fun q => absurd q h) (fun _ => kk H locs lsC hL hS)
  · trivial
theorem s_ine {y pc n t : Nat} {off : Int} (hd : decode (a_cd y) pc = .ok (.ifCond .ne off, 3)) (ht : (pc : Int) + off = (t : Int)) (hn : pc + 3 = n) : a_Snd y pc (o_ne t n) := by
  intro p l e s m args below meth c D cA ad A hC ls st σ H locs lsC Q hL hS
  obtain ⟨hx, hb, hml, hown, hts, hK, hZ⟩ := hC
  unfold o_ne
  subst hn
  split
  · split
    · rename_i h
      exact fun kk => lv_if_ne hx hb hd ht (fun q => absurd h q) (fun _ => kk H locs lsC hL hS)
    · rename_i h
      exact fun kk => lv_if_ne hx hb hd ht (fun _ => kk H locs lsC hL hS) (fun q => absurd q h)
  · trivial
theorem s_ilt {y pc n t : Nat} {off : Int} (hd : decode (a_cd y) pc = .ok (.ifCond .lt off, 3)) (ht : (pc : Int) + off = (t : Int)) (hn : pc + 3 = n) : a_Snd y pc (o_lt t n) := by
  intro p l e s m args below meth c D cA ad A hC ls st σ H locs lsC Q hL hS
  obtain ⟨hx, hb, hml, hown, hts, hK, hZ⟩ := hC
  unfold o_lt
  subst hn
  split
  · split
    · rename_i h
      exact fun kk => lv_if_lt hx hb hd ht (fun _ => kk H locs lsC hL hS) (fun q => absurd h q)
    · rename_i h
      exact fun kk => lv_if_lt hx hb hd ht (fun q => absurd q h) (fun _ => kk H locs lsC hL hS)
  · trivial
theorem s_ige {y pc n t : Nat} {off : Int} (hd : decode (a_cd y) pc = .ok (.ifCond .ge off, 3)) (ht : (pc : Int) + off = (t : Int)) (hn : pc + 3 = n) : a_Snd y pc (o_ge t n) := by
  intro p l e s m args below meth c D cA ad A hC ls st σ H locs lsC Q hL hS
  obtain ⟨hx, hb, hml, hown, hts, hK, hZ⟩ := hC
  unfold o_ge
  subst hn
  split
  · split
    · rename_i h
      exact fun kk => lv_if_ge hx hb hd ht (fun q => absurd h (Int32.not_lt.mpr q)) (fun _ => kk H locs lsC hL hS)
    · rename_i h
      exact fun kk => lv_if_ge hx hb hd ht (fun _ => kk H locs lsC hL hS) (fun q => absurd (Int32.not_lt.mp h) q)
  · trivial
theorem s_igt {y pc n t : Nat} {off : Int} (hd : decode (a_cd y) pc = .ok (.ifCond .gt off, 3)) (ht : (pc : Int) + off = (t : Int)) (hn : pc + 3 = n) : a_Snd y pc (o_gt t n) := by
  intro p l e s m args below meth c D cA ad A hC ls st σ H locs lsC Q hL hS
  obtain ⟨hx, hb, hml, hown, hts, hK, hZ⟩ := hC
  unfold o_gt
  subst hn
  split
  · split
    · rename_i h
      exact fun kk => lv_if_gt hx hb hd ht (fun _ => kk H locs lsC hL hS) (fun q => absurd h q)
    · rename_i h
      exact fun kk => lv_if_gt hx hb hd ht (fun q => absurd q h) (fun _ => kk H locs lsC hL hS)
  · trivial
theorem s_ile {y pc n t : Nat} {off : Int} (hd : decode (a_cd y) pc = .ok (.ifCond .le off, 3)) (ht : (pc : Int) + off = (t : Int)) (hn : pc + 3 = n) : a_Snd y pc (o_le t n) := by
  intro p l e s m args below meth c D cA ad A hC ls st σ H locs lsC Q hL hS
  obtain ⟨hx, hb, hml, hown, hts, hK, hZ⟩ := hC
  unfold o_le
  subst hn
  split
  · split
    · rename_i h
      exact fun kk => lv_if_le hx hb hd ht (fun q => absurd h (Int32.not_lt.mpr q)) (fun _ => kk H locs lsC hL hS)
    · rename_i h
      exact fun kk => lv_if_le hx hb hd ht (fun _ => kk H locs lsC hL hS) (fun q => absurd (Int32.not_lt.mp h) q)
  · trivial
theorem s_ceq {y pc n t : Nat} {off : Int} (hd : decode (a_cd y) pc = .ok (.if_icmp .eq off, 3)) (ht : (pc : Int) + off = (t : Int)) (hn : pc + 3 = n) : a_Snd y pc (o_ceq t n) := by
  intro p l e s m args below meth c D cA ad A hC ls st σ H locs lsC Q hL hS
  obtain ⟨hx, hb, hml, hown, hts, hK, hZ⟩ := hC
  unfold o_ceq
  subst hn
  split
  · split
    · rename_i h
      exact fun kk => lv_icmp_eq hx hb hd ht (fun _ => kk H locs lsC hL hS) (fun q => absurd h q)
    · rename_i h
      exact fun kk => lv_icmp_eq hx hb hd ht (fun q => absurd q h) (fun _ => kk H locs lsC hL hS)
  · trivial
theorem s_cne {y pc n t : Nat} {off : Int} (hd : decode (a_cd y) pc = .ok (.if_icmp .ne off, 3)) (ht : (pc : Int) + off = (t : Int)) (hn : pc + 3 = n) : a_Snd y pc (o_cne t n) := by
  intro p l e s m args below meth c D cA ad A hC ls st σ H locs lsC Q hL hS
  obtain ⟨hx, hb, hml, hown, hts, hK, hZ⟩ := hC
  unfold o_cne
  subst hn
  split
  · split
    · rename_i h
      exact fun kk => lv_icmp_ne hx hb hd ht (fun q => absurd h q) (fun _ => kk H locs lsC hL hS)
    · rename_i h
      exact fun kk => lv_icmp_ne hx hb hd ht (fun _ => kk H locs lsC hL hS) (fun q => absurd q h)
  · trivial
theorem s_clt {y pc n t : Nat} {off : Int} (hd : decode (a_cd y) pc = .ok (.if_icmp .lt off, 3)) (ht : (pc : Int) + off = (t : Int)) (hn : pc + 3 = n) : a_Snd y pc (o_clt t n) := by
  intro p l e s m args below meth c D cA ad A hC ls st σ H locs lsC Q hL hS
  obtain ⟨hx, hb, hml, hown, hts, hK, hZ⟩ := hC
  unfold o_clt
  subst hn
  split
  · split
    · rename_i h
      exact fun kk => lv_icmp_lt hx hb hd ht (fun _ => kk H locs lsC hL hS) (fun q => absurd h q)
    · rename_i h
      exact fun kk => lv_icmp_lt hx hb hd ht (fun q => absurd q h) (fun _ => kk H locs lsC hL hS)
  · trivial
theorem s_cge {y pc n t : Nat} {off : Int} (hd : decode (a_cd y) pc = .ok (.if_icmp .ge off, 3)) (ht : (pc : Int) + off = (t : Int)) (hn : pc + 3 = n) : a_Snd y pc (o_cge t n) := by
  intro p l e s m args below meth c D cA ad A hC ls st σ H locs lsC Q hL hS
  obtain ⟨hx, hb, hml, hown, hts, hK, hZ⟩ := hC
  unfold o_cge
  subst hn
  split
  · split
    · rename_i h
      exact fun kk => lv_icmp_ge hx hb hd ht (fun q => absurd h (Int32.not_lt.mpr q)) (fun _ => kk H locs lsC hL hS)
    · rename_i h
      exact fun kk => lv_icmp_ge hx hb hd ht (fun _ => kk H locs lsC hL hS) (fun q => absurd (Int32.not_lt.mp h) q)
  · trivial
theorem s_cgt {y pc n t : Nat} {off : Int} (hd : decode (a_cd y) pc = .ok (.if_icmp .gt off, 3)) (ht : (pc : Int) + off = (t : Int)) (hn : pc + 3 = n) : a_Snd y pc (o_cgt t n) := by
  intro p l e s m args below meth c D cA ad A hC ls st σ H locs lsC Q hL hS
  obtain ⟨hx, hb, hml, hown, hts, hK, hZ⟩ := hC
  unfold o_cgt
  subst hn
  split
  · split
    · rename_i h
      exact fun kk => lv_icmp_gt hx hb hd ht (fun _ => kk H locs lsC hL hS) (fun q => absurd h q)
    · rename_i h
      exact fun kk => lv_icmp_gt hx hb hd ht (fun q => absurd q h) (fun _ => kk H locs lsC hL hS)
  · trivial
theorem s_cle {y pc n t : Nat} {off : Int} (hd : decode (a_cd y) pc = .ok (.if_icmp .le off, 3)) (ht : (pc : Int) + off = (t : Int)) (hn : pc + 3 = n) : a_Snd y pc (o_cle t n) := by
  intro p l e s m args below meth c D cA ad A hC ls st σ H locs lsC Q hL hS
  obtain ⟨hx, hb, hml, hown, hts, hK, hZ⟩ := hC
  unfold o_cle
  subst hn
  split
  · split
    · rename_i h
      exact fun kk => lv_icmp_le hx hb hd ht (fun q => absurd h (Int32.not_lt.mpr q)) (fun _ => kk H locs lsC hL hS)
    · rename_i h
      exact fun kk => lv_icmp_le hx hb hd ht (fun _ => kk H locs lsC hL hS) (fun q => absurd (Int32.not_lt.mp h) q)
  · trivial
theorem s_go {y pc t : Nat} {off : Int} (hd : decode (a_cd y) pc = .ok (.goto off, 3)) (ht : (pc : Int) + off = (t : Int)) : a_Snd y pc (o_go t) := by
  intro p l e s m args below meth c D cA ad A hC ls st σ H locs lsC Q hL hS
  obtain ⟨hx, hb, hml, hown, hts, hK, hZ⟩ := hC
  exact fun kk => lv_goto hx hb hd ht (kk H locs lsC hL hS)
theorem s_ri {y pc : Nat} (hd : decode (a_cd y) pc = .ok (.ireturn, 1)) (hr : a_rt y = some .int) : a_Snd y pc o_ri := by
  intro p l e s m args below meth c D cA ad A hC ls st σ H locs lsC Q hL hS
  unfold o_ri
  split
  · rename_i x
    exact Or.inl ⟨x, .int, rfl, rfl, hd, hr, rfl⟩
  · trivial
theorem s_rz {y pc : Nat} (hd : decode (a_cd y) pc = .ok (.ireturn, 1)) (hr : a_rt y = some .boolean) : a_Snd y pc o_rz := by
  intro p l e s m args below meth c D cA ad A hC ls st σ H locs lsC Q hL hS
  unfold o_rz
  split
  · rename_i x
    split
    · rename_i h
      refine Or.inl ⟨x, .boolean, rfl, rfl, hd, hr, ?_⟩
      rcases h with rfl | rfl <;> decide
    · trivial
  · trivial
theorem s_rl {y pc : Nat} (hd : decode (a_cd y) pc = .ok (.lreturn, 1)) (hr : a_rt y = some .long) : a_Snd y pc o_rl := by
  intro p l e s m args below meth c D cA ad A hC ls st σ H locs lsC Q hL hS
  unfold o_rl
  split
  · rename_i x
    exact Or.inr (Or.inl ⟨x, rfl, rfl, hd, hr⟩)
  · trivial
theorem s_rv {y pc : Nat} (hd : decode (a_cd y) pc = .ok (.return_, 1)) (hr : a_rt y = none) : a_Snd y pc o_rv := by
  intro p l e s m args below meth c D cA ad A hC ls st σ H locs lsC Q hL hS
  unfold o_rv
  split
  · exact Or.inr (Or.inr ⟨rfl, rfl, hd, hr⟩)
  · trivial
