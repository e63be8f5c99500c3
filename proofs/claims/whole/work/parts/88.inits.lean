/-! constructors: by program (gen_ctor.py) -/
theorem kS.back1 {D : va_G} {A : Nat → Prop} {H0 : Heap} {x w : Nat × va_E} {X T : va_W} {H : Heap} {locs : List Loc} (h : kS D A H0 (w :: x :: (X ++ T)) H locs) : kS D A H0 (x :: (X ++ (w :: T))) H locs := h.re (List.perm_middle (l₁ := x :: X) (l₂ := T) (a := w)).symm
theorem hfs0 : ∀ j, j < 2 → defaultValue (tyX0 j) = vp_V [.long 0, .long 0] j := by
  intro j hj
  rcases (show j = 0 ∨ j = 1 by omega) with rfl | rfl <;> rfl
theorem hfs1 : ∀ j, j < 4 → defaultValue (tyX1 j) = vp_V [.int 0, .null, .null, .null] j := by
  intro j hj
  rcases (show j = 0 ∨ j = 1 ∨ j = 2 ∨ j = 3 by omega) with rfl | rfl | rfl | rfl <;> rfl
theorem hfs2 : ∀ j, j < 10 → defaultValue (tyX2 j) = vp_V [.null, .null, .null, .null, .null, .null, .int 0, .null, .null, .null] j := by
  intro j hj
  rcases (show j = 0 ∨ j = 1 ∨ j = 2 ∨ j = 3 ∨ j = 4 ∨ j = 5 ∨ j = 6 ∨ j = 7 ∨ j = 8 ∨ j = 9 by omega) with rfl | rfl | rfl | rfl | rfl | rfl | rfl | rfl | rfl | rfl <;> rfl
theorem hfs3 : ∀ j, j < 8 → defaultValue (tyX3 j) = vp_V [.int 0, .int 0, .int 0, .int 0, .null, .null, .null, .null] j := by
  intro j hj
  rcases (show j = 0 ∨ j = 1 ∨ j = 2 ∨ j = 3 ∨ j = 4 ∨ j = 5 ∨ j = 6 ∨ j = 7 by omega) with rfl | rfl | rfl | rfl | rfl | rfl | rfl | rfl <;> rfl
theorem hfs4 : ∀ j, j < 2 → defaultValue (tyX4 j) = vp_V [.int 0, .null] j := by
  intro j hj
  rcases (show j = 0 ∨ j = 1 by omega) with rfl | rfl <;> rfl
theorem hfs5 : ∀ j, j < 4 → defaultValue (tyX5 j) = vp_V [.int 0, .null, .null, .null] j := by
  intro j hj
  rcases (show j = 0 ∨ j = 1 ∨ j = 2 ∨ j = 3 by omega) with rfl | rfl | rfl | rfl <;> rfl
theorem hfs6 : ∀ j, j < 8 → defaultValue (tyX6 j) = vp_V [.int 0, .int 0, .null, .null, .int 0, .int 0, .int 0, .int 0] j := by
  intro j hj
  rcases (show j = 0 ∨ j = 1 ∨ j = 2 ∨ j = 3 ∨ j = 4 ∨ j = 5 ∨ j = 6 ∨ j = 7 by omega) with rfl | rfl | rfl | rfl | rfl | rfl | rfl | rfl <;> rfl
theorem hfs7 : ∀ j, j < 13 → defaultValue (tyX7 j) = vp_V [.null, .null, .null, .null, .null, .null, .null, .null, .null, .null, .null, .null, .null] j := by
  intro j hj
  rcases (show j = 0 ∨ j = 1 ∨ j = 2 ∨ j = 3 ∨ j = 4 ∨ j = 5 ∨ j = 6 ∨ j = 7 ∨ j = 8 ∨ j = 9 ∨ j = 10 ∨ j = 11 ∨ j = 12 by omega) with rfl | rfl | rfl | rfl | rfl | rfl | rfl | rfl | rfl | rfl | rfl | rfl | rfl <;> rfl
theorem hfs8 : ∀ j, j < 19 → defaultValue (tyX8 j) = vp_V [.null, .null, .null, .null, .null, .null, .int 0, .long 0, .long 0, .null, .int 0, .int 0, .int 0, .long 0, .int 0, .null, .int 0, .null, .null] j := by
  intro j hj
  rcases (show j = 0 ∨ j = 1 ∨ j = 2 ∨ j = 3 ∨ j = 4 ∨ j = 5 ∨ j = 6 ∨ j = 7 ∨ j = 8 ∨ j = 9 ∨ j = 10 ∨ j = 11 ∨ j = 12 ∨ j = 13 ∨ j = 14 ∨ j = 15 ∨ j = 16 ∨ j = 17 ∨ j = 18 by omega) with rfl | rfl | rfl | rfl | rfl | rfl | rfl | rfl | rfl | rfl | rfl | rfl | rfl | rfl | rfl | rfl | rfl | rfl | rfl <;> rfl
set_option maxRecDepth 100000 in
set_option maxHeartbeats 4000000 in
theorem k_X0 {l : Launch} {D : va_G} {cA : Nat → ClassId} {A : Nat → Prop} : kCon l D cA A yX0_init cX0_init 1 (k_rm 1 12 0 0) 0 [.long 0, .long 0] (fun h ws ws' => ws' = (h, .inr (0, [.long 0, .long 1])) :: ([] ++ ws)) := by
  intro h ws
  refine a_ofW (cc := cX0_init) (maxL := 1) (ret := none) (by decide +kernel) rfl ?_
  intro p e s m args below meth c s₁ B hml hv
  obtain ⟨rfl, hP, hK, hD, hA, hN⟩ := hv
  have hx := B.exec
  have hb := B.bytes
  have hr := B.returns
  have hts0 := atoms_spec (ws := s_ws yX0_init cX0_init 1 none) B.pre
  have hts := fun w hw => hts0 w (List.mem_cons_of_mem _ hw)
  have hown : s.vm.findClass "NetLaw$Fraction" = some m.cls := findClass_of_methodNamed B.named
  have hlocks := B.notSynchronized
  have hin : meth.name = "<init>" := (name_of_methodNamed B.named B.method).1
  have X : kX p s m _ c cX0_init 1 "NetLaw$Fraction" D cA A := ⟨hx, hb, hml, hown, hts, hK, hA, hN⟩
  have hS : kS D A s.heap ((h, .inr (0, [.long 0, .long 0])) :: ws) s.heap [] := ⟨hP, hD, va_S.rf⟩
  have hl := lv_entry ([.ref h]) (n := 1) (Nat.le_of_ble_eq_true rfl)
  rw [lg_entry_eq]
  generalize (lg_sl ([.ref h]) ++ List.replicate (1 - (lg_sl ([.ref h])).length) Slot.unset).toArray = ls at hl ⊢
  have hl : lv_has ls 1 [(0, .ref h)] := hl
  refine lv_aload_n hx hb (show decode cX0_init 0 = .ok (.aload_n 0, 1) by decide +kernel) rfl (lv_at hl 0 rfl) ?_
  refine k_obj X (sw_mk (i := 153) (by decide +kernel) (by decide +kernel)) hl.1 (show decode cX0_init 1 = .ok (.invokespecial 1, 3) by decide +kernel) (Nat.le_of_ble_eq_true rfl) (Nat.le_of_ble_eq_true rfl) ?_
  refine lv_aload_n hx hb (show decode cX0_init 4 = .ok (.aload_n 0, 1) by decide +kernel) rfl (lv_at hl 0 rfl) ?_
  refine lv_lconst (v := 0) hx hb (show decode cX0_init 5 = .ok (.lconst 0, 1) by decide +kernel) (by decide) ?_
  refine k_put (ci := 0) (v := .long 0) X rfl fin0 tyX0 tyX0_ok nmX0 hS 0 (by decide) (sw_mk (i := 154) (by decide +kernel) (by decide +kernel)) rfl rfl rfl rfl (Nat.le_of_ble_eq_true rfl) (show decode cX0_init 6 = .ok (.putfield 7, 3) by decide +kernel) (fun H locs hS => ?_)
  refine lv_aload_n hx hb (show decode cX0_init 9 = .ok (.aload_n 0, 1) by decide +kernel) rfl (lv_at hl 0 rfl) ?_
  refine lv_lconst (v := 1) hx hb (show decode cX0_init 10 = .ok (.lconst 1, 1) by decide +kernel) (by decide) ?_
  refine k_put (ci := 0) (v := .long 1) X rfl fin0 tyX0 tyX0_ok nmX0 hS 1 (by decide) (sw_mk (i := 156) (by decide +kernel) (by decide +kernel)) rfl rfl rfl rfl (Nat.le_of_ble_eq_true rfl) (show decode cX0_init 11 = .ok (.putfield 13, 3) by decide +kernel) (fun H locs hS => ?_)
  exact W.vret hx hb hr (fun t ht hW => ⟨rfl, ⟨_, rfl, by rw [ht]; exact hS.1, hS.2.1⟩, hS.2.2.F ht⟩) (fun q hq => hS.2.2.2.2 q hq) (show decode cX0_init 14 = .ok (.return_, 1) by decide +kernel)
set_option maxRecDepth 100000 in
set_option maxHeartbeats 4000000 in
theorem k_X2 {l : Launch} {D : va_G} {cA : Nat → ClassId} {A : Nat → Prop} : kCon l D cA A yX2_init cX2_init 1 (k_rm 1 12 9 532) 2 [.null, .null, .null, .null, .null, .null, .int 0, .null, .null, .null] (fun h ws ws' => ∃ q1 q2 q3 q4 q5 q6 q7 q8 q9 : Nat, ws' = (h, .inr (2, [.ref q1, .ref q2, .ref q3, .ref q4, .ref q5, .ref q6, .int 0, .ref q7, .ref q8, .ref q9])) :: ([(q9, .inl (cA 0, 310, .inl (fun _ => 0))), (q8, .inl (cA 0, 160, .inl (fun _ => 0))), (q7, .inl (cA 0, 16, .inl (fun _ => 0))), (q6, .inl (cA 0, 2, .inl (fun _ => 0))), (q5, .inl (cA 0, 2, .inl (fun _ => 0))), (q4, .inl (cA 0, 8, .inl (fun _ => 0))), (q3, .inl (cA 0, 2, .inl (fun _ => 0))), (q2, .inl (cA 0, 16, .inl (fun _ => 0))), (q1, .inl (cA 0, 16, .inl (fun _ => 0)))] ++ ws)) := by
  intro h ws
  refine a_ofW (cc := cX2_init) (maxL := 1) (ret := none) (by decide +kernel) rfl ?_
  intro p e s m args below meth c s₁ B hml hv
  obtain ⟨rfl, hP, hK, hD, hA, hN⟩ := hv
  have hx := B.exec
  have hb := B.bytes
  have hr := B.returns
  have hts0 := atoms_spec (ws := s_ws yX2_init cX2_init 1 none) B.pre
  have hts := fun w hw => hts0 w (List.mem_cons_of_mem _ hw)
  have hown : s.vm.findClass "NetLaw$Mending" = some m.cls := findClass_of_methodNamed B.named
  have hlocks := B.notSynchronized
  have hin : meth.name = "<init>" := (name_of_methodNamed B.named B.method).1
  have X : kX p s m _ c cX2_init 1 "NetLaw$Mending" D cA A := ⟨hx, hb, hml, hown, hts, hK, hA, hN⟩
  have hS : kS D A s.heap ((h, .inr (2, [.null, .null, .null, .null, .null, .null, .int 0, .null, .null, .null])) :: ws) s.heap [] := ⟨hP, hD, va_S.rf⟩
  have hl := lv_entry ([.ref h]) (n := 1) (Nat.le_of_ble_eq_true rfl)
  rw [lg_entry_eq]
  generalize (lg_sl ([.ref h]) ++ List.replicate (1 - (lg_sl ([.ref h])).length) Slot.unset).toArray = ls at hl ⊢
  have hl : lv_has ls 1 [(0, .ref h)] := hl
  refine lv_aload_n hx hb (show decode cX2_init 0 = .ok (.aload_n 0, 1) by decide +kernel) rfl (lv_at hl 0 rfl) ?_
  refine k_obj X (sw_mk (i := 168) (by decide +kernel) (by decide +kernel)) hl.1 (show decode cX2_init 1 = .ok (.invokespecial 3, 3) by decide +kernel) (Nat.le_of_ble_eq_true rfl) (Nat.le_of_ble_eq_true rfl) ?_
  refine lv_aload_n hx hb (show decode cX2_init 4 = .ok (.aload_n 0, 1) by decide +kernel) rfl (lv_at hl 0 rfl) ?_
  refine lv_bipush (v := nI 16) hx hb (show decode cX2_init 5 = .ok (.bipush 16, 2) by decide +kernel) (by decide) ?_
  refine k_newa (t := 0) X (Or.inl ⟨rfl, rfl⟩) (by decide) hS (Nat.le_of_ble_eq_true rfl) (Nat.le_of_ble_eq_true rfl) (show decode cX2_init 7 = .ok (.newarray .int, 2) by decide +kernel) (fun q1 H hS => ?_)
  refine k_putF (ci := 2) X rfl fin2 tyX2 tyX2_ok nmX2 hS 0 (by decide) (sw_mk (i := 169) (by decide +kernel) (by decide +kernel)) rfl rfl hin rfl rfl rfl (Nat.le_of_ble_eq_true rfl) (show decode cX2_init 9 = .ok (.putfield 9, 3) by decide +kernel) (fun H locs hS => ?_)
  refine lv_aload_n hx hb (show decode cX2_init 12 = .ok (.aload_n 0, 1) by decide +kernel) rfl (lv_at hl 0 rfl) ?_
  refine lv_bipush (v := nI 16) hx hb (show decode cX2_init 13 = .ok (.bipush 16, 2) by decide +kernel) (by decide) ?_
  refine k_newa (t := 0) X (Or.inl ⟨rfl, rfl⟩) (by decide) hS (Nat.le_of_ble_eq_true rfl) (Nat.le_of_ble_eq_true rfl) (show decode cX2_init 15 = .ok (.newarray .int, 2) by decide +kernel) (fun q2 H hS => ?_)
  refine k_putF (ci := 2) X rfl fin2 tyX2 tyX2_ok nmX2 hS 1 (by decide) (sw_mk (i := 171) (by decide +kernel) (by decide +kernel)) rfl rfl hin rfl rfl rfl (Nat.le_of_ble_eq_true rfl) (show decode cX2_init 17 = .ok (.putfield 15, 3) by decide +kernel) (fun H locs hS => ?_)
  refine lv_aload_n hx hb (show decode cX2_init 20 = .ok (.aload_n 0, 1) by decide +kernel) rfl (lv_at hl 0 rfl) ?_
  refine lv_iconst (v := nI 2) hx hb (show decode cX2_init 21 = .ok (.iconst 2, 1) by decide +kernel) (by decide) ?_
  refine k_newa (t := 0) X (Or.inl ⟨rfl, rfl⟩) (by decide) hS (Nat.le_of_ble_eq_true rfl) (Nat.le_of_ble_eq_true rfl) (show decode cX2_init 22 = .ok (.newarray .int, 2) by decide +kernel) (fun q3 H hS => ?_)
  refine k_putF (ci := 2) X rfl fin2 tyX2 tyX2_ok nmX2 hS 2 (by decide) (sw_mk (i := 172) (by decide +kernel) (by decide +kernel)) rfl rfl hin rfl rfl rfl (Nat.le_of_ble_eq_true rfl) (show decode cX2_init 24 = .ok (.putfield 18, 3) by decide +kernel) (fun H locs hS => ?_)
  refine lv_aload_n hx hb (show decode cX2_init 27 = .ok (.aload_n 0, 1) by decide +kernel) rfl (lv_at hl 0 rfl) ?_
  refine lv_bipush (v := nI 8) hx hb (show decode cX2_init 28 = .ok (.bipush 8, 2) by decide +kernel) (by decide) ?_
  refine k_newa (t := 0) X (Or.inl ⟨rfl, rfl⟩) (by decide) hS (Nat.le_of_ble_eq_true rfl) (Nat.le_of_ble_eq_true rfl) (show decode cX2_init 30 = .ok (.newarray .int, 2) by decide +kernel) (fun q4 H hS => ?_)
  refine k_putF (ci := 2) X rfl fin2 tyX2 tyX2_ok nmX2 hS 3 (by decide) (sw_mk (i := 173) (by decide +kernel) (by decide +kernel)) rfl rfl hin rfl rfl rfl (Nat.le_of_ble_eq_true rfl) (show decode cX2_init 32 = .ok (.putfield 21, 3) by decide +kernel) (fun H locs hS => ?_)
  refine lv_aload_n hx hb (show decode cX2_init 35 = .ok (.aload_n 0, 1) by decide +kernel) rfl (lv_at hl 0 rfl) ?_
  refine lv_iconst (v := nI 2) hx hb (show decode cX2_init 36 = .ok (.iconst 2, 1) by decide +kernel) (by decide) ?_
  refine k_newa (t := 0) X (Or.inl ⟨rfl, rfl⟩) (by decide) hS (Nat.le_of_ble_eq_true rfl) (Nat.le_of_ble_eq_true rfl) (show decode cX2_init 37 = .ok (.newarray .int, 2) by decide +kernel) (fun q5 H hS => ?_)
  refine k_putF (ci := 2) X rfl fin2 tyX2 tyX2_ok nmX2 hS 4 (by decide) (sw_mk (i := 174) (by decide +kernel) (by decide +kernel)) rfl rfl hin rfl rfl rfl (Nat.le_of_ble_eq_true rfl) (show decode cX2_init 39 = .ok (.putfield 24, 3) by decide +kernel) (fun H locs hS => ?_)
  refine lv_aload_n hx hb (show decode cX2_init 42 = .ok (.aload_n 0, 1) by decide +kernel) rfl (lv_at hl 0 rfl) ?_
  refine lv_iconst (v := nI 2) hx hb (show decode cX2_init 43 = .ok (.iconst 2, 1) by decide +kernel) (by decide) ?_
  refine k_newa (t := 0) X (Or.inl ⟨rfl, rfl⟩) (by decide) hS (Nat.le_of_ble_eq_true rfl) (Nat.le_of_ble_eq_true rfl) (show decode cX2_init 44 = .ok (.newarray .int, 2) by decide +kernel) (fun q6 H hS => ?_)
  refine k_putF (ci := 2) X rfl fin2 tyX2 tyX2_ok nmX2 hS 5 (by decide) (sw_mk (i := 175) (by decide +kernel) (by decide +kernel)) rfl rfl hin rfl rfl rfl (Nat.le_of_ble_eq_true rfl) (show decode cX2_init 46 = .ok (.putfield 27, 3) by decide +kernel) (fun H locs hS => ?_)
  refine lv_aload_n hx hb (show decode cX2_init 49 = .ok (.aload_n 0, 1) by decide +kernel) rfl (lv_at hl 0 rfl) ?_
  refine lv_bipush (v := nI 16) hx hb (show decode cX2_init 50 = .ok (.bipush 16, 2) by decide +kernel) (by decide) ?_
  refine k_newa (t := 0) X (Or.inl ⟨rfl, rfl⟩) (by decide) hS (Nat.le_of_ble_eq_true rfl) (Nat.le_of_ble_eq_true rfl) (show decode cX2_init 52 = .ok (.newarray .int, 2) by decide +kernel) (fun q7 H hS => ?_)
  refine k_putF (ci := 2) X rfl fin2 tyX2 tyX2_ok nmX2 hS 7 (by decide) (sw_mk (i := 177) (by decide +kernel) (by decide +kernel)) rfl rfl hin rfl rfl rfl (Nat.le_of_ble_eq_true rfl) (show decode cX2_init 54 = .ok (.putfield 30, 3) by decide +kernel) (fun H locs hS => ?_)
  refine lv_aload_n hx hb (show decode cX2_init 57 = .ok (.aload_n 0, 1) by decide +kernel) rfl (lv_at hl 0 rfl) ?_
  refine lv_sipush (v := nI 160) hx hb (show decode cX2_init 58 = .ok (.sipush 160, 3) by decide +kernel) (by decide) ?_
  refine k_newa (t := 0) X (Or.inl ⟨rfl, rfl⟩) (by decide) hS (Nat.le_of_ble_eq_true rfl) (Nat.le_of_ble_eq_true rfl) (show decode cX2_init 61 = .ok (.newarray .int, 2) by decide +kernel) (fun q8 H hS => ?_)
  refine k_putF (ci := 2) X rfl fin2 tyX2 tyX2_ok nmX2 hS 8 (by decide) (sw_mk (i := 178) (by decide +kernel) (by decide +kernel)) rfl rfl hin rfl rfl rfl (Nat.le_of_ble_eq_true rfl) (show decode cX2_init 63 = .ok (.putfield 33, 3) by decide +kernel) (fun H locs hS => ?_)
  refine lv_aload_n hx hb (show decode cX2_init 66 = .ok (.aload_n 0, 1) by decide +kernel) rfl (lv_at hl 0 rfl) ?_
  refine lv_sipush (v := nI 310) hx hb (show decode cX2_init 67 = .ok (.sipush 310, 3) by decide +kernel) (by decide) ?_
  refine k_newa (t := 0) X (Or.inl ⟨rfl, rfl⟩) (by decide) hS (Nat.le_of_ble_eq_true rfl) (Nat.le_of_ble_eq_true rfl) (show decode cX2_init 70 = .ok (.newarray .int, 2) by decide +kernel) (fun q9 H hS => ?_)
  refine k_putF (ci := 2) X rfl fin2 tyX2 tyX2_ok nmX2 hS 9 (by decide) (sw_mk (i := 179) (by decide +kernel) (by decide +kernel)) rfl rfl hin rfl rfl rfl (Nat.le_of_ble_eq_true rfl) (show decode cX2_init 72 = .ok (.putfield 36, 3) by decide +kernel) (fun H locs hS => ?_)
  exact W.vret hx hb hr (fun t ht hW => ⟨rfl, ⟨_, ⟨q1, q2, q3, q4, q5, q6, q7, q8, q9, rfl⟩, by rw [ht]; exact hS.1, hS.2.1⟩, hS.2.2.F ht⟩) (fun q hq => hS.2.2.2.2 q hq) (show decode cX2_init 75 = .ok (.return_, 1) by decide +kernel)
set_option maxRecDepth 100000 in
set_option maxHeartbeats 4000000 in
theorem k_X4 {l : Launch} {D : va_G} {cA : Nat → ClassId} {A : Nat → Prop} : kCon l D cA A yX4_init cX4_init 1 (k_rm 1 12 1 400) 4 [.int 0, .null] (fun h ws ws' => ∃ q1 : Nat, ws' = (h, .inr (4, [.int 0, .ref q1])) :: ([(q1, .inl (cA 0, 400, .inl (fun _ => 0)))] ++ ws)) := by
  intro h ws
  refine a_ofW (cc := cX4_init) (maxL := 1) (ret := none) (by decide +kernel) rfl ?_
  intro p e s m args below meth c s₁ B hml hv
  obtain ⟨rfl, hP, hK, hD, hA, hN⟩ := hv
  have hx := B.exec
  have hb := B.bytes
  have hr := B.returns
  have hts0 := atoms_spec (ws := s_ws yX4_init cX4_init 1 none) B.pre
  have hts := fun w hw => hts0 w (List.mem_cons_of_mem _ hw)
  have hown : s.vm.findClass "NetLaw$Past" = some m.cls := findClass_of_methodNamed B.named
  have hlocks := B.notSynchronized
  have hin : meth.name = "<init>" := (name_of_methodNamed B.named B.method).1
  have X : kX p s m _ c cX4_init 1 "NetLaw$Past" D cA A := ⟨hx, hb, hml, hown, hts, hK, hA, hN⟩
  have hS : kS D A s.heap ((h, .inr (4, [.int 0, .null])) :: ws) s.heap [] := ⟨hP, hD, va_S.rf⟩
  have hl := lv_entry ([.ref h]) (n := 1) (Nat.le_of_ble_eq_true rfl)
  rw [lg_entry_eq]
  generalize (lg_sl ([.ref h]) ++ List.replicate (1 - (lg_sl ([.ref h])).length) Slot.unset).toArray = ls at hl ⊢
  have hl : lv_has ls 1 [(0, .ref h)] := hl
  refine lv_aload_n hx hb (show decode cX4_init 0 = .ok (.aload_n 0, 1) by decide +kernel) rfl (lv_at hl 0 rfl) ?_
  refine k_obj X (sw_mk (i := 83) (by decide +kernel) (by decide +kernel)) hl.1 (show decode cX4_init 1 = .ok (.invokespecial 5, 3) by decide +kernel) (Nat.le_of_ble_eq_true rfl) (Nat.le_of_ble_eq_true rfl) ?_
  refine lv_aload_n hx hb (show decode cX4_init 4 = .ok (.aload_n 0, 1) by decide +kernel) rfl (lv_at hl 0 rfl) ?_
  refine lv_sipush (v := nI 400) hx hb (show decode cX4_init 5 = .ok (.sipush 400, 3) by decide +kernel) (by decide) ?_
  refine k_newa (t := 0) X (Or.inl ⟨rfl, rfl⟩) (by decide) hS (Nat.le_of_ble_eq_true rfl) (Nat.le_of_ble_eq_true rfl) (show decode cX4_init 8 = .ok (.newarray .int, 2) by decide +kernel) (fun q1 H hS => ?_)
  refine k_putF (ci := 4) X rfl fin4 tyX4 tyX4_ok nmX4 hS 1 (by decide) (sw_mk (i := 86) (by decide +kernel) (by decide +kernel)) rfl rfl hin rfl rfl rfl (Nat.le_of_ble_eq_true rfl) (show decode cX4_init 10 = .ok (.putfield 11, 3) by decide +kernel) (fun H locs hS => ?_)
  exact W.vret hx hb hr (fun t ht hW => ⟨rfl, ⟨_, ⟨q1, rfl⟩, by rw [ht]; exact hS.1, hS.2.1⟩, hS.2.2.F ht⟩) (fun q hq => hS.2.2.2.2 q hq) (show decode cX4_init 13 = .ok (.return_, 1) by decide +kernel)
set_option maxRecDepth 100000 in
set_option maxHeartbeats 4000000 in
theorem k_X5 {l : Launch} {D : va_G} {cA : Nat → ClassId} {A : Nat → Prop} : kCon l D cA A yX5_init cX5_init 1 (k_rm 1 12 3 18) 5 [.int 0, .null, .null, .null] (fun h ws ws' => ∃ q1 q2 q3 : Nat, ws' = (h, .inr (5, [.int 0, .ref q1, .ref q2, .ref q3])) :: ([(q3, .inl (cA 0, 6, .inl (fun _ => 0))), (q2, .inl (cA 0, 6, .inl (fun _ => 0))), (q1, .inl (cA 0, 6, .inl (fun _ => 0)))] ++ ws)) := by
  intro h ws
  refine a_ofW (cc := cX5_init) (maxL := 1) (ret := none) (by decide +kernel) rfl ?_
  intro p e s m args below meth c s₁ B hml hv
  obtain ⟨rfl, hP, hK, hD, hA, hN⟩ := hv
  have hx := B.exec
  have hb := B.bytes
  have hr := B.returns
  have hts0 := atoms_spec (ws := s_ws yX5_init cX5_init 1 none) B.pre
  have hts := fun w hw => hts0 w (List.mem_cons_of_mem _ hw)
  have hown : s.vm.findClass "NetLaw$Readings" = some m.cls := findClass_of_methodNamed B.named
  have hlocks := B.notSynchronized
  have hin : meth.name = "<init>" := (name_of_methodNamed B.named B.method).1
  have X : kX p s m _ c cX5_init 1 "NetLaw$Readings" D cA A := ⟨hx, hb, hml, hown, hts, hK, hA, hN⟩
  have hS : kS D A s.heap ((h, .inr (5, [.int 0, .null, .null, .null])) :: ws) s.heap [] := ⟨hP, hD, va_S.rf⟩
  have hl := lv_entry ([.ref h]) (n := 1) (Nat.le_of_ble_eq_true rfl)
  rw [lg_entry_eq]
  generalize (lg_sl ([.ref h]) ++ List.replicate (1 - (lg_sl ([.ref h])).length) Slot.unset).toArray = ls at hl ⊢
  have hl : lv_has ls 1 [(0, .ref h)] := hl
  refine lv_aload_n hx hb (show decode cX5_init 0 = .ok (.aload_n 0, 1) by decide +kernel) rfl (lv_at hl 0 rfl) ?_
  refine k_obj X (sw_mk (i := 97) (by decide +kernel) (by decide +kernel)) hl.1 (show decode cX5_init 1 = .ok (.invokespecial 3, 3) by decide +kernel) (Nat.le_of_ble_eq_true rfl) (Nat.le_of_ble_eq_true rfl) ?_
  refine lv_aload_n hx hb (show decode cX5_init 4 = .ok (.aload_n 0, 1) by decide +kernel) rfl (lv_at hl 0 rfl) ?_
  refine lv_bipush (v := nI 6) hx hb (show decode cX5_init 5 = .ok (.bipush 6, 2) by decide +kernel) (by decide) ?_
  refine k_newa (t := 0) X (Or.inl ⟨rfl, rfl⟩) (by decide) hS (Nat.le_of_ble_eq_true rfl) (Nat.le_of_ble_eq_true rfl) (show decode cX5_init 7 = .ok (.newarray .int, 2) by decide +kernel) (fun q1 H hS => ?_)
  refine k_putF (ci := 5) X rfl fin5 tyX5 tyX5_ok nmX5 hS 1 (by decide) (sw_mk (i := 100) (by decide +kernel) (by decide +kernel)) rfl rfl hin rfl rfl rfl (Nat.le_of_ble_eq_true rfl) (show decode cX5_init 9 = .ok (.putfield 9, 3) by decide +kernel) (fun H locs hS => ?_)
  refine lv_aload_n hx hb (show decode cX5_init 12 = .ok (.aload_n 0, 1) by decide +kernel) rfl (lv_at hl 0 rfl) ?_
  refine lv_bipush (v := nI 6) hx hb (show decode cX5_init 13 = .ok (.bipush 6, 2) by decide +kernel) (by decide) ?_
  refine k_newa (t := 0) X (Or.inl ⟨rfl, rfl⟩) (by decide) hS (Nat.le_of_ble_eq_true rfl) (Nat.le_of_ble_eq_true rfl) (show decode cX5_init 15 = .ok (.newarray .int, 2) by decide +kernel) (fun q2 H hS => ?_)
  refine k_putF (ci := 5) X rfl fin5 tyX5 tyX5_ok nmX5 hS 2 (by decide) (sw_mk (i := 101) (by decide +kernel) (by decide +kernel)) rfl rfl hin rfl rfl rfl (Nat.le_of_ble_eq_true rfl) (show decode cX5_init 17 = .ok (.putfield 15, 3) by decide +kernel) (fun H locs hS => ?_)
  refine lv_aload_n hx hb (show decode cX5_init 20 = .ok (.aload_n 0, 1) by decide +kernel) rfl (lv_at hl 0 rfl) ?_
  refine lv_bipush (v := nI 6) hx hb (show decode cX5_init 21 = .ok (.bipush 6, 2) by decide +kernel) (by decide) ?_
  refine k_newa (t := 0) X (Or.inl ⟨rfl, rfl⟩) (by decide) hS (Nat.le_of_ble_eq_true rfl) (Nat.le_of_ble_eq_true rfl) (show decode cX5_init 23 = .ok (.newarray .int, 2) by decide +kernel) (fun q3 H hS => ?_)
  refine k_putF (ci := 5) X rfl fin5 tyX5 tyX5_ok nmX5 hS 3 (by decide) (sw_mk (i := 102) (by decide +kernel) (by decide +kernel)) rfl rfl hin rfl rfl rfl (Nat.le_of_ble_eq_true rfl) (show decode cX5_init 25 = .ok (.putfield 18, 3) by decide +kernel) (fun H locs hS => ?_)
  exact W.vret hx hb hr (fun t ht hW => ⟨rfl, ⟨_, ⟨q1, q2, q3, rfl⟩, by rw [ht]; exact hS.1, hS.2.1⟩, hS.2.2.F ht⟩) (fun q hq => hS.2.2.2.2 q hq) (show decode cX5_init 28 = .ok (.return_, 1) by decide +kernel)
set_option maxRecDepth 100000 in
set_option maxHeartbeats 4000000 in
theorem k_X6 {l : Launch} {D : va_G} {cA : Nat → ClassId} {A : Nat → Prop} : kCon l D cA A yX6_init cX6_init 1 (k_rm 1 12 2 260) 6 [.int 0, .int 0, .null, .null, .int 0, .int 0, .int 0, .int 0] (fun h ws ws' => ∃ q1 q2 : Nat, ws' = (h, .inr (6, [.int 0, .int 0, .ref q1, .ref q2, .int 0, .int 0, .int 0, .int 0])) :: ([(q2, .inl (cA 0, 110, .inl (fun _ => 0))), (q1, .inl (cA 1, 150, .inl (fun _ => 0)))] ++ ws)) := by
  intro h ws
  refine a_ofW (cc := cX6_init) (maxL := 1) (ret := none) (by decide +kernel) rfl ?_
  intro p e s m args below meth c s₁ B hml hv
  obtain ⟨rfl, hP, hK, hD, hA, hN⟩ := hv
  have hx := B.exec
  have hb := B.bytes
  have hr := B.returns
  have hts0 := atoms_spec (ws := s_ws yX6_init cX6_init 1 none) B.pre
  have hts := fun w hw => hts0 w (List.mem_cons_of_mem _ hw)
  have hown : s.vm.findClass "NetLaw$Text" = some m.cls := findClass_of_methodNamed B.named
  have hlocks := B.notSynchronized
  have hin : meth.name = "<init>" := (name_of_methodNamed B.named B.method).1
  have X : kX p s m _ c cX6_init 1 "NetLaw$Text" D cA A := ⟨hx, hb, hml, hown, hts, hK, hA, hN⟩
  have hS : kS D A s.heap ((h, .inr (6, [.int 0, .int 0, .null, .null, .int 0, .int 0, .int 0, .int 0])) :: ws) s.heap [] := ⟨hP, hD, va_S.rf⟩
  have hl := lv_entry ([.ref h]) (n := 1) (Nat.le_of_ble_eq_true rfl)
  rw [lg_entry_eq]
  generalize (lg_sl ([.ref h]) ++ List.replicate (1 - (lg_sl ([.ref h])).length) Slot.unset).toArray = ls at hl ⊢
  have hl : lv_has ls 1 [(0, .ref h)] := hl
  refine lv_aload_n hx hb (show decode cX6_init 0 = .ok (.aload_n 0, 1) by decide +kernel) rfl (lv_at hl 0 rfl) ?_
  refine k_obj X (sw_mk (i := 119) (by decide +kernel) (by decide +kernel)) hl.1 (show decode cX6_init 1 = .ok (.invokespecial 5, 3) by decide +kernel) (Nat.le_of_ble_eq_true rfl) (Nat.le_of_ble_eq_true rfl) ?_
  refine lv_aload_n hx hb (show decode cX6_init 4 = .ok (.aload_n 0, 1) by decide +kernel) rfl (lv_at hl 0 rfl) ?_
  refine lv_sipush (v := nI 150) hx hb (show decode cX6_init 5 = .ok (.sipush 150, 3) by decide +kernel) (by decide) ?_
  refine k_newa (t := 1) X (Or.inr (Or.inl ⟨rfl, rfl⟩)) (by decide) hS (Nat.le_of_ble_eq_true rfl) (Nat.le_of_ble_eq_true rfl) (show decode cX6_init 8 = .ok (.newarray .byte, 2) by decide +kernel) (fun q1 H hS => ?_)
  refine k_putF (ci := 6) X rfl fin6 tyX6 tyX6_ok nmX6 hS 2 (by decide) (sw_mk (i := 124) (by decide +kernel) (by decide +kernel)) rfl rfl hin rfl rfl rfl (Nat.le_of_ble_eq_true rfl) (show decode cX6_init 10 = .ok (.putfield 11, 3) by decide +kernel) (fun H locs hS => ?_)
  refine lv_aload_n hx hb (show decode cX6_init 13 = .ok (.aload_n 0, 1) by decide +kernel) rfl (lv_at hl 0 rfl) ?_
  refine lv_bipush (v := nI 110) hx hb (show decode cX6_init 14 = .ok (.bipush 110, 2) by decide +kernel) (by decide) ?_
  refine k_newa (t := 0) X (Or.inl ⟨rfl, rfl⟩) (by decide) hS (Nat.le_of_ble_eq_true rfl) (Nat.le_of_ble_eq_true rfl) (show decode cX6_init 16 = .ok (.newarray .int, 2) by decide +kernel) (fun q2 H hS => ?_)
  refine k_putF (ci := 6) X rfl fin6 tyX6 tyX6_ok nmX6 hS 3 (by decide) (sw_mk (i := 125) (by decide +kernel) (by decide +kernel)) rfl rfl hin rfl rfl rfl (Nat.le_of_ble_eq_true rfl) (show decode cX6_init 18 = .ok (.putfield 15, 3) by decide +kernel) (fun H locs hS => ?_)
  exact W.vret hx hb hr (fun t ht hW => ⟨rfl, ⟨_, ⟨q1, q2, rfl⟩, by rw [ht]; exact hS.1, hS.2.1⟩, hS.2.2.F ht⟩) (fun q hq => hS.2.2.2.2 q hq) (show decode cX6_init 21 = .ok (.return_, 1) by decide +kernel)
set_option maxRecDepth 100000 in
set_option maxHeartbeats 4000000 in
theorem k_X3 {l : Launch} {D : va_G} {cA : Nat → ClassId} {A : Nat → Prop} : kCon l D cA A yX3_init cX3_init 1 (k_rm 1 23 4 57) 3 [.int 0, .int 0, .int 0, .int 0, .null, .null, .null, .null] (fun h ws ws' => ∃ q1 q2 q3 q4 : Nat, ws' = (h, .inr (3, [.int 0, .int 0, .int 0, .int 0, .ref q1, .ref q2, .ref q3, .ref q4])) :: ([(q4, .inl (cA 0, 9, .inl (fun j => if j < 9 then nI 9 else 0))), (q3, .inl (cA 0, 16, .inl (fun _ => 0))), (q2, .inl (cA 0, 16, .inl (fun _ => 0))), (q1, .inl (cA 0, 16, .inl (fun _ => 0)))] ++ ws)) := by
  intro h ws
  refine a_ofW (cc := cX3_init) (maxL := 1) (ret := none) (by decide +kernel) rfl ?_
  intro p e s m args below meth c s₁ B hml hv
  obtain ⟨rfl, hP, hK, hD, hA, hN⟩ := hv
  have hx := B.exec
  have hb := B.bytes
  have hr := B.returns
  have hts0 := atoms_spec (ws := s_ws yX3_init cX3_init 1 none) B.pre
  have hts := fun w hw => hts0 w (List.mem_cons_of_mem _ hw)
  have hown : s.vm.findClass "NetLaw$Net" = some m.cls := findClass_of_methodNamed B.named
  have hlocks := B.notSynchronized
  have hin : meth.name = "<init>" := (name_of_methodNamed B.named B.method).1
  have X : kX p s m _ c cX3_init 1 "NetLaw$Net" D cA A := ⟨hx, hb, hml, hown, hts, hK, hA, hN⟩
  have hS : kS D A s.heap ((h, .inr (3, [.int 0, .int 0, .int 0, .int 0, .null, .null, .null, .null])) :: ws) s.heap [] := ⟨hP, hD, va_S.rf⟩
  have hl := lv_entry ([.ref h]) (n := 1) (Nat.le_of_ble_eq_true rfl)
  rw [lg_entry_eq]
  generalize (lg_sl ([.ref h]) ++ List.replicate (1 - (lg_sl ([.ref h])).length) Slot.unset).toArray = ls at hl ⊢
  have hl : lv_has ls 1 [(0, .ref h)] := hl
  refine lv_aload_n hx hb (show decode cX3_init 0 = .ok (.aload_n 0, 1) by decide +kernel) rfl (lv_at hl 0 rfl) ?_
  refine k_obj X (sw_mk (i := 31) (by decide +kernel) (by decide +kernel)) hl.1 (show decode cX3_init 1 = .ok (.invokespecial 3, 3) by decide +kernel) (Nat.le_of_ble_eq_true rfl) (Nat.le_of_ble_eq_true rfl) ?_
  refine lv_aload_n hx hb (show decode cX3_init 4 = .ok (.aload_n 0, 1) by decide +kernel) rfl (lv_at hl 0 rfl) ?_
  refine lv_bipush (v := nI 16) hx hb (show decode cX3_init 5 = .ok (.bipush 16, 2) by decide +kernel) (by decide) ?_
  refine k_newa (t := 0) X (Or.inl ⟨rfl, rfl⟩) (by decide) hS (Nat.le_of_ble_eq_true rfl) (Nat.le_of_ble_eq_true rfl) (show decode cX3_init 7 = .ok (.newarray .int, 2) by decide +kernel) (fun q1 H hS => ?_)
  refine k_putF (ci := 3) X rfl fin3 tyX3 tyX3_ok nmX3 hS 4 (by decide) (sw_mk (i := 46) (by decide +kernel) (by decide +kernel)) rfl rfl hin rfl rfl rfl (Nat.le_of_ble_eq_true rfl) (show decode cX3_init 9 = .ok (.putfield 9, 3) by decide +kernel) (fun H locs hS => ?_)
  refine lv_aload_n hx hb (show decode cX3_init 12 = .ok (.aload_n 0, 1) by decide +kernel) rfl (lv_at hl 0 rfl) ?_
  refine lv_bipush (v := nI 16) hx hb (show decode cX3_init 13 = .ok (.bipush 16, 2) by decide +kernel) (by decide) ?_
  refine k_newa (t := 0) X (Or.inl ⟨rfl, rfl⟩) (by decide) hS (Nat.le_of_ble_eq_true rfl) (Nat.le_of_ble_eq_true rfl) (show decode cX3_init 15 = .ok (.newarray .int, 2) by decide +kernel) (fun q2 H hS => ?_)
  refine k_putF (ci := 3) X rfl fin3 tyX3 tyX3_ok nmX3 hS 5 (by decide) (sw_mk (i := 50) (by decide +kernel) (by decide +kernel)) rfl rfl hin rfl rfl rfl (Nat.le_of_ble_eq_true rfl) (show decode cX3_init 17 = .ok (.putfield 15, 3) by decide +kernel) (fun H locs hS => ?_)
  refine lv_aload_n hx hb (show decode cX3_init 20 = .ok (.aload_n 0, 1) by decide +kernel) rfl (lv_at hl 0 rfl) ?_
  refine lv_bipush (v := nI 16) hx hb (show decode cX3_init 21 = .ok (.bipush 16, 2) by decide +kernel) (by decide) ?_
  refine k_newa (t := 0) X (Or.inl ⟨rfl, rfl⟩) (by decide) hS (Nat.le_of_ble_eq_true rfl) (Nat.le_of_ble_eq_true rfl) (show decode cX3_init 23 = .ok (.newarray .int, 2) by decide +kernel) (fun q3 H hS => ?_)
  refine k_putF (ci := 3) X rfl fin3 tyX3 tyX3_ok nmX3 hS 6 (by decide) (sw_mk (i := 54) (by decide +kernel) (by decide +kernel)) rfl rfl hin rfl rfl rfl (Nat.le_of_ble_eq_true rfl) (show decode cX3_init 25 = .ok (.putfield 18, 3) by decide +kernel) (fun H locs hS => ?_)
  refine lv_aload_n hx hb (show decode cX3_init 28 = .ok (.aload_n 0, 1) by decide +kernel) rfl (lv_at hl 0 rfl) ?_
  refine lv_bipush (v := nI 9) hx hb (show decode cX3_init 29 = .ok (.bipush 9, 2) by decide +kernel) (by decide) ?_
  refine k_newa (t := 0) X (Or.inl ⟨rfl, rfl⟩) (by decide) hS (Nat.le_of_ble_eq_true rfl) (Nat.le_of_ble_eq_true rfl) (show decode cX3_init 31 = .ok (.newarray .int, 2) by decide +kernel) (fun q4 H hS => ?_)
  refine k_putF (ci := 3) X rfl fin3 tyX3 tyX3_ok nmX3 hS 7 (by decide) (sw_mk (i := 57) (by decide +kernel) (by decide +kernel)) rfl rfl hin rfl rfl rfl (Nat.le_of_ble_eq_true rfl) (show decode cX3_init 33 = .ok (.putfield 21, 3) by decide +kernel) (fun H locs hS => ?_)
  refine lv_aload_n hx hb (show decode cX3_init 36 = .ok (.aload_n 0, 1) by decide +kernel) rfl (lv_at hl 0 rfl) ?_
  refine va_get (D := D) (ci := 3) (v := .ref q4) (C := RX3) (T := TX3) (N := 8) hx hb hts fin3 hown hK hS.1 0 rfl rfl 7 (by decide) (hts _ (sw_mk (i := 57) (by decide +kernel) (by decide +kernel))) (fun _ h9 => h9) rfl (show decode cX3_init 37 = .ok (.getfield 21, 3) by decide +kernel) ?_
  refine lv_bipush (v := nI 9) hx hb (show decode cX3_init 40 = .ok (.bipush 9, 2) by decide +kernel) (by decide) ?_
  have hS := kS.mid1 (X := []) hS
  refine k_call (va_runS (As := [.ref q4, .int (nI 9)]) (rest := []) ⟨hx, hb, hml, hown, hts⟩ (k_fill (by decide)) ⟨callB_of 2 hts (s_good (sw_mk (i := 34) (by decide +kernel) (by decide +kernel))) rfl rfl rfl (hts _ (sw_mk (i := 3) (by decide +kernel) (by decide +kernel))) (hts _ (sw_mk (i := 32) (by decide +kernel) (by decide +kernel))) (by decide +kernel) ⟨(Nat.le_of_ble_eq_true rfl), (Nat.le_of_ble_eq_true rfl)⟩, hts _ (sw_mk (i := 33) (by decide +kernel) (by decide +kernel))⟩ (k_pre X hS) rfl rfl hl.1 rfl (lv_room (Nat.le_of_ble_eq_true rfl)) (show decode cX3_init 42 = .ok (.invokestatic 24, 3) by decide +kernel) ⟨(Nat.le_of_ble_eq_true rfl), (Nat.le_of_ble_eq_true rfl)⟩) hS.2.2 (fun ws' H locs hR hS => ?_)
  subst hR
  have hS := kS.back1 (X := []) hS
  exact W.vret hx hb hr (fun t ht hW => ⟨rfl, ⟨_, ⟨q1, q2, q3, q4, rfl⟩, by rw [ht]; exact hS.1, hS.2.1⟩, hS.2.2.F ht⟩) (fun q hq => hS.2.2.2.2 q hq) (show decode cX3_init 45 = .ok (.return_, 1) by decide +kernel)
