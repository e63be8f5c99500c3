set_option maxRecDepth 100000 in
set_option maxHeartbeats 4000000 in
theorem k_X1 {l : Launch} {D : va_G} {cA : Nat → ClassId} {A : Nat → Prop} : kCon l D cA A yX1_init cX1_init 1 (k_rm 2 43 11 489) 1 [.int 0, .null, .null, .null] (fun h ws ws' => ∃ q1 q2 q3 q4 q5 q6 q7 q8 q9 q10 q11 : Nat, ws' = (h, .inr (1, [.int 0, .ref q1, .ref q6, .ref q8])) :: ([(q8, .inr (5, [.int 0, .ref q9, .ref q10, .ref q11])), (q11, .inl (cA 0, 6, .inl (fun _ => 0))), (q10, .inl (cA 0, 6, .inl (fun _ => 0))), (q9, .inl (cA 0, 6, .inl (fun _ => 0))), (q6, .inr (4, [.int 0, .ref q7])), (q7, .inl (cA 0, 400, .inl (fun _ => 0))), (q1, .inr (3, [.int 0, .int 0, .int 0, .int 0, .ref q2, .ref q3, .ref q4, .ref q5])), (q5, .inl (cA 0, 9, .inl (fun j => if j < 9 then nI 9 else 0))), (q4, .inl (cA 0, 16, .inl (fun _ => 0))), (q3, .inl (cA 0, 16, .inl (fun _ => 0))), (q2, .inl (cA 0, 16, .inl (fun _ => 0)))] ++ ws)) := by
  intro h ws
  refine a_ofW (cc := cX1_init) (maxL := 1) (ret := none) (by decide +kernel) rfl ?_
  intro p e s m args below meth c s₁ B hml hv
  obtain ⟨rfl, hP, hK, hD, hA, hN⟩ := hv
  have hx := B.exec
  have hb := B.bytes
  have hr := B.returns
  have hts0 := atoms_spec (ws := s_ws yX1_init cX1_init 1 none) B.pre
  have hts := fun w hw => hts0 w (List.mem_cons_of_mem _ hw)
  have hown : s.vm.findClass "NetLaw$Image" = some m.cls := findClass_of_methodNamed B.named
  have hlocks := B.notSynchronized
  have hin : meth.name = "<init>" := (name_of_methodNamed B.named B.method).1
  have X : kX p s m _ c cX1_init 1 "NetLaw$Image" D cA A := ⟨hx, hb, hml, hown, hts, hK, hA, hN⟩
  have hS : kS D A s.heap ((h, .inr (1, [.int 0, .null, .null, .null])) :: ws) s.heap [] := ⟨hP, hD, va_S.rf⟩
  have hl := lv_entry ([.ref h]) (n := 1) (Nat.le_of_ble_eq_true rfl)
  rw [lg_entry_eq]
  generalize (lg_sl ([.ref h]) ++ List.replicate (1 - (lg_sl ([.ref h])).length) Slot.unset).toArray = ls at hl ⊢
  have hl : lv_has ls 1 [(0, .ref h)] := hl
  refine lv_aload_n hx hb (show decode cX1_init 0 = .ok (.aload_n 0, 1) by decide +kernel) rfl (lv_at hl 0 rfl) ?_
  refine k_obj X (sw_mk (i := 205) (by decide +kernel) (by decide +kernel)) hl.1 (show decode cX1_init 1 = .ok (.invokespecial 1, 3) by decide +kernel) (Nat.le_of_ble_eq_true rfl) (Nat.le_of_ble_eq_true rfl) ?_
  refine lv_aload_n hx hb (show decode cX1_init 4 = .ok (.aload_n 0, 1) by decide +kernel) rfl (lv_at hl 0 rfl) ?_
  refine k_newo (ci := 3) (fs := [.int 0, .int 0, .int 0, .int 0, .null, .null, .null, .null]) X rfl fin3 tyX3 tyX3_ok (sw_mk (i := 206) (by decide +kernel) (by decide +kernel)) (sw_mk (i := 27) (by decide +kernel) (by decide +kernel)) (sw_mk (i := 2) (by decide +kernel) (by decide +kernel)) hfs3 hS (Nat.le_of_ble_eq_true rfl) (Nat.le_of_ble_eq_true rfl) (show decode cX1_init 5 = .ok (.new 7, 3) by decide +kernel) (fun q1 H hS => ?_)
  refine lv_dup hx hb (show decode cX1_init 8 = .ok (.dup, 1) by decide +kernel) rfl ?_
  refine k_init X k_X3 (sw_mk (i := 30) (by decide +kernel) (by decide +kernel)) (sw_mk (i := 2) (by decide +kernel) (by decide +kernel)) (sw_mk (i := 207) (by decide +kernel) (by decide +kernel)) (sw_mk (i := 29) (by decide +kernel) (by decide +kernel)) ⟨rfl, by decide +kernel, by decide +kernel, by decide +kernel⟩ ⟨(Nat.le_of_ble_eq_true rfl), (Nat.le_of_ble_eq_true rfl)⟩ hl.1 (Nat.le_of_ble_eq_true rfl) ⟨(Nat.le_of_ble_eq_true rfl), (Nat.le_of_ble_eq_true rfl)⟩ (show decode cX1_init 9 = .ok (.invokespecial 9, 3) by decide +kernel) hS (fun ws' H locs hR hS => ?_)
  obtain ⟨q2, q3, q4, q5, rfl⟩ := hR
  have hS := hS.mid1
  refine k_putF (ci := 1) X rfl fin1 tyX1 tyX1_ok nmX1 hS 1 (by decide) (sw_mk (i := 213) (by decide +kernel) (by decide +kernel)) rfl rfl hin rfl rfl rfl (Nat.le_of_ble_eq_true rfl) (show decode cX1_init 12 = .ok (.putfield 10, 3) by decide +kernel) (fun H locs hS => ?_)
  refine lv_aload_n hx hb (show decode cX1_init 15 = .ok (.aload_n 0, 1) by decide +kernel) rfl (lv_at hl 0 rfl) ?_
  refine k_newo (ci := 4) (fs := [.int 0, .null]) X rfl fin4 tyX4 tyX4_ok (sw_mk (i := 208) (by decide +kernel) (by decide +kernel)) (sw_mk (i := 79) (by decide +kernel) (by decide +kernel)) (sw_mk (i := 4) (by decide +kernel) (by decide +kernel)) hfs4 hS (Nat.le_of_ble_eq_true rfl) (Nat.le_of_ble_eq_true rfl) (show decode cX1_init 16 = .ok (.new 16, 3) by decide +kernel) (fun q6 H hS => ?_)
  refine lv_dup hx hb (show decode cX1_init 19 = .ok (.dup, 1) by decide +kernel) rfl ?_
  refine k_initN (host := "NetLaw") X k_X4 (sw_mk (i := 82) (by decide +kernel) (by decide +kernel)) (sw_mk (i := 4) (by decide +kernel) (by decide +kernel)) (by decide +kernel) (sw_mk (i := 81) (by decide +kernel) (by decide +kernel)) ⟨rfl, by decide +kernel, by decide +kernel, by decide +kernel⟩ ⟨(Nat.le_of_ble_eq_true rfl), (Nat.le_of_ble_eq_true rfl)⟩ hl.1 (Nat.le_of_ble_eq_true rfl) ⟨(Nat.le_of_ble_eq_true rfl), (Nat.le_of_ble_eq_true rfl)⟩ (show decode cX1_init 20 = .ok (.invokespecial 18, 3) by decide +kernel) hS (fun ws' H locs hR hS => ?_)
  obtain ⟨q7, rfl⟩ := hR
  have hS := hS.mid1
  refine k_putF (ci := 1) X rfl fin1 tyX1 tyX1_ok nmX1 hS 2 (by decide) (sw_mk (i := 215) (by decide +kernel) (by decide +kernel)) rfl rfl hin rfl rfl rfl (Nat.le_of_ble_eq_true rfl) (show decode cX1_init 23 = .ok (.putfield 19, 3) by decide +kernel) (fun H locs hS => ?_)
  refine lv_aload_n hx hb (show decode cX1_init 26 = .ok (.aload_n 0, 1) by decide +kernel) rfl (lv_at hl 0 rfl) ?_
  refine k_newo (ci := 5) (fs := [.int 0, .null, .null, .null]) X rfl fin5 tyX5 tyX5_ok (sw_mk (i := 210) (by decide +kernel) (by decide +kernel)) (sw_mk (i := 93) (by decide +kernel) (by decide +kernel)) (sw_mk (i := 5) (by decide +kernel) (by decide +kernel)) hfs5 hS (Nat.le_of_ble_eq_true rfl) (Nat.le_of_ble_eq_true rfl) (show decode cX1_init 27 = .ok (.new 23, 3) by decide +kernel) (fun q8 H hS => ?_)
  refine lv_dup hx hb (show decode cX1_init 30 = .ok (.dup, 1) by decide +kernel) rfl ?_
  refine k_initN (host := "NetLaw") X k_X5 (sw_mk (i := 96) (by decide +kernel) (by decide +kernel)) (sw_mk (i := 5) (by decide +kernel) (by decide +kernel)) (by decide +kernel) (sw_mk (i := 95) (by decide +kernel) (by decide +kernel)) ⟨rfl, by decide +kernel, by decide +kernel, by decide +kernel⟩ ⟨(Nat.le_of_ble_eq_true rfl), (Nat.le_of_ble_eq_true rfl)⟩ hl.1 (Nat.le_of_ble_eq_true rfl) ⟨(Nat.le_of_ble_eq_true rfl), (Nat.le_of_ble_eq_true rfl)⟩ (show decode cX1_init 31 = .ok (.invokespecial 25, 3) by decide +kernel) hS (fun ws' H locs hR hS => ?_)
  obtain ⟨q9, q10, q11, rfl⟩ := hR
  have hS := hS.mid1
  refine k_putF (ci := 1) X rfl fin1 tyX1 tyX1_ok nmX1 hS 3 (by decide) (sw_mk (i := 217) (by decide +kernel) (by decide +kernel)) rfl rfl hin rfl rfl rfl (Nat.le_of_ble_eq_true rfl) (show decode cX1_init 34 = .ok (.putfield 26, 3) by decide +kernel) (fun H locs hS => ?_)
  exact W.vret hx hb hr (fun t ht hW => ⟨rfl, ⟨_, ⟨q1, q2, q3, q4, q5, q6, q7, q8, q9, q10, q11, rfl⟩, by rw [ht]; exact hS.1, hS.2.1⟩, hS.2.2.F ht⟩) (fun q hq => hS.2.2.2.2 q hq) (show decode cX1_init 37 = .ok (.return_, 1) by decide +kernel)
set_option maxRecDepth 100000 in
set_option maxHeartbeats 4000000 in
theorem k_X8 {l : Launch} {D : va_G} {cA : Nat → ClassId} {A : Nat → Prop} : kCon l D cA A yX8_init cX8_init 1 (k_rm 1 23 10 11221) 8 [.null, .null, .null, .null, .null, .null, .int 0, .long 0, .long 0, .null, .int 0, .int 0, .int 0, .long 0, .int 0, .null, .int 0, .null, .null] (fun h ws ws' => ∃ q1 q2 q3 q4 q5 q6 q7 q8 q9 q10 : Nat, ∃ F : Nat → Int32, (∀ j, j < 481 → F j = bgF j) ∧ ws' = (h, .inr (8, [.ref q1, .ref q2, .ref q3, .ref q4, .ref q5, .ref q6, .int 0, .long 0, .long 1, .ref q7, .int 0, .int 0, .int 0, .long 0, .int 0, .ref q8, .int 0, .ref q9, .ref q10])) :: ([(q10, .inl (cA 0, 8649, .inl (fun _ => 0))), (q9, .inl (cA 0, 8, .inl (fun _ => 0))), (q8, .inl (cA 0, 4, .inl (fun _ => 0))), (q7, .inl (cA 0, 3, .inl (fun _ => 0))), (q6, .inl (cA 0, 150, .inl (fun _ => 0))), (q5, .inl (cA 2, 2, .inl (fun _ => 0))), (q4, .inl (cA 0, 962, .inl (fun _ => 0))), (q3, .inl (cA 0, 481, .inl (fun _ => 0))), (q2, .inl (cA 0, 481, .inl (fun _ => 0))), (q1, .inl (cA 0, 481, .inl (F)))] ++ ws)) := by
  intro h ws
  refine a_ofW (cc := cX8_init) (maxL := 1) (ret := none) (by decide +kernel) rfl ?_
  intro p e s m args below meth c s₁ B hml hv
  obtain ⟨rfl, hP, hK, hD, hA, hN⟩ := hv
  have hx := B.exec
  have hb := B.bytes
  have hr := B.returns
  have hts0 := atoms_spec (ws := s_ws yX8_init cX8_init 1 none) B.pre
  have hts := fun w hw => hts0 w (List.mem_cons_of_mem _ hw)
  have hown : s.vm.findClass "NetLawModel" = some m.cls := findClass_of_methodNamed B.named
  have hlocks := B.notSynchronized
  have hin : meth.name = "<init>" := (name_of_methodNamed B.named B.method).1
  have X : kX p s m _ c cX8_init 1 "NetLawModel" D cA A := ⟨hx, hb, hml, hown, hts, hK, hA, hN⟩
  have hS : kS D A s.heap ((h, .inr (8, [.null, .null, .null, .null, .null, .null, .int 0, .long 0, .long 0, .null, .int 0, .int 0, .int 0, .long 0, .int 0, .null, .int 0, .null, .null])) :: ws) s.heap [] := ⟨hP, hD, va_S.rf⟩
  have hl := lv_entry ([.ref h]) (n := 1) (Nat.le_of_ble_eq_true rfl)
  rw [lg_entry_eq]
  generalize (lg_sl ([.ref h]) ++ List.replicate (1 - (lg_sl ([.ref h])).length) Slot.unset).toArray = ls at hl ⊢
  have hl : lv_has ls 1 [(0, .ref h)] := hl
  refine lv_aload_n hx hb (show decode cX8_init 0 = .ok (.aload_n 0, 1) by decide +kernel) rfl (lv_at hl 0 rfl) ?_
  refine k_obj X (sw_mk (i := 841) (by decide +kernel) (by decide +kernel)) hl.1 (show decode cX8_init 1 = .ok (.invokespecial 1, 3) by decide +kernel) (Nat.le_of_ble_eq_true rfl) (Nat.le_of_ble_eq_true rfl) ?_
  refine lv_aload_n hx hb (show decode cX8_init 4 = .ok (.aload_n 0, 1) by decide +kernel) rfl (lv_at hl 0 rfl) ?_
  refine lv_sipush (v := nI 481) hx hb (show decode cX8_init 5 = .ok (.sipush 481, 3) by decide +kernel) (by decide) ?_
  refine k_newa (t := 0) X (Or.inl ⟨rfl, rfl⟩) (by decide) hS (Nat.le_of_ble_eq_true rfl) (Nat.le_of_ble_eq_true rfl) (show decode cX8_init 8 = .ok (.newarray .int, 2) by decide +kernel) (fun q1 H hS => ?_)
  refine k_putF (ci := 8) X rfl fin8 tyX8 tyX8_ok nmX8 hS 0 (by decide) (sw_mk (i := 845) (by decide +kernel) (by decide +kernel)) rfl rfl hin rfl rfl rfl (Nat.le_of_ble_eq_true rfl) (show decode cX8_init 10 = .ok (.putfield 7, 3) by decide +kernel) (fun H locs hS => ?_)
  refine lv_aload_n hx hb (show decode cX8_init 13 = .ok (.aload_n 0, 1) by decide +kernel) rfl (lv_at hl 0 rfl) ?_
  refine lv_sipush (v := nI 481) hx hb (show decode cX8_init 14 = .ok (.sipush 481, 3) by decide +kernel) (by decide) ?_
  refine k_newa (t := 0) X (Or.inl ⟨rfl, rfl⟩) (by decide) hS (Nat.le_of_ble_eq_true rfl) (Nat.le_of_ble_eq_true rfl) (show decode cX8_init 17 = .ok (.newarray .int, 2) by decide +kernel) (fun q2 H hS => ?_)
  refine k_putF (ci := 8) X rfl fin8 tyX8 tyX8_ok nmX8 hS 1 (by decide) (sw_mk (i := 846) (by decide +kernel) (by decide +kernel)) rfl rfl hin rfl rfl rfl (Nat.le_of_ble_eq_true rfl) (show decode cX8_init 19 = .ok (.putfield 13, 3) by decide +kernel) (fun H locs hS => ?_)
  refine lv_aload_n hx hb (show decode cX8_init 22 = .ok (.aload_n 0, 1) by decide +kernel) rfl (lv_at hl 0 rfl) ?_
  refine lv_sipush (v := nI 481) hx hb (show decode cX8_init 23 = .ok (.sipush 481, 3) by decide +kernel) (by decide) ?_
  refine k_newa (t := 0) X (Or.inl ⟨rfl, rfl⟩) (by decide) hS (Nat.le_of_ble_eq_true rfl) (Nat.le_of_ble_eq_true rfl) (show decode cX8_init 26 = .ok (.newarray .int, 2) by decide +kernel) (fun q3 H hS => ?_)
  refine k_putF (ci := 8) X rfl fin8 tyX8 tyX8_ok nmX8 hS 2 (by decide) (sw_mk (i := 847) (by decide +kernel) (by decide +kernel)) rfl rfl hin rfl rfl rfl (Nat.le_of_ble_eq_true rfl) (show decode cX8_init 28 = .ok (.putfield 16, 3) by decide +kernel) (fun H locs hS => ?_)
  refine lv_aload_n hx hb (show decode cX8_init 31 = .ok (.aload_n 0, 1) by decide +kernel) rfl (lv_at hl 0 rfl) ?_
  refine lv_sipush (v := nI 962) hx hb (show decode cX8_init 32 = .ok (.sipush 962, 3) by decide +kernel) (by decide) ?_
  refine k_newa (t := 0) X (Or.inl ⟨rfl, rfl⟩) (by decide) hS (Nat.le_of_ble_eq_true rfl) (Nat.le_of_ble_eq_true rfl) (show decode cX8_init 35 = .ok (.newarray .int, 2) by decide +kernel) (fun q4 H hS => ?_)
  refine k_putF (ci := 8) X rfl fin8 tyX8 tyX8_ok nmX8 hS 3 (by decide) (sw_mk (i := 848) (by decide +kernel) (by decide +kernel)) rfl rfl hin rfl rfl rfl (Nat.le_of_ble_eq_true rfl) (show decode cX8_init 37 = .ok (.putfield 19, 3) by decide +kernel) (fun H locs hS => ?_)
  refine lv_aload_n hx hb (show decode cX8_init 40 = .ok (.aload_n 0, 1) by decide +kernel) rfl (lv_at hl 0 rfl) ?_
  refine lv_iconst (v := nI 2) hx hb (show decode cX8_init 41 = .ok (.iconst 2, 1) by decide +kernel) (by decide) ?_
  refine k_newa (t := 2) X (Or.inr (Or.inr ⟨rfl, rfl⟩)) (by decide) hS (Nat.le_of_ble_eq_true rfl) (Nat.le_of_ble_eq_true rfl) (show decode cX8_init 42 = .ok (.newarray .boolean, 2) by decide +kernel) (fun q5 H hS => ?_)
  refine k_putF (ci := 8) X rfl fin8 tyX8 tyX8_ok nmX8 hS 4 (by decide) (sw_mk (i := 849) (by decide +kernel) (by decide +kernel)) rfl rfl hin rfl rfl rfl (Nat.le_of_ble_eq_true rfl) (show decode cX8_init 44 = .ok (.putfield 22, 3) by decide +kernel) (fun H locs hS => ?_)
  refine lv_aload_n hx hb (show decode cX8_init 47 = .ok (.aload_n 0, 1) by decide +kernel) rfl (lv_at hl 0 rfl) ?_
  refine lv_sipush (v := nI 150) hx hb (show decode cX8_init 48 = .ok (.sipush 150, 3) by decide +kernel) (by decide) ?_
  refine k_newa (t := 0) X (Or.inl ⟨rfl, rfl⟩) (by decide) hS (Nat.le_of_ble_eq_true rfl) (Nat.le_of_ble_eq_true rfl) (show decode cX8_init 51 = .ok (.newarray .int, 2) by decide +kernel) (fun q6 H hS => ?_)
  refine k_putF (ci := 8) X rfl fin8 tyX8 tyX8_ok nmX8 hS 5 (by decide) (sw_mk (i := 850) (by decide +kernel) (by decide +kernel)) rfl rfl hin rfl rfl rfl (Nat.le_of_ble_eq_true rfl) (show decode cX8_init 53 = .ok (.putfield 26, 3) by decide +kernel) (fun H locs hS => ?_)
  refine lv_aload_n hx hb (show decode cX8_init 56 = .ok (.aload_n 0, 1) by decide +kernel) rfl (lv_at hl 0 rfl) ?_
  refine lv_lconst (v := 1) hx hb (show decode cX8_init 57 = .ok (.lconst 1, 1) by decide +kernel) (by decide) ?_
  refine k_put (ci := 8) (v := .long 1) X rfl fin8 tyX8 tyX8_ok nmX8 hS 8 (by decide) (sw_mk (i := 853) (by decide +kernel) (by decide +kernel)) rfl rfl rfl rfl (Nat.le_of_ble_eq_true rfl) (show decode cX8_init 58 = .ok (.putfield 29, 3) by decide +kernel) (fun H locs hS => ?_)
  refine lv_aload_n hx hb (show decode cX8_init 61 = .ok (.aload_n 0, 1) by decide +kernel) rfl (lv_at hl 0 rfl) ?_
  refine lv_iconst (v := nI 3) hx hb (show decode cX8_init 62 = .ok (.iconst 3, 1) by decide +kernel) (by decide) ?_
  refine k_newa (t := 0) X (Or.inl ⟨rfl, rfl⟩) (by decide) hS (Nat.le_of_ble_eq_true rfl) (Nat.le_of_ble_eq_true rfl) (show decode cX8_init 63 = .ok (.newarray .int, 2) by decide +kernel) (fun q7 H hS => ?_)
  refine k_putF (ci := 8) X rfl fin8 tyX8 tyX8_ok nmX8 hS 9 (by decide) (sw_mk (i := 854) (by decide +kernel) (by decide +kernel)) rfl rfl hin rfl rfl rfl (Nat.le_of_ble_eq_true rfl) (show decode cX8_init 65 = .ok (.putfield 33, 3) by decide +kernel) (fun H locs hS => ?_)
  refine lv_aload_n hx hb (show decode cX8_init 68 = .ok (.aload_n 0, 1) by decide +kernel) rfl (lv_at hl 0 rfl) ?_
  refine lv_iconst (v := nI 4) hx hb (show decode cX8_init 69 = .ok (.iconst 4, 1) by decide +kernel) (by decide) ?_
  refine k_newa (t := 0) X (Or.inl ⟨rfl, rfl⟩) (by decide) hS (Nat.le_of_ble_eq_true rfl) (Nat.le_of_ble_eq_true rfl) (show decode cX8_init 70 = .ok (.newarray .int, 2) by decide +kernel) (fun q8 H hS => ?_)
  refine k_putF (ci := 8) X rfl fin8 tyX8 tyX8_ok nmX8 hS 15 (by decide) (sw_mk (i := 860) (by decide +kernel) (by decide +kernel)) rfl rfl hin rfl rfl rfl (Nat.le_of_ble_eq_true rfl) (show decode cX8_init 72 = .ok (.putfield 36, 3) by decide +kernel) (fun H locs hS => ?_)
  refine lv_aload_n hx hb (show decode cX8_init 75 = .ok (.aload_n 0, 1) by decide +kernel) rfl (lv_at hl 0 rfl) ?_
  refine lv_bipush (v := nI 8) hx hb (show decode cX8_init 76 = .ok (.bipush 8, 2) by decide +kernel) (by decide) ?_
  refine k_newa (t := 0) X (Or.inl ⟨rfl, rfl⟩) (by decide) hS (Nat.le_of_ble_eq_true rfl) (Nat.le_of_ble_eq_true rfl) (show decode cX8_init 78 = .ok (.newarray .int, 2) by decide +kernel) (fun q9 H hS => ?_)
  refine k_putF (ci := 8) X rfl fin8 tyX8 tyX8_ok nmX8 hS 17 (by decide) (sw_mk (i := 862) (by decide +kernel) (by decide +kernel)) rfl rfl hin rfl rfl rfl (Nat.le_of_ble_eq_true rfl) (show decode cX8_init 80 = .ok (.putfield 39, 3) by decide +kernel) (fun H locs hS => ?_)
  refine lv_aload_n hx hb (show decode cX8_init 83 = .ok (.aload_n 0, 1) by decide +kernel) rfl (lv_at hl 0 rfl) ?_
  refine lv_sipush (v := nI 8649) hx hb (show decode cX8_init 84 = .ok (.sipush 8649, 3) by decide +kernel) (by decide) ?_
  refine k_newa (t := 0) X (Or.inl ⟨rfl, rfl⟩) (by decide) hS (Nat.le_of_ble_eq_true rfl) (Nat.le_of_ble_eq_true rfl) (show decode cX8_init 87 = .ok (.newarray .int, 2) by decide +kernel) (fun q10 H hS => ?_)
  refine k_putF (ci := 8) X rfl fin8 tyX8 tyX8_ok nmX8 hS 18 (by decide) (sw_mk (i := 863) (by decide +kernel) (by decide +kernel)) rfl rfl hin rfl rfl rfl (Nat.le_of_ble_eq_true rfl) (show decode cX8_init 89 = .ok (.putfield 42, 3) by decide +kernel) (fun H locs hS => ?_)
  refine lv_aload_n hx hb (show decode cX8_init 92 = .ok (.aload_n 0, 1) by decide +kernel) rfl (lv_at hl 0 rfl) ?_
  refine va_get (D := D) (ci := 8) (v := .ref q1) (C := RX8) (T := TX8) (N := 19) hx hb hts fin8 hown hK hS.1 0 rfl rfl 0 (by decide) (hts _ (sw_mk (i := 845) (by decide +kernel) (by decide +kernel))) (fun _ h9 => h9) rfl (show decode cX8_init 93 = .ok (.getfield 7, 3) by decide +kernel) ?_
  refine lv_iconst (v := nI 0) hx hb (show decode cX8_init 96 = .ok (.iconst 0, 1) by decide +kernel) (by decide) ?_
  refine lv_iconst (v := nI 0) hx hb (show decode cX8_init 97 = .ok (.iconst 0, 1) by decide +kernel) (by decide) ?_
  have hS := kS.mid1 (X := [(q10, .inl (cA 0, 8649, .inl (fun _ => 0))), (q9, .inl (cA 0, 8, .inl (fun _ => 0))), (q8, .inl (cA 0, 4, .inl (fun _ => 0))), (q7, .inl (cA 0, 3, .inl (fun _ => 0))), (q6, .inl (cA 0, 150, .inl (fun _ => 0))), (q5, .inl (cA 2, 2, .inl (fun _ => 0))), (q4, .inl (cA 0, 962, .inl (fun _ => 0))), (q3, .inl (cA 0, 481, .inl (fun _ => 0))), (q2, .inl (cA 0, 481, .inl (fun _ => 0)))]) hS
  refine k_call (va_runS (As := [.ref q1, .int 0, .int 0]) (rest := []) ⟨hx, hb, hml, hown, hts⟩ k_begins ⟨callB_of 3 hts (s_good (sw_mk (i := 844) (by decide +kernel) (by decide +kernel))) rfl rfl rfl (hts _ (sw_mk (i := 10) (by decide +kernel) (by decide +kernel))) (hts _ (sw_mk (i := 842) (by decide +kernel) (by decide +kernel))) (by decide +kernel) ⟨(Nat.le_of_ble_eq_true rfl), (Nat.le_of_ble_eq_true rfl)⟩, hts _ (sw_mk (i := 843) (by decide +kernel) (by decide +kernel))⟩ (k_pre X hS) rfl rfl hl.1 rfl (lv_room (Nat.le_of_ble_eq_true rfl)) (show decode cX8_init 98 = .ok (.invokestatic 45, 3) by decide +kernel) ⟨(Nat.le_of_ble_eq_true rfl), (Nat.le_of_ble_eq_true rfl)⟩) hS.2.2 (fun ws' H locs hR hS => ?_)
  obtain ⟨F, hF, rfl⟩ := hR
  have hS := kS.back1 (X := [(q10, .inl (cA 0, 8649, .inl (fun _ => 0))), (q9, .inl (cA 0, 8, .inl (fun _ => 0))), (q8, .inl (cA 0, 4, .inl (fun _ => 0))), (q7, .inl (cA 0, 3, .inl (fun _ => 0))), (q6, .inl (cA 0, 150, .inl (fun _ => 0))), (q5, .inl (cA 2, 2, .inl (fun _ => 0))), (q4, .inl (cA 0, 962, .inl (fun _ => 0))), (q3, .inl (cA 0, 481, .inl (fun _ => 0))), (q2, .inl (cA 0, 481, .inl (fun _ => 0)))]) hS
  exact W.vret hx hb hr (fun t ht hW => ⟨rfl, ⟨_, ⟨q1, q2, q3, q4, q5, q6, q7, q8, q9, q10, F, hF, rfl⟩, by rw [ht]; exact hS.1, hS.2.1⟩, hS.2.2.F ht⟩) (fun q hq => hS.2.2.2.2 q hq) (show decode cX8_init 101 = .ok (.return_, 1) by decide +kernel)
