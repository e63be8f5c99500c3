/-! Arrays.fill and the reference's begins, over any world -/
section fillr
variable {p : Program} {l : Launch} {e : Env} {R : Room} {s : State} {m : MethodId} {args : Array Value} {below : List Frame} {meth : Method} {c : Code} {Q : State → Prop} {D : va_G} {cA : Nat → ClassId} {A : Nat → Prop} {ws : va_W} {a n : Nat} {v : Int32} {f : Nat → Int32}
theorem k_fillLoop (hx : p.tables.exec = Jvm.exec) (hb : c.code = cJ7_fill_53178) (hK : va_K D vwCl (a_tys cA) s) (hn : n < 10000) (kk : ∀ (H : Heap) (locs : List Loc) (ls : Array Slot), kS D A s.heap ((a, .inl (cA 0, n, .inl (fun j => if j < n then v else f j))) :: ws) H locs → W p l e R s m args below meth c H locs 0 0 Q (F0 m 20 ls [])) :
    ∀ (H : Heap) (locs : List Loc) (ls : Array Slot), kS D A s.heap ((a, .inl (cA 0, n, .inl (fun j => if j < 0 then v else f j))) :: ws) H locs → lv_has ls 4 [(2, .int (nI 0)), (3, .int (nI n)), (0, .ref a), (1, .int v)] → W p l e R s m args below meth c H locs 0 0 Q (F0 m 5 ls []) := by
  refine lp_dn (C := fun k => ∀ (H : Heap) (locs : List Loc) (ls : Array Slot), kS D A s.heap ((a, .inl (cA 0, n, .inl (fun j => if j < k then v else f j))) :: ws) H locs → lv_has ls 4 [(2, .int (nI k)), (3, .int (nI n)), (0, .ref a), (1, .int v)] → W p l e R s m args below meth c H locs 0 0 Q (F0 m 5 ls [])) n ?_ ?_
  · intro H locs ls hS hl
    refine lv_iload_n hx hb (show decode cJ7_fill_53178 5 = .ok (.iload_n 2, 1) by decide +kernel) rfl (lv_at hl 0 rfl) ?_
    refine lv_iload_n hx hb (show decode cJ7_fill_53178 6 = .ok (.iload_n 3, 1) by decide +kernel) rfl (lv_at hl 1 rfl) ?_
    exact lv_icmp_ge hx hb (show decode cJ7_fill_53178 7 = .ok (.if_icmp .ge 13, 3) by decide +kernel) (tgt := 20) (by decide) (fun _ => kk H locs ls hS) (fun q => absurd (nI_le (Nat.le_refl n) (by omega)) q)
  · intro k hk ih H locs ls hS hl
    refine lv_iload_n hx hb (show decode cJ7_fill_53178 5 = .ok (.iload_n 2, 1) by decide +kernel) rfl (lv_at hl 0 rfl) ?_
    refine lv_iload_n hx hb (show decode cJ7_fill_53178 6 = .ok (.iload_n 3, 1) by decide +kernel) rfl (lv_at hl 1 rfl) ?_
    refine lv_icmp_ge hx hb (show decode cJ7_fill_53178 7 = .ok (.if_icmp .ge 13, 3) by decide +kernel) (tgt := 20) (by decide) (fun q => absurd q (nI_ge hk (by omega))) (fun _ => ?_)
    refine lv_aload_n hx hb (show decode cJ7_fill_53178 10 = .ok (.aload_n 0, 1) by decide +kernel) rfl (lv_at hl 2 rfl) ?_
    refine lv_iload_n hx hb (show decode cJ7_fill_53178 11 = .ok (.iload_n 2, 1) by decide +kernel) rfl (lv_at hl 0 rfl) ?_
    refine lv_iload_n hx hb (show decode cJ7_fill_53178 12 = .ok (.iload_n 1, 1) by decide +kernel) rfl (lv_at hl 3 rfl) ?_
    refine va_iast hx hb hK hS.1 hS.2.1 hS.2.2 0 0 rfl rfl (vp_in_nI hk (by omega)) (show decode cJ7_fill_53178 13 = .ok (.iastore, 1) by decide +kernel) (fun H1 locs1 hP1 hD1 hS1 => ?_)
    have e1 : upd (fun j => if j < k then v else f j) (nI k).toNatClampNeg v = (fun j => if j < k + 1 then v else f j) := by
      rw [n_cl (by omega)]
      funext j
      rw [ud_1]
      by_cases z : j = k
      · rw [if_pos z, if_pos (by omega)]
      · rw [if_neg z]
        by_cases z2 : j < k
        · rw [if_pos z2, if_pos (by omega)]
        · rw [if_neg z2, if_neg (by omega)]
    rw [e1] at hP1 hD1
    refine lv_iinc (k := 0) (v := nI (k + 1)) (lv' := [(2, .int (nI (k + 1))), (3, .int (nI n)), (0, .ref a), (1, .int v)]) hx hb (show decode cJ7_fill_53178 14 = .ok (.iinc 2 1, 3) by decide +kernel) hl rfl (by rw [← nI_add]; rfl) (by decide) rfl (fun ls' hl' => ?_)
    exact lv_goto hx hb (show decode cJ7_fill_53178 17 = .ok (.goto (-12), 3) by decide +kernel) (tgt := 5) (by decide) (ih H1 locs1 ls' ⟨hP1, hD1, hS1⟩ hl')
end fillr
theorem k_fill {l : Launch} {D : va_G} {cA : Nat → ClassId} {A : Nat → Prop} {ws : va_W} {a n : Nat} {v : Int32} {f : Nat → Int32} (hn : n < 10000) : Met l yJ7_fill_53178 (s_ws yJ7_fill_53178 cJ7_fill_53178 4 none) (k_rm 0 0 0 0) (kPm D cA A [.ref a, .int v] ((a, .inl (cA 0, n, .inl f)) :: ws)) (kQm D A (fun ws' => ws' = (a, .inl (cA 0, n, .inl (fun j => if j < n then v else f j))) :: ws)) 0 0 A := by
  refine a_ofW (cc := cJ7_fill_53178) (maxL := 4) (ret := none) (by decide +kernel) rfl ?_
  intro p e s m args below meth c s₁ B hml hv
  obtain ⟨rfl, hP, hK, hD, hA, hN⟩ := hv
  have hx := B.exec
  have hb := B.bytes
  have hr := B.returns
  have hlocks := B.notSynchronized
  have hl := lv_entry ([.ref a, .int v]) (n := 4) (Nat.le_of_ble_eq_true rfl)
  rw [lg_entry_eq]
  generalize (lg_sl ([.ref a, .int v]) ++ List.replicate (4 - (lg_sl ([.ref a, .int v])).length) Slot.unset).toArray = ls at hl ⊢
  have hl : lv_has ls 4 [(0, .ref a), (1, .int v)] := hl
  refine lv_iconst (v := nI 0) hx hb (show decode cJ7_fill_53178 0 = .ok (.iconst 0, 1) by decide +kernel) (by decide) ?_
  refine lv_istore_n (lv' := [(2, .int (nI 0)), (0, .ref a), (1, .int v)]) hx hb (show decode cJ7_fill_53178 1 = .ok (.istore_n 2, 1) by decide +kernel) rfl hl (by decide) rfl (fun ls hl => ?_)
  refine lv_aload_n hx hb (show decode cJ7_fill_53178 2 = .ok (.aload_n 0, 1) by decide +kernel) rfl (lv_at hl 1 rfl) ?_
  refine va_alen (v := nI n) hx hb hK hP 0 0 rfl rfl rfl (show decode cJ7_fill_53178 3 = .ok (.arraylength, 1) by decide +kernel) ?_
  refine lv_istore_n (lv' := [(3, .int (nI n)), (2, .int (nI 0)), (0, .ref a), (1, .int v)]) hx hb (show decode cJ7_fill_53178 4 = .ok (.istore_n 3, 1) by decide +kernel) rfl hl (by decide) rfl (fun ls hl => ?_)
  refine k_fillLoop (v := v) (f := f) (ws := ws) (A := A) hx hb hK hn (fun H locs ls hS => ?_) _ _ _ ⟨?_, hD, va_S.rf⟩ (lv_sub hl [1, 0, 2, 3] rfl)
  · exact W.vret hx hb hr (fun t ht hW => ⟨rfl, ⟨_, rfl, by rw [ht]; exact hS.1, hS.2.1⟩, hS.2.2.F ht⟩) (fun q hq => hS.2.2.2.2 q hq) (show decode cJ7_fill_53178 20 = .ok (.return_, 1) by decide +kernel)
  · exact hP
def bgF (j : Nat) : Int32 := if j < 52 then nI 0 else if j < 61 then nI 9 else nI 0
section begr
variable {p : Program} {l : Launch} {e : Env} {R : Room} {s : State} {m : MethodId} {args : Array Value} {below : List Frame} {meth : Method} {c : Code} {Q : State → Prop} {D : va_G} {cA : Nat → ClassId} {A : Nat → Prop} {ws : va_W} {a : Nat}
theorem k_begLoop (hx : p.tables.exec = Jvm.exec) (hb : c.code = cX8_begins) (hK : va_K D vwCl (a_tys cA) s) (kk : ∀ (F : Nat → Int32) (H : Heap) (locs : List Loc) (ls : Array Slot), (∀ j, j < 481 → F j = bgF j) → kS D A s.heap ((a, .inl (cA 0, 481, .inl F)) :: ws) H locs → lv_has ls 4 [(0, .ref a), (1, .int 0), (2, .int 0)] → W p l e R s m args below meth c H locs 0 0 Q (F0 m 36 ls [])) :
    ∀ (F : Nat → Int32) (H : Heap) (locs : List Loc) (ls : Array Slot), (∀ j, j < 0 → F j = bgF j) → kS D A s.heap ((a, .inl (cA 0, 481, .inl F)) :: ws) H locs → lv_has ls 4 [(3, .int (nI 0)), (0, .ref a), (1, .int 0), (2, .int 0)] → W p l e R s m args below meth c H locs 0 0 Q (F0 m 2 ls []) := by
  refine lp_dn (C := fun k => ∀ (F : Nat → Int32) (H : Heap) (locs : List Loc) (ls : Array Slot), (∀ j, j < k → F j = bgF j) → kS D A s.heap ((a, .inl (cA 0, 481, .inl F)) :: ws) H locs → lv_has ls 4 [(3, .int (nI k)), (0, .ref a), (1, .int 0), (2, .int 0)] → W p l e R s m args below meth c H locs 0 0 Q (F0 m 2 ls [])) 481 ?_ ?_
  · intro F H locs ls hF hS hl
    refine lv_iload_n hx hb (show decode cX8_begins 2 = .ok (.iload_n 3, 1) by decide +kernel) rfl (lv_at hl 0 rfl) ?_
    refine lv_sipush (v := nI 481) hx hb (show decode cX8_begins 3 = .ok (.sipush 481, 3) by decide +kernel) (by decide) ?_
    exact lv_icmp_ge hx hb (show decode cX8_begins 6 = .ok (.if_icmp .ge 30, 3) by decide +kernel) (tgt := 36) (by decide) (fun _ => kk F H locs ls hF hS (lv_sub hl [1, 2, 3] rfl)) (fun q => absurd (nI_le (Nat.le_refl 481) (by omega)) q)
  · intro k hk ih F H locs ls hF hS hl
    refine lv_iload_n hx hb (show decode cX8_begins 2 = .ok (.iload_n 3, 1) by decide +kernel) rfl (lv_at hl 0 rfl) ?_
    refine lv_sipush (v := nI 481) hx hb (show decode cX8_begins 3 = .ok (.sipush 481, 3) by decide +kernel) (by decide) ?_
    refine lv_icmp_ge hx hb (show decode cX8_begins 6 = .ok (.if_icmp .ge 30, 3) by decide +kernel) (tgt := 36) (by decide) (fun q => absurd q (nI_ge hk (by omega))) (fun _ => ?_)
    refine lv_aload_n hx hb (show decode cX8_begins 9 = .ok (.aload_n 0, 1) by decide +kernel) rfl (lv_at hl 1 rfl) ?_
    refine lv_iload_n hx hb (show decode cX8_begins 10 = .ok (.iload_n 3, 1) by decide +kernel) rfl (lv_at hl 0 rfl) ?_
    refine lv_iload_n hx hb (show decode cX8_begins 11 = .ok (.iload_n 3, 1) by decide +kernel) rfl (lv_at hl 0 rfl) ?_
    refine lv_bipush (v := nI 52) hx hb (show decode cX8_begins 12 = .ok (.bipush 52, 2) by decide +kernel) (by decide) ?_
    have store : W p l e R s m args below meth c H locs 0 0 Q (F0 m 29 ls [.int (bgF k), .int (nI k), .ref a]) := by
      refine va_iast hx hb hK hS.1 hS.2.1 hS.2.2 0 0 rfl rfl (vp_in_nI hk (by omega)) (show decode cX8_begins 29 = .ok (.iastore, 1) by decide +kernel) (fun H1 locs1 hP1 hD1 hS1 => ?_)
      refine lv_iinc (k := 0) (v := nI (k + 1)) (lv' := [(3, .int (nI (k + 1))), (0, .ref a), (1, .int 0), (2, .int 0)]) hx hb (show decode cX8_begins 30 = .ok (.iinc 3 1, 3) by decide +kernel) hl rfl (by rw [← nI_add]; rfl) (by decide) rfl (fun ls' hl' => ?_)
      refine lv_goto hx hb (show decode cX8_begins 33 = .ok (.goto (-31), 3) by decide +kernel) (tgt := 2) (by decide) (ih _ H1 locs1 ls' (fun j hj => ?_) ⟨hP1, hD1, hS1⟩ hl')
      rw [n_cl (by omega), ud_1]
      by_cases z : j = k
      · rw [if_pos z, z]
      · rw [if_neg z]; exact hF j (by omega)
    have low : ¬ (52 ≤ k ∧ k < 61) → W p l e R s m args below meth c H locs 0 0 Q (F0 m 28 ls [.int (nI k), .ref a]) := fun hz => by
      refine lv_iconst (v := bgF k) hx hb (show decode cX8_begins 28 = .ok (.iconst 0, 1) by decide +kernel) ?_ store
      unfold bgF
      by_cases z : k < 52
      · rw [if_pos z]; decide
      · rw [if_neg z, if_neg (by omega)]; decide
    refine lv_icmp_lt hx hb (show decode cX8_begins 14 = .ok (.if_icmp .lt 14, 3) by decide +kernel) (tgt := 28) (by decide) (fun q => low (fun z => ?_)) (fun q => ?_)
    · rw [n_lt (by omega) (by omega)] at q
      omega
    · rw [n_lt (by omega) (by omega)] at q
      refine lv_iload_n hx hb (show decode cX8_begins 17 = .ok (.iload_n 3, 1) by decide +kernel) rfl (lv_at hl 0 rfl) ?_
      refine lv_bipush (v := nI 61) hx hb (show decode cX8_begins 18 = .ok (.bipush 61, 2) by decide +kernel) (by decide) ?_
      refine lv_icmp_ge hx hb (show decode cX8_begins 20 = .ok (.if_icmp .ge 8, 3) by decide +kernel) (tgt := 28) (by decide) (fun q2 => low (fun z => ?_)) (fun q2 => ?_)
      · exact absurd q2 (nI_ge z.2 (by omega))
      · have k61 : k < 61 := Nat.lt_of_not_le (fun z => q2 (nI_le z (by omega)))
        have hg : bgF k = nI 9 := by unfold bgF; rw [if_neg q, if_pos k61]
        refine lv_bipush (v := nI 9) hx hb (show decode cX8_begins 23 = .ok (.bipush 9, 2) by decide +kernel) (by decide) ?_
        rw [hg] at store
        exact lv_goto hx hb (show decode cX8_begins 25 = .ok (.goto 4, 3) by decide +kernel) (tgt := 29) (by decide) store
end begr
theorem k_begins {l : Launch} {D : va_G} {cA : Nat → ClassId} {A : Nat → Prop} {ws : va_W} {a : Nat} {f : Nat → Int32} : Met l yX8_begins (s_ws yX8_begins cX8_begins 4 none) (k_rm 0 0 0 0) (kPm D cA A [.ref a, .int 0, .int 0] ((a, .inl (cA 0, 481, .inl f)) :: ws)) (kQm D A (fun ws' => ∃ F : Nat → Int32, (∀ j, j < 481 → F j = bgF j) ∧ ws' = (a, .inl (cA 0, 481, .inl F)) :: ws)) 0 0 A := by
  refine a_ofW (cc := cX8_begins) (maxL := 4) (ret := none) (by decide +kernel) rfl ?_
  intro p e s m args below meth c s₁ B hml hv
  obtain ⟨rfl, hP, hK, hD, hA, hN⟩ := hv
  have hx := B.exec
  have hb := B.bytes
  have hr := B.returns
  have hlocks := B.notSynchronized
  have hl := lv_entry ([.ref a, .int 0, .int 0]) (n := 4) (Nat.le_of_ble_eq_true rfl)
  rw [lg_entry_eq]
  generalize (lg_sl ([.ref a, .int 0, .int 0]) ++ List.replicate (4 - (lg_sl ([.ref a, .int 0, .int 0])).length) Slot.unset).toArray = ls at hl ⊢
  have hl : lv_has ls 4 [(0, .ref a), (1, .int 0), (2, .int 0)] := hl
  refine lv_iconst (v := nI 0) hx hb (show decode cX8_begins 0 = .ok (.iconst 0, 1) by decide +kernel) (by decide) ?_
  refine lv_istore_n (lv' := [(3, .int (nI 0)), (0, .ref a), (1, .int 0), (2, .int 0)]) hx hb (show decode cX8_begins 1 = .ok (.istore_n 3, 1) by decide +kernel) rfl hl (by decide) rfl (fun ls hl => ?_)
  refine k_begLoop (ws := ws) (A := A) hx hb hK (fun F H locs ls hF hS hl => ?_) f _ _ _ (fun j hj => by omega) ⟨hP, hD, va_S.rf⟩ hl
  refine lv_aload_n hx hb (show decode cX8_begins 36 = .ok (.aload_n 0, 1) by decide +kernel) rfl (lv_at hl 0 rfl) ?_
  refine lv_iconst (v := nI 0) hx hb (show decode cX8_begins 37 = .ok (.iconst 0, 1) by decide +kernel) (by decide) ?_
  refine lv_iload_n hx hb (show decode cX8_begins 38 = .ok (.iload_n 1, 1) by decide +kernel) rfl (lv_at hl 1 rfl) ?_
  refine va_iast hx hb hK hS.1 hS.2.1 hS.2.2 0 0 rfl rfl (vp_in_nI (by omega) (by omega)) (show decode cX8_begins 39 = .ok (.iastore, 1) by decide +kernel) (fun H1 locs1 hP1 hD1 hS1 => ?_)
  refine lv_aload_n hx hb (show decode cX8_begins 40 = .ok (.aload_n 0, 1) by decide +kernel) rfl (lv_at hl 0 rfl) ?_
  refine lv_iconst (v := nI 1) hx hb (show decode cX8_begins 41 = .ok (.iconst 1, 1) by decide +kernel) (by decide) ?_
  refine lv_iload_n hx hb (show decode cX8_begins 42 = .ok (.iload_n 2, 1) by decide +kernel) rfl (lv_at hl 2 rfl) ?_
  refine va_iast hx hb hK hP1 hD1 hS1 0 0 rfl rfl (vp_in_nI (by omega) (by omega)) (show decode cX8_begins 43 = .ok (.iastore, 1) by decide +kernel) (fun H2 locs2 hP2 hD2 hS2 => ?_)
  refine W.vret hx hb hr (fun t ht hW => ⟨rfl, ⟨_, ⟨_, fun j hj => ?_, rfl⟩, by rw [ht]; exact hP2, hD2⟩, hS2.F ht⟩) (fun q hq => hS2.2.2 q hq) (show decode cX8_begins 44 = .ok (.return_, 1) by decide +kernel)
  rw [n_cl (by omega), n_cl (by omega), ud_1, ud_1]
  by_cases z : j = 1
  · rw [if_pos z, z]; decide
  · rw [if_neg z]
    by_cases z2 : j = 0
    · rw [if_pos z2, z2]; decide
    · rw [if_neg z2]; exact hF j hj
