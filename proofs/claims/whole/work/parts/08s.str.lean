/-! String.length and String.charAt of the three text constants -/
theorem a_ofW {l : Launch} {y : MethodName} {ws ws' : List Cond} {rm : Room} {Pc : Array Value → State → Prop} {Qc : Array Value → State → Outcome → State → Prop} {mc ms : Nat} {free : Addr → Prop} {cc : ByteArray} {maxL : Nat} {ret : Option FieldType}
    (hy : plainFor y = true) (hw : ws = Cond.code y cc maxL ret :: ws')
    (body : ∀ p e s m args below meth c s₁, BodyLoose p l y (headSpec ws rm) cc maxL ret e s m args below meth c s₁ → c.maxLocals = maxL → Pc args s →
      W p l e (headSpec ws rm).room s m args below meth c s.heap [] 0 0 (MQ below Qc args s mc ms free) (entryFrame m args maxL)) : Met l y ws rm Pc Qc mc ms free := by
  refine MetFree.of_bodySF (code := cc) (maxLocals := maxL) (ret := ret) hy ?_ ?_
  · intro args s m h hn
    obtain ⟨meth, c, h1, h2, h3, h4, h5, h6, -, -⟩ := Cond.code_spec hn (atoms_spec (ws := ws) h _ (by rw [hw]; exact List.mem_cons_self))
    exact ⟨meth, c, h1, h2, h3, h4, h5, h6⟩
  · intro p e s m args below meth c s₁ B hml hP _
    have hh0 : s₁.heap = s.heap := by rw [B.state]; rfl
    obtain ⟨t, a1, o, b1, b2, b3⟩ := body p e s m args below meth c s₁ B hml hP s₁ hh0 (Stand.of_body B)
    exact ⟨t, o, a1, b1, b2, ⟨b3.1, b3.2⟩⟩
def sLn (i : Nat) : Nat := [3, 4, 4].getD i 0
def sBy (i : Nat) : List Int32 := ([[110, 101, 116], [107, 110, 111, 116], [119, 105, 100, 101]] : List (List Int32)).getD i []
theorem sw_mk {w : Cond} {i : Nat} (h : tables_1[i]? = some w) (hg : goodWord w = true) : w ∈ a_tb := a_tb_in (List.mem_append_right _ (List.mem_of_getElem? h)) hg
def sPm (ad : Nat → Nat) (A : Nat → Prop) (as : List Value) : Array Value → State → Prop := va_Pc as (fun U => a_ST ad A U U.heap)
def sQm (v : Option Value) : Array Value → State → Outcome → State → Prop := fun _ st oc t => oc = .returned v ∧ t.heap = st.heap
theorem sPm_blind {ad : Nat → Nat} {A : Nat → Prop} {as : List Value} : FrameBlind (sPm ad A as) := fun _ _ _ _ q => ⟨q.1, a_ST.call q.2⟩
def s_ws (y : MethodName) (c : ByteArray) (n : Nat) (r : Option FieldType) : List Cond := Cond.code y c n r :: a_tb
def s_rm (f l : Nat) : Room := { frames := f, cells := 0, slots := 0, locals := l }
theorem s_good {y : MethodName} {c : ByteArray} {n : Nat} {r : Option FieldType} (h : Cond.code y c n r ∈ a_tb) : GoodIn a_tb (s_ws y c n r) := fun w hw => by
  rcases List.mem_cons.mp hw with rfl | hw
  · exact a_tb_good _ h
  · exact a_tb_good w hw
theorem t_call {p : Program} {l : Launch} {e : Env} {R : Room} {s : State} {m : MethodId} {args : Array Value} {below : List Frame} {meth : Method} {c : Code} {A : Nat → Prop} {H : Heap} {locs : List Loc} {lsC : Array Slot} {Q : State → Prop} {pc : Nat} {st0 rest : List Value} {v : Option Value} {aa : Array Value}
    (hr : va_Run p l e R s m args below meth c H locs 0 0 0 0 (F0 m pc lsC st0) rest (sQm v aa) A) (hS : va_S A s.heap H locs)
    (kk : ∀ locs' : List Loc, va_S A s.heap H locs' → W p l e R s m args below meth c H locs' 0 0 Q (F0 m (pc + 3) lsC (v.toList ++ rest))) : W p l e R s m args below meth c H locs 0 0 Q (F0 m pc lsC st0) := by
  intro T hT X
  obtain ⟨vv, st₀, t, T', L, h0, X', hL, e1, e2, ⟨hv, hh⟩, st⟩ := hr T hT X
  cases hv
  have hH : T'.heap = H := by rw [e1, hh, h0]
  obtain ⟨t2, a1, b1⟩ := kk (locs ++ L) ⟨hS.1, hS.2.1, fun q hq => by
      rcases List.mem_append.mp hq with h | h
      · exact hS.2.2 q h
      · exact hL q h⟩ T' hH X'
  exact ⟨t2, st t2 a1, b1⟩
theorem dw_coder : Cond.code yJ0_coder_7d493 cJ0_coder_7d493 1 (some .byte) ∈ a_tb := sw_mk (i := 432) (by decide +kernel) (by decide +kernel)
theorem dw_latin : Cond.code yJ0_isLatin1_aae02 cJ0_isLatin1_aae02 1 (some .boolean) ∈ a_tb := sw_mk (i := 442) (by decide +kernel) (by decide +kernel)
theorem dw_len : Cond.code yJ0_length_8abf5 cJ0_length_8abf5 1 (some .int) ∈ a_tb := sw_mk (i := 428) (by decide +kernel) (by decide +kernel)
theorem dw_char : Cond.code yJ0_charAt_5068e cJ0_charAt_5068e 2 (some .char) ∈ a_tb := sw_mk (i := 438) (by decide +kernel) (by decide +kernel)
theorem dw_lch : Cond.code yJ1_charAt_3b067 cJ1_charAt_3b067 2 (some .char) ∈ a_tb := sw_mk (i := 445) (by decide +kernel) (by decide +kernel)
theorem dw_chk : Cond.code yJ0_checkIndex_df160 cJ0_checkIndex_df160 2 none ∈ a_tb := sw_mk (i := 448) (by decide +kernel) (by decide +kernel)
theorem dw_pre : Cond.code yJ3_checkIndex_8e157 cJ3_checkIndex_8e157 3 (some .int) ∈ a_tb := sw_mk (i := 453) (by decide +kernel) (by decide +kernel)
theorem dw_13 : Cond.initialized "java/lang/String" ∈ a_tb := sw_mk (i := 13) (by decide +kernel) (by decide +kernel)
theorem dw_14 : Cond.initialized "java/lang/StringLatin1" ∈ a_tb := sw_mk (i := 14) (by decide +kernel) (by decide +kernel)
theorem dw_15 : Cond.initialized "jdk/internal/util/Preconditions" ∈ a_tb := sw_mk (i := 15) (by decide +kernel) (by decide +kernel)
theorem dw_426 : Cond.instanceMethod yJ0_length_8abf5 ∈ a_tb := sw_mk (i := 426) (by decide +kernel) (by decide +kernel)
theorem dw_427 : Cond.selects "java/lang/String" yJ0_length_8abf5 yJ0_length_8abf5 ∈ a_tb := sw_mk (i := 427) (by decide +kernel) (by decide +kernel)
theorem dw_429 : Cond.methodLink "java/lang/String" 335 yJ0_coder_7d493 ∈ a_tb := sw_mk (i := 429) (by decide +kernel) (by decide +kernel)
theorem dw_430 : Cond.instanceMethod yJ0_coder_7d493 ∈ a_tb := sw_mk (i := 430) (by decide +kernel) (by decide +kernel)
theorem dw_431 : Cond.selects "java/lang/String" yJ0_coder_7d493 yJ0_coder_7d493 ∈ a_tb := sw_mk (i := 431) (by decide +kernel) (by decide +kernel)
theorem dw_433 : Cond.fieldLink "java/lang/String" 38 "java/lang/String" "COMPACT_STRINGS" "Z" ∈ a_tb := sw_mk (i := 433) (by decide +kernel) (by decide +kernel)
theorem dw_436 : Cond.instanceMethod yJ0_charAt_5068e ∈ a_tb := sw_mk (i := 436) (by decide +kernel) (by decide +kernel)
theorem dw_437 : Cond.selects "java/lang/String" yJ0_charAt_5068e yJ0_charAt_5068e ∈ a_tb := sw_mk (i := 437) (by decide +kernel) (by decide +kernel)
theorem dw_439 : Cond.methodLink "java/lang/String" 492 yJ0_isLatin1_aae02 ∈ a_tb := sw_mk (i := 439) (by decide +kernel) (by decide +kernel)
theorem dw_440 : Cond.instanceMethod yJ0_isLatin1_aae02 ∈ a_tb := sw_mk (i := 440) (by decide +kernel) (by decide +kernel)
theorem dw_441 : Cond.selects "java/lang/String" yJ0_isLatin1_aae02 yJ0_isLatin1_aae02 ∈ a_tb := sw_mk (i := 441) (by decide +kernel) (by decide +kernel)
theorem dw_443 : Cond.methodLink "java/lang/String" 495 yJ1_charAt_3b067 ∈ a_tb := sw_mk (i := 443) (by decide +kernel) (by decide +kernel)
theorem dw_444 : Cond.static yJ1_charAt_3b067 ∈ a_tb := sw_mk (i := 444) (by decide +kernel) (by decide +kernel)
theorem dw_446 : Cond.methodLink "java/lang/StringLatin1" 9 yJ0_checkIndex_df160 ∈ a_tb := sw_mk (i := 446) (by decide +kernel) (by decide +kernel)
theorem dw_447 : Cond.static yJ0_checkIndex_df160 ∈ a_tb := sw_mk (i := 447) (by decide +kernel) (by decide +kernel)
theorem dw_449 : Cond.fieldLink "java/lang/String" 1053 "jdk/internal/util/Preconditions" "SIOOBE_FORMATTER" "Ljava/util/function/BiFunction;" ∈ a_tb := sw_mk (i := 449) (by decide +kernel) (by decide +kernel)
theorem dw_451 : Cond.methodLink "java/lang/String" 1059 yJ3_checkIndex_8e157 ∈ a_tb := sw_mk (i := 451) (by decide +kernel) (by decide +kernel)
theorem dw_452 : Cond.static yJ3_checkIndex_8e157 ∈ a_tb := sw_mk (i := 452) (by decide +kernel) (by decide +kernel)
theorem dw_1243 : Cond.fieldLink "java/lang/String" 9 "java/lang/String" "value" "[B" ∈ a_tb := sw_mk (i := 1243) (by decide +kernel) (by decide +kernel)
theorem dw_1244 : Cond.fieldLink "java/lang/String" 15 "java/lang/String" "coder" "B" ∈ a_tb := sw_mk (i := 1244) (by decide +kernel) (by decide +kernel)
theorem t_coder {l : Launch} {ad : Nat → Nat} {A : Nat → Prop} {i : Nat} (hi : i < 3) : Met l yJ0_coder_7d493 (s_ws yJ0_coder_7d493 cJ0_coder_7d493 1 (some .byte)) (s_rm 0 0) (sPm ad A [.ref (ad (72 + i))]) (sQm (some (.int 0))) 0 0 A := by
  refine a_ofW (cc := cJ0_coder_7d493) (maxL := 1) (ret := some .byte) (by decide +kernel) rfl ?_
  intro p e s m args below meth c s₁ B hml hv
  obtain ⟨rfl, hZ⟩ := hv
  have hx := B.exec
  have hb := B.bytes
  have hr := B.returns
  have hts0 := atoms_spec (ws := s_ws yJ0_coder_7d493 cJ0_coder_7d493 1 (some .byte)) B.pre
  have hts := fun w hw => hts0 w (List.mem_cons_of_mem _ hw)
  have hown : s.vm.findClass "java/lang/String" = some m.cls := findClass_of_methodNamed B.named
  have hlocks := B.notSynchronized
  have hS : va_S A s.heap s.heap [] := va_S.rf
  have hl := lv_entry ([.ref (ad (72 + i))]) (n := 1) (Nat.le_of_ble_eq_true rfl)
  rw [lg_entry_eq]
  generalize (lg_sl ([.ref (ad (72 + i))]) ++ List.replicate (1 - (lg_sl ([.ref (ad (72 + i))])).length) Slot.unset).toArray = ls at hl ⊢
  have hl : lv_has ls 1 [(0, .ref (ad (72 + i)))] := hl
  refine va_gets hx hb hZ.2.2.1 hS hown (hts _ dw_433) (fun _ h => h) (show decode cJ0_coder_7d493 0 = .ok (.getstatic 38, 3) by decide +kernel) ?_
  refine lv_if_eq hx hb (show decode cJ0_coder_7d493 3 = .ok (.ifCond .eq 10, 3) by decide +kernel) (tgt := 13) (by decide) (fun q => absurd q (by decide)) (fun _ => ?_)
  refine lv_aload_n hx hb (show decode cJ0_coder_7d493 6 = .ok (.aload_n 0, 1) by decide +kernel) rfl (lv_at hl 0 rfl) ?_
  refine vk_getf hx hb (hZ.1.1 i hi).2.1 hS hown (hts _ dw_1244) (fun _ h => h) (show decode cJ0_coder_7d493 7 = .ok (.getfield 15, 3) by decide +kernel) ?_
  refine lv_goto hx hb (show decode cJ0_coder_7d493 10 = .ok (.goto 4, 3) by decide +kernel) (tgt := 14) (by decide) ?_
  exact W.zret (v := 0) (ty := .byte) hx hb hr (by decide +kernel) (fun t ht hW => ⟨rfl, ht⟩) (fun q hq => absurd hq List.not_mem_nil) (show decode cJ0_coder_7d493 14 = .ok (.ireturn, 1) by decide +kernel)
theorem t_latin {l : Launch} {ad : Nat → Nat} {A : Nat → Prop} {i : Nat} (hi : i < 3) : Met l yJ0_isLatin1_aae02 (s_ws yJ0_isLatin1_aae02 cJ0_isLatin1_aae02 1 (some .boolean)) (s_rm 0 0) (sPm ad A [.ref (ad (72 + i))]) (sQm (some (.int 1))) 0 0 A := by
  refine a_ofW (cc := cJ0_isLatin1_aae02) (maxL := 1) (ret := some .boolean) (by decide +kernel) rfl ?_
  intro p e s m args below meth c s₁ B hml hv
  obtain ⟨rfl, hZ⟩ := hv
  have hx := B.exec
  have hb := B.bytes
  have hr := B.returns
  have hts0 := atoms_spec (ws := s_ws yJ0_isLatin1_aae02 cJ0_isLatin1_aae02 1 (some .boolean)) B.pre
  have hts := fun w hw => hts0 w (List.mem_cons_of_mem _ hw)
  have hown : s.vm.findClass "java/lang/String" = some m.cls := findClass_of_methodNamed B.named
  have hlocks := B.notSynchronized
  have hS : va_S A s.heap s.heap [] := va_S.rf
  have hl := lv_entry ([.ref (ad (72 + i))]) (n := 1) (Nat.le_of_ble_eq_true rfl)
  rw [lg_entry_eq]
  generalize (lg_sl ([.ref (ad (72 + i))]) ++ List.replicate (1 - (lg_sl ([.ref (ad (72 + i))])).length) Slot.unset).toArray = ls at hl ⊢
  have hl : lv_has ls 1 [(0, .ref (ad (72 + i)))] := hl
  refine va_gets hx hb hZ.2.2.1 hS hown (hts _ dw_433) (fun _ h => h) (show decode cJ0_isLatin1_aae02 0 = .ok (.getstatic 38, 3) by decide +kernel) ?_
  refine lv_if_eq hx hb (show decode cJ0_isLatin1_aae02 3 = .ok (.ifCond .eq 14, 3) by decide +kernel) (tgt := 17) (by decide) (fun q => absurd q (by decide)) (fun _ => ?_)
  refine lv_aload_n hx hb (show decode cJ0_isLatin1_aae02 6 = .ok (.aload_n 0, 1) by decide +kernel) rfl (lv_at hl 0 rfl) ?_
  refine vk_getf hx hb (hZ.1.1 i hi).2.1 hS hown (hts _ dw_1244) (fun _ h => h) (show decode cJ0_isLatin1_aae02 7 = .ok (.getfield 15, 3) by decide +kernel) ?_
  refine lv_if_ne hx hb (show decode cJ0_isLatin1_aae02 10 = .ok (.ifCond .ne 7, 3) by decide +kernel) (tgt := 17) (by decide) (fun q => absurd rfl q) (fun _ => ?_)
  refine lv_iconst (v := 1) hx hb (show decode cJ0_isLatin1_aae02 13 = .ok (.iconst 1, 1) by decide +kernel) (by decide) ?_
  refine lv_goto hx hb (show decode cJ0_isLatin1_aae02 14 = .ok (.goto 4, 3) by decide +kernel) (tgt := 18) (by decide) ?_
  exact W.zret (v := 1) (ty := .boolean) hx hb hr (by decide +kernel) (fun t ht hW => ⟨rfl, ht⟩) (fun q hq => absurd hq List.not_mem_nil) (show decode cJ0_isLatin1_aae02 18 = .ok (.ireturn, 1) by decide +kernel)
theorem t_len {l : Launch} {ad : Nat → Nat} {A : Nat → Prop} {i : Nat} (hi : i < 3) : Met l yJ0_length_8abf5 (s_ws yJ0_length_8abf5 cJ0_length_8abf5 1 (some .int)) (s_rm 1 20) (sPm ad A [.ref (ad (72 + i))]) (sQm (some (.int (nI (sLn i))))) 0 0 A := by
  refine a_ofW (cc := cJ0_length_8abf5) (maxL := 1) (ret := some .int) (by decide +kernel) rfl ?_
  intro p e s m args below meth c s₁ B hml hv
  obtain ⟨rfl, hZ⟩ := hv
  have hx := B.exec
  have hb := B.bytes
  have hr := B.returns
  have hts0 := atoms_spec (ws := s_ws yJ0_length_8abf5 cJ0_length_8abf5 1 (some .int)) B.pre
  have hts := fun w hw => hts0 w (List.mem_cons_of_mem _ hw)
  have hown : s.vm.findClass "java/lang/String" = some m.cls := findClass_of_methodNamed B.named
  have hlocks := B.notSynchronized
  have hS : va_S A s.heap s.heap [] := va_S.rf
  have hl := lv_entry ([.ref (ad (72 + i))]) (n := 1) (Nat.le_of_ble_eq_true rfl)
  rw [lg_entry_eq]
  generalize (lg_sl ([.ref (ad (72 + i))]) ++ List.replicate (1 - (lg_sl ([.ref (ad (72 + i))])).length) Slot.unset).toArray = ls at hl ⊢
  have hl : lv_has ls 1 [(0, .ref (ad (72 + i)))] := hl
  refine lv_aload_n hx hb (show decode cJ0_length_8abf5 0 = .ok (.aload_n 0, 1) by decide +kernel) rfl (lv_at hl 0 rfl) ?_
  refine vk_getf hx hb (hZ.1.1 i hi).2.2.1 hS hown (hts _ dw_1243) (fun _ h => h) (show decode cJ0_length_8abf5 1 = .ok (.getfield 9, 3) by decide +kernel) ?_
  refine va_tlen (v := nI (sLn i)) hx hb (hZ.1.1 i hi).2.2.2 hS rfl (show decode cJ0_length_8abf5 4 = .ok (.arraylength, 1) by decide +kernel) ?_
  refine lv_aload_n hx hb (show decode cJ0_length_8abf5 5 = .ok (.aload_n 0, 1) by decide +kernel) rfl (lv_at hl 0 rfl) ?_
  refine t_call (va_runV (C := "java/lang/String") (As := []) (rest := [.int (nI (sLn i))]) ⟨hx, hb, hml, hown, hts⟩ (t_coder (ad := ad) (A := A) hi) ⟨callB_of 0 hts (s_good dw_coder) rfl rfl rfl (hts _ dw_13) (hts _ dw_429) (by decide +kernel) (by decide), hts _ dw_430, hts _ dw_431⟩ ⟨sPm_blind, vk_recv hZ.1 hi hS, fun U hU hW => ⟨rfl, hZ.go hS hW hU⟩⟩ rfl rfl hl.1 rfl (lv_room (Nat.le_of_ble_eq_true rfl)) (show decode cJ0_length_8abf5 6 = .ok (.invokevirtual 335, 3) by decide +kernel) ⟨Nat.le_refl _, Nat.le_refl _⟩) hS (fun locs' hS' => ?_)
  refine lv_ishr hx hb (show decode cJ0_length_8abf5 9 = .ok (.ishr, 1) by decide +kernel) ?_
  have e1 : nI (sLn i) >>> ((0 : Int32) &&& 31) = nI (sLn i) := by
    rcases (show i = 0 ∨ i = 1 ∨ i = 2 by omega) with rfl | rfl | rfl <;> decide
  rw [e1]
  exact W.iret hx hb hr (fun t ht hW => ⟨rfl, ht⟩) (fun q hq => hS'.2.2 q hq) (show decode cJ0_length_8abf5 10 = .ok (.ireturn, 1) by decide +kernel)
theorem t_pre {l : Launch} {ad : Nat → Nat} {A : Nat → Prop} {j n : Nat} (hj : j < n) (hn : n < 1000) {w : Value} (hw : w = .null ∨ ∃ t : Nat, w = .ref t) : Met l yJ3_checkIndex_8e157 (s_ws yJ3_checkIndex_8e157 cJ3_checkIndex_8e157 3 (some .int)) (s_rm 0 0) (sPm ad A [.int (nI j), .int (nI n), w]) (sQm (some (.int (nI j)))) 0 0 A := by
  refine a_ofW (cc := cJ3_checkIndex_8e157) (maxL := 3) (ret := some .int) (by decide +kernel) rfl ?_
  intro p e s m args below meth c s₁ B hml hv
  obtain ⟨rfl, hZ⟩ := hv
  have hx := B.exec
  have hb := B.bytes
  have hr := B.returns
  have hlocks := B.notSynchronized
  have hl : ∃ ls : Array Slot, entryFrame m ([.int (nI j), .int (nI n), w] : List Value).toArray 3 = F0 m 0 ls [] ∧ lv_has ls 3 [(0, .int (nI j)), (1, .int (nI n))] := by
    rcases hw with rfl | ⟨t, rfl⟩
    · have hl := lv_entry ([.int (nI j), .int (nI n), .null]) (n := 3) (Nat.le_of_ble_eq_true rfl)
      exact ⟨_, lg_entry_eq .., lv_sub hl [0, 1] rfl⟩
    · have hl := lv_entry ([.int (nI j), .int (nI n), .ref t]) (n := 3) (Nat.le_of_ble_eq_true rfl)
      exact ⟨_, lg_entry_eq .., lv_sub hl [0, 1] rfl⟩
  obtain ⟨ls, he, hl⟩ := hl
  rw [he]
  refine lv_iload_n hx hb (show decode cJ3_checkIndex_8e157 0 = .ok (.iload_n 0, 1) by decide +kernel) rfl (lv_at hl 0 rfl) ?_
  refine lv_if_lt hx hb (show decode cJ3_checkIndex_8e157 1 = .ok (.ifCond .lt 8, 3) by decide +kernel) (tgt := 9) (by decide) (fun q => absurd q (nI_pos (by omega))) (fun _ => ?_)
  refine lv_iload_n hx hb (show decode cJ3_checkIndex_8e157 4 = .ok (.iload_n 0, 1) by decide +kernel) rfl (lv_at hl 0 rfl) ?_
  refine lv_iload_n hx hb (show decode cJ3_checkIndex_8e157 5 = .ok (.iload_n 1, 1) by decide +kernel) rfl (lv_at hl 1 rfl) ?_
  refine lv_icmp_lt hx hb (show decode cJ3_checkIndex_8e157 6 = .ok (.if_icmp .lt 10, 3) by decide +kernel) (tgt := 16) (by decide) (fun _ => ?_) (fun q => absurd (nI_lt hj (by omega)) q)
  refine lv_iload_n hx hb (show decode cJ3_checkIndex_8e157 16 = .ok (.iload_n 0, 1) by decide +kernel) rfl (lv_at hl 0 rfl) ?_
  exact W.iret hx hb hr (fun t ht hW => ⟨rfl, ht⟩) (fun q hq => absurd hq List.not_mem_nil) (show decode cJ3_checkIndex_8e157 17 = .ok (.ireturn, 1) by decide +kernel)
theorem t_chk {l : Launch} {ad : Nat → Nat} {A : Nat → Prop} {j n : Nat} (hj : j < n) (hn : n < 1000) : Met l yJ0_checkIndex_df160 (s_ws yJ0_checkIndex_df160 cJ0_checkIndex_df160 2 none) (s_rm 1 22) (sPm ad A [.int (nI j), .int (nI n)]) (sQm none) 0 0 A := by
  refine a_ofW (cc := cJ0_checkIndex_df160) (maxL := 2) (ret := none) (by decide +kernel) rfl ?_
  intro p e s m args below meth c s₁ B hml hv
  obtain ⟨rfl, hZ⟩ := hv
  have hx := B.exec
  have hb := B.bytes
  have hr := B.returns
  have hts0 := atoms_spec (ws := s_ws yJ0_checkIndex_df160 cJ0_checkIndex_df160 2 none) B.pre
  have hts := fun w hw => hts0 w (List.mem_cons_of_mem _ hw)
  have hown : s.vm.findClass "java/lang/String" = some m.cls := findClass_of_methodNamed B.named
  have hlocks := B.notSynchronized
  have hS : va_S A s.heap s.heap [] := va_S.rf
  have hl := lv_entry ([.int (nI j), .int (nI n)]) (n := 2) (Nat.le_of_ble_eq_true rfl)
  rw [lg_entry_eq]
  generalize (lg_sl ([.int (nI j), .int (nI n)]) ++ List.replicate (2 - (lg_sl ([.int (nI j), .int (nI n)])).length) Slot.unset).toArray = ls at hl ⊢
  have hl : lv_has ls 2 [(0, .int (nI j)), (1, .int (nI n))] := hl
  obtain ⟨w, hw, hZw⟩ : ∃ w : Value, (w = .null ∨ ∃ t : Nat, w = .ref t) ∧ va_Z "jdk/internal/util/Preconditions" "SIOOBE_FORMATTER" "Ljava/util/function/BiFunction;" w A s s.heap := by
    rcases hZ.2.2.2.1 with h | ⟨t, h⟩
    · exact ⟨.null, Or.inl rfl, h⟩
    · exact ⟨.ref t, Or.inr ⟨t, rfl⟩, h⟩
  refine lv_iload_n hx hb (show decode cJ0_checkIndex_df160 0 = .ok (.iload_n 0, 1) by decide +kernel) rfl (lv_at hl 0 rfl) ?_
  refine lv_iload_n hx hb (show decode cJ0_checkIndex_df160 1 = .ok (.iload_n 1, 1) by decide +kernel) rfl (lv_at hl 1 rfl) ?_
  refine va_gets hx hb hZw hS hown (hts _ dw_449) (fun _ h => h) (show decode cJ0_checkIndex_df160 2 = .ok (.getstatic 1053, 3) by decide +kernel) ?_
  refine t_call (va_runS (As := [.int (nI j), .int (nI n), w]) (rest := []) ⟨hx, hb, hml, hown, hts⟩ (t_pre (ad := ad) (A := A) hj hn hw) ⟨callB_of 3 hts (s_good dw_pre) rfl rfl rfl (hts _ dw_15) (hts _ dw_451) (by decide +kernel) (by decide), hts _ dw_452⟩ ⟨sPm_blind, fun U hU hW => ⟨rfl, hZ.go hS hW hU⟩⟩ rfl rfl hl.1 rfl (lv_room (Nat.le_of_ble_eq_true rfl)) (show decode cJ0_checkIndex_df160 5 = .ok (.invokestatic 1059, 3) by decide +kernel) ⟨Nat.le_refl _, Nat.le_refl _⟩) hS (fun locs' hS' => ?_)
  refine lv_pop (va := .int (nI j)) hx hb (show decode cJ0_checkIndex_df160 8 = .ok (.pop, 1) by decide +kernel) rfl ?_
  exact W.vret hx hb hr (fun t ht hW => ⟨rfl, ht⟩) (fun q hq => hS'.2.2 q hq) (show decode cJ0_checkIndex_df160 9 = .ok (.return_, 1) by decide +kernel)
theorem sb_ok : ∀ i : Fin 3, ∀ j : Fin 4, ((((sBy i.val).getD j.val 0 &&& 255).toUInt32 % 65536).toInt32 = (sBy i.val).getD j.val 0) := by decide +kernel
theorem sb_nr : ∀ i : Fin 3, ∀ j : Fin 4, narrow .char (.int ((sBy i.val).getD j.val 0)) = .int ((sBy i.val).getD j.val 0) := by
  intro i j
  obtain ⟨i, hi⟩ := i
  obtain ⟨j, hj⟩ := j
  dsimp only
  rcases (show i = 0 ∨ i = 1 ∨ i = 2 by omega) with rfl | rfl | rfl <;> rcases (show j = 0 ∨ j = 1 ∨ j = 2 ∨ j = 3 by omega) with rfl | rfl | rfl | rfl <;> rfl
theorem sl_lt {i j : Nat} (hi : i < 3) (hj : j < sLn i) : j < 4 ∧ sLn i < 1000 := by
  rcases (show i = 0 ∨ i = 1 ∨ i = 2 by omega) with rfl | rfl | rfl <;> simp [sLn] at hj ⊢ <;> omega
theorem t_lch {l : Launch} {ad : Nat → Nat} {A : Nat → Prop} {i j : Nat} (hi : i < 3) (hj : j < sLn i) : Met l yJ1_charAt_3b067 (s_ws yJ1_charAt_3b067 cJ1_charAt_3b067 2 (some .char)) (s_rm 2 43) (sPm ad A [.ref (ad (75 + i)), .int (nI j)]) (sQm (some (.int ((sBy i).getD j 0)))) 0 0 A := by
  refine a_ofW (cc := cJ1_charAt_3b067) (maxL := 2) (ret := some .char) (by decide +kernel) rfl ?_
  intro p e s m args below meth c s₁ B hml hv
  obtain ⟨rfl, hZ⟩ := hv
  have hx := B.exec
  have hb := B.bytes
  have hr := B.returns
  have hts0 := atoms_spec (ws := s_ws yJ1_charAt_3b067 cJ1_charAt_3b067 2 (some .char)) B.pre
  have hts := fun w hw => hts0 w (List.mem_cons_of_mem _ hw)
  have hown : s.vm.findClass "java/lang/StringLatin1" = some m.cls := findClass_of_methodNamed B.named
  have hlocks := B.notSynchronized
  have hS : va_S A s.heap s.heap [] := va_S.rf
  have hl := lv_entry ([.ref (ad (75 + i)), .int (nI j)]) (n := 2) (Nat.le_of_ble_eq_true rfl)
  rw [lg_entry_eq]
  generalize (lg_sl ([.ref (ad (75 + i)), .int (nI j)]) ++ List.replicate (2 - (lg_sl ([.ref (ad (75 + i)), .int (nI j)])).length) Slot.unset).toArray = ls at hl ⊢
  have hl : lv_has ls 2 [(0, .ref (ad (75 + i))), (1, .int (nI j))] := hl
  obtain ⟨j4, l1000⟩ := sl_lt hi hj
  have hT := (hZ.1.1 i hi).2.2.2
  refine lv_iload_n hx hb (show decode cJ1_charAt_3b067 0 = .ok (.iload_n 1, 1) by decide +kernel) rfl (lv_at hl 1 rfl) ?_
  refine lv_aload_n hx hb (show decode cJ1_charAt_3b067 1 = .ok (.aload_n 0, 1) by decide +kernel) rfl (lv_at hl 0 rfl) ?_
  refine va_tlen (v := nI (sLn i)) hx hb hT hS rfl (show decode cJ1_charAt_3b067 2 = .ok (.arraylength, 1) by decide +kernel) ?_
  refine t_call (va_runS (As := [.int (nI j), .int (nI (sLn i))]) (rest := []) ⟨hx, hb, hml, hown, hts⟩ (t_chk (ad := ad) (A := A) hj l1000) ⟨callB_of 2 hts (s_good dw_chk) rfl rfl rfl (hts _ dw_13) (hts _ dw_446) (by decide +kernel) (by decide), hts _ dw_447⟩ ⟨sPm_blind, fun U hU hW => ⟨rfl, hZ.go hS hW hU⟩⟩ rfl rfl hl.1 rfl (lv_room (Nat.le_of_ble_eq_true rfl)) (show decode cJ1_charAt_3b067 3 = .ok (.invokestatic 9, 3) by decide +kernel) ⟨Nat.le_refl _, Nat.le_refl _⟩) hS (fun locs' hS' => ?_)
  refine lv_aload_n hx hb (show decode cJ1_charAt_3b067 6 = .ok (.aload_n 0, 1) by decide +kernel) rfl (lv_at hl 0 rfl) ?_
  refine lv_iload_n hx hb (show decode cJ1_charAt_3b067 7 = .ok (.iload_n 1, 1) by decide +kernel) rfl (lv_at hl 1 rfl) ?_
  refine va_tb (v := .int ((sBy i).getD j 0)) hx hb hT hS' (show vp_in (nI j) (sLn i) from vp_in_nI hj (by omega)) (by rw [nI_clamp (by omega)]; rfl) (show decode cJ1_charAt_3b067 8 = .ok (.baload, 1) by decide +kernel) ?_
  refine lv_sipush (v := 255) hx hb (show decode cJ1_charAt_3b067 9 = .ok (.sipush 255, 3) by decide +kernel) (by decide) ?_
  refine lv_iand hx hb (show decode cJ1_charAt_3b067 12 = .ok (.iand, 1) by decide +kernel) ?_
  refine lv_i2c (v := (sBy i).getD j 0) hx hb (show decode cJ1_charAt_3b067 13 = .ok (.i2c, 1) by decide +kernel) (sb_ok ⟨i, hi⟩ ⟨j, j4⟩) ?_
  exact W.zret (ty := .char) hx hb hr (sb_nr ⟨i, hi⟩ ⟨j, j4⟩) (fun t ht hW => ⟨rfl, ht⟩) (fun q hq => hS'.2.2 q hq) (show decode cJ1_charAt_3b067 14 = .ok (.ireturn, 1) by decide +kernel)
theorem t_char {l : Launch} {ad : Nat → Nat} {A : Nat → Prop} {i j : Nat} (hi : i < 3) (hj : j < sLn i) : Met l yJ0_charAt_5068e (s_ws yJ0_charAt_5068e cJ0_charAt_5068e 2 (some .char)) (s_rm 3 64) (sPm ad A [.ref (ad (72 + i)), .int (nI j)]) (sQm (some (.int ((sBy i).getD j 0)))) 0 0 A := by
  refine a_ofW (cc := cJ0_charAt_5068e) (maxL := 2) (ret := some .char) (by decide +kernel) rfl ?_
  intro p e s m args below meth c s₁ B hml hv
  obtain ⟨rfl, hZ⟩ := hv
  have hx := B.exec
  have hb := B.bytes
  have hr := B.returns
  have hts0 := atoms_spec (ws := s_ws yJ0_charAt_5068e cJ0_charAt_5068e 2 (some .char)) B.pre
  have hts := fun w hw => hts0 w (List.mem_cons_of_mem _ hw)
  have hown : s.vm.findClass "java/lang/String" = some m.cls := findClass_of_methodNamed B.named
  have hlocks := B.notSynchronized
  have hS : va_S A s.heap s.heap [] := va_S.rf
  have hl := lv_entry ([.ref (ad (72 + i)), .int (nI j)]) (n := 2) (Nat.le_of_ble_eq_true rfl)
  rw [lg_entry_eq]
  generalize (lg_sl ([.ref (ad (72 + i)), .int (nI j)]) ++ List.replicate (2 - (lg_sl ([.ref (ad (72 + i)), .int (nI j)])).length) Slot.unset).toArray = ls at hl ⊢
  have hl : lv_has ls 2 [(0, .ref (ad (72 + i))), (1, .int (nI j))] := hl
  obtain ⟨j4, l1000⟩ := sl_lt hi hj
  refine lv_aload_n hx hb (show decode cJ0_charAt_5068e 0 = .ok (.aload_n 0, 1) by decide +kernel) rfl (lv_at hl 0 rfl) ?_
  refine t_call (va_runV (C := "java/lang/String") (As := []) (rest := []) ⟨hx, hb, hml, hown, hts⟩ (t_latin (ad := ad) (A := A) hi) ⟨callB_of 0 hts (s_good dw_latin) rfl rfl rfl (hts _ dw_13) (hts _ dw_439) (by decide +kernel) (by decide), hts _ dw_440, hts _ dw_441⟩ ⟨sPm_blind, vk_recv hZ.1 hi hS, fun U hU hW => ⟨rfl, hZ.go hS hW hU⟩⟩ rfl rfl hl.1 rfl (lv_room (Nat.le_of_ble_eq_true rfl)) (show decode cJ0_charAt_5068e 1 = .ok (.invokevirtual 492, 3) by decide +kernel) ⟨Nat.le_refl _, Nat.le_refl _⟩) hS (fun locs1 hS1 => ?_)
  refine lv_if_eq hx hb (show decode cJ0_charAt_5068e 4 = .ok (.ifCond .eq 12, 3) by decide +kernel) (tgt := 16) (by decide) (fun q => absurd q (by decide)) (fun _ => ?_)
  refine lv_aload_n hx hb (show decode cJ0_charAt_5068e 7 = .ok (.aload_n 0, 1) by decide +kernel) rfl (lv_at hl 0 rfl) ?_
  refine vk_getf hx hb (hZ.1.1 i hi).2.2.1 hS1 hown (hts _ dw_1243) (fun _ h => h) (show decode cJ0_charAt_5068e 8 = .ok (.getfield 9, 3) by decide +kernel) ?_
  refine lv_iload_n hx hb (show decode cJ0_charAt_5068e 11 = .ok (.iload_n 1, 1) by decide +kernel) rfl (lv_at hl 1 rfl) ?_
  refine t_call (va_runS (As := [.ref (ad (75 + i)), .int (nI j)]) (rest := []) ⟨hx, hb, hml, hown, hts⟩ (t_lch (ad := ad) (A := A) hi hj) ⟨callB_of 2 hts (s_good dw_lch) rfl rfl rfl (hts _ dw_14) (hts _ dw_443) (by decide +kernel) (by decide), hts _ dw_444⟩ ⟨sPm_blind, fun U hU hW => ⟨rfl, hZ.go hS1 hW hU⟩⟩ rfl rfl hl.1 rfl (lv_room (Nat.le_of_ble_eq_true rfl)) (show decode cJ0_charAt_5068e 12 = .ok (.invokestatic 495, 3) by decide +kernel) ⟨Nat.le_refl _, Nat.le_refl _⟩) hS1 (fun locs' hS' => ?_)
  exact W.zret (ty := .char) hx hb hr (sb_nr ⟨i, hi⟩ ⟨j, j4⟩) (fun t ht hW => ⟨rfl, ht⟩) (fun q hq => hS'.2.2 q hq) (show decode cJ0_charAt_5068e 15 = .ok (.ireturn, 1) by decide +kernel)
theorem s_ix {a : Nat} (h : 72 ≤ a ∧ a < 75) : ∃ i, i < 3 ∧ a = 72 + i := ⟨a - 72, by omega, by omega⟩
theorem s_sb {i : Nat} (hi : i < 3) : a_sb (72 + i) = sBy i ∧ (sBy i).length = sLn i := by
  rcases (show i = 0 ∨ i = 1 ∨ i = 2 by omega) with rfl | rfl | rfl <;> exact ⟨rfl, rfl⟩
theorem s_slnX {y pc n ix : Nat} (hl : Cond.methodLink (a_nm y).cls ix yJ0_length_8abf5 ∈ a_tb) (hR : 5 ≤ (a_rm y).frames ∧ 150 ≤ (a_rm y).locals) (hd : decode (a_cd y) pc = .ok (.invokevirtual ix, 3)) (hn : pc + 3 = n) : a_Snd y pc (o_sln n) := by
  intro p l e s m args below meth c D cA ad A hC ls st σ H locs lsC Q hL hS
  obtain ⟨hx, hb, hml, hown, hts, hK, hZ⟩ := hC
  subst hn
  unfold o_sln
  split
  · rename_i a r
    split
    · rename_i ha
      split
      · rename_i hr4
        intro kk
        obtain ⟨i, hi, rfl⟩ := s_ix ha
        have hca := a_cats ad r
        obtain ⟨e1, e2⟩ := s_sb hi
        rw [e1, e2] at kk
        exact t_call (va_runV (C := "java/lang/String") (As := []) (rest := r.map (a_cv ad)) ⟨hx, hb, hml, hown, hts⟩ (t_len (ad := ad) (A := A) hi) ⟨callB_of 0 hts (s_good dw_len) rfl rfl rfl (hts _ dw_13) (hts _ hl) (by decide +kernel) (by simp only [s_rm]; omega), hts _ dw_426, hts _ dw_427⟩ ⟨sPm_blind, vk_recv hZ.1 hi hS.2.2, fun U hU hW => ⟨rfl, hZ.go hS.2.2 hW hU⟩⟩ rfl rfl hL.1 rfl (lv_room (by omega)) hd ⟨Nat.le_refl _, Nat.le_refl _⟩) hS.2.2 (fun locs' hS' => kk H locs' lsC hL ⟨hS.1, hS.2.1, hS'⟩)
      · trivial
    · trivial
  · trivial
theorem s_schX {y pc n ix : Nat} (hl : Cond.methodLink (a_nm y).cls ix yJ0_charAt_5068e ∈ a_tb) (hR : 5 ≤ (a_rm y).frames ∧ 150 ≤ (a_rm y).locals) (hd : decode (a_cd y) pc = .ok (.invokevirtual ix, 3)) (hn : pc + 3 = n) : a_Snd y pc (o_sch n) := by
  intro p l e s m args below meth c D cA ad A hC ls st σ H locs lsC Q hL hS
  obtain ⟨hx, hb, hml, hown, hts, hK, hZ⟩ := hC
  subst hn
  unfold o_sch
  split
  · rename_i j0 a r
    split
    · rename_i ha
      split
      · rename_i hin
        split
        · rename_i hr4
          intro kk
          obtain ⟨i, hi, rfl⟩ := s_ix ha
          have hca := a_cats ad r
          obtain ⟨e1, e2⟩ := s_sb hi
          rw [e1, e2] at hin
          rw [e1] at kk
          simp only [a_in, Bool.and_eq_true, Bool.not_eq_true', decide_eq_false_iff_not, decide_eq_true_eq] at hin
          obtain ⟨j, hj31, rfl⟩ := nI_of hin.1
          rw [nI_clamp hj31] at hin kk
          exact t_call (va_runV (C := "java/lang/String") (As := [.int (nI j)]) (rest := r.map (a_cv ad)) ⟨hx, hb, hml, hown, hts⟩ (t_char (ad := ad) (A := A) hi hin.2) ⟨callB_of 1 hts (s_good dw_char) rfl rfl rfl (hts _ dw_13) (hts _ hl) (by decide +kernel) (by simp only [s_rm]; omega), hts _ dw_436, hts _ dw_437⟩ ⟨sPm_blind, vk_recv hZ.1 hi hS.2.2, fun U hU hW => ⟨rfl, hZ.go hS.2.2 hW hU⟩⟩ rfl rfl hL.1 rfl (lv_room (by omega)) hd ⟨Nat.le_refl _, Nat.le_refl _⟩) hS.2.2 (fun locs' hS' => kk H locs' lsC hL ⟨hS.1, hS.2.1, hS'⟩)
        · trivial
      · trivial
    · trivial
  · trivial
