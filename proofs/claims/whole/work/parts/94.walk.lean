/-! the law's loop and its start: by program (gen_start.py) -/
theorem sub_5 {L : Nat} (h : L ≤ 320) : (nI L - nI 5).toInt = (L : Int) - 5 := by
  rw [Int32.toInt_sub, nI_toInt (by omega), nI_toInt (by omega), Int.bmod_def]
  split <;> omega
set_option maxRecDepth 100000 in
set_option maxHeartbeats 4000000 in
theorem law_loop {p : Program} {l : Launch} {e : Env} {s : State} {m : MethodId} {below : List Frame} {meth : Method} {c : Code} {Q : State → Prop} {b L : Nat} {xs : Nat → Int32} {D : va_G} {cA : Nat → ClassId} {ad : Nat → Nat} {A : Nat → Prop} (C : lC p s m c b L xs D cA ad A)
    (kk : ∀ (H : Heap) (locs : List Loc) (ls : Array Slot), va_S A s.heap H locs → W p l e room_1 s m #[Value.ref b] below meth c H locs 600000 7302250 Q (F0 m 1101 ls [])) :
    ∀ (σ : a_HP) (H : Heap) (locs : List Loc) (ls : Array Slot), 5 * 0 ≤ L → Inv 0 σ → a_SR D ad cA A s.heap σ H locs → lv_has ls 4 [(3, .int (nI (5 * 0))), (0, .ref b), (1, .ref (ad 0)), (2, .ref (ad 61))] → W p l e room_1 s m #[Value.ref b] below meth c H locs 600000 7302250 Q (F0 m 18 ls []) := by
  have C' := C
  obtain ⟨hx, hb, hml, hown, hts, hX, hbl, hbA, hK, hZ, hL⟩ := C'
  refine lp_dn (C := fun k => ∀ (σ : a_HP) (H : Heap) (locs : List Loc) (ls : Array Slot), 5 * k ≤ L → Inv k σ → a_SR D ad cA A s.heap σ H locs → lv_has ls 4 [(3, .int (nI (5 * k))), (0, .ref b), (1, .ref (ad 0)), (2, .ref (ad 61))] → W p l e room_1 s m #[Value.ref b] below meth c H locs 600000 7302250 Q (F0 m 18 ls [])) 65 ?_ ?_
  · intro σ H locs ls h5
    omega
  · intro k hk ih σ H locs ls h5 hI hS hl
    refine lv_iload_n hx hb dl_18 rfl (lv_at hl 0 rfl) ?_
    refine lv_aload_n hx hb dl_19 rfl (lv_at hl 1 rfl) ?_
    refine va_slen hx hb hX hbl hbA hS.2.2 dl_20 ?_
    refine lv_iconst (v := nI 5) hx hb dl_21 (by decide) ?_
    refine lv_isub hx hb dl_22 ?_
    have e5 := sub_5 hL
    have en : (nI (5 * k)).toInt = ((5 * k : Nat) : Int) := nI_toInt (by omega)
    refine lv_icmp_gt hx hb dl_23 (tgt := 1101) (by decide) (fun _ => kk H locs ls hS.2.2) (fun q => ?_)
    have h55 : 5 * k + 5 ≤ L := by
      have : ¬ (nI L - nI 5).toInt < (nI (5 * k)).toInt := fun z => q (Int32.lt_iff_toInt_lt.mpr z)
      omega
    refine lv_aload_n hx hb dl_26 rfl (lv_at hl 1 rfl) ?_
    refine lv_iload_n hx hb dl_27 rfl (lv_at hl 0 rfl) ?_
    refine va_sld hx hb hX hbl hbA hS.2.2 (vp_in_nI (show 5 * k < L by omega) (by omega)) dl_28 ?_
    refine lv_bipush (v := 63) hx hb dl_29 (by decide) ?_
    refine lv_iand hx hb dl_31 ?_
    obtain ⟨v, hv, ev⟩ := pk_andE (xs (nI (5 * k)).toNatClampNeg) (m := 63) 6 (by decide)
    rw [ev]
    have hv64 : v < 64 := hv
    have tv : (nI v).toInt = (v : Int) := nI_toInt (by omega)
    have next : ∀ (σ' : a_HP) (H' : Heap) (locs' : List Loc), Inv (k + 1) σ' → a_SR D ad cA A s.heap σ' H' locs' → W p l e room_1 s m #[Value.ref b] below meth c H' locs' 600000 7302250 Q (F0 m 1095 ls []) := fun σ' H' locs' hI' hS' => by
      refine lv_iinc (k := 0) (v := nI (5 * (k + 1))) (lv' := [(3, .int (nI (5 * (k + 1)))), (0, .ref b), (1, .ref (ad 0)), (2, .ref (ad 61))]) hx hb dl_1095 hl rfl ?_ (by decide) rfl (fun ls' hl' => ?_)
      · rw [show Int32.ofInt 5 = nI 5 by decide, nI_add, show 5 * k + 5 = 5 * (k + 1) by omega]
      · exact lv_goto hx hb dl_1098 (tgt := 18) (by decide) (ih σ' H' locs' ls' (by omega) hI' hS' hl')
    have h65 : k < 1000000 := by omega
    by_cases h35 : v < 35
    · have sel : ∀ (off : Int) (tgt : Nat), (#[156, 189, 212, 235, 258, 291, 344, 377, 400, 413, 426, 449, 462, 475, 508, 541, 554, 577, 600, 643, 666, 689, 732, 745, 758, 771, 814, 867, 900, 933, 957, 980, 1003, 1026, 1049] : Array Int)[v]? = some off → (32 : Int) + off = (tgt : Int) → W p l e room_1 s m #[Value.ref b] below meth c H locs 600000 7302250 Q (F0 m tgt ls []) → W p l e room_1 s m #[Value.ref b] below meth c H locs 600000 7302250 Q (F0 m 32 ls [.int (nI v)]) := fun off tgt h1 h2 h3 => by
        refine lv_tableIn hx hb dl_32 (by omega) (by omega) ?_ (tgt := tgt) h2 h3
        rw [tv, show ((v : Int) - 0).toNat = v by omega]
        exact h1
      have all : ∀ u ∈ ([0, 1, 2, 3, 4, 5, 6, 7, 8, 9, 10, 11, 12, 13, 14, 15, 16, 17, 18, 19, 20, 21, 22, 23, 24, 25, 26, 27, 28, 29, 30, 31, 32, 33, 34] : List Nat), v = u → W p l e room_1 s m #[Value.ref b] below meth c H locs 600000 7302250 Q (F0 m 32 ls [.int (nI v)]) := by
        refine List.forall_mem_cons.mpr ⟨fun ev => sel 156 188 (by rw [ev]; rfl) (by decide) (law_0 C h65 h55 hI hS hl next), ?_⟩
        refine List.forall_mem_cons.mpr ⟨fun ev => sel 189 221 (by rw [ev]; rfl) (by decide) (law_1 C h65 h55 hI hS hl next), ?_⟩
        refine List.forall_mem_cons.mpr ⟨fun ev => sel 212 244 (by rw [ev]; rfl) (by decide) (law_2 C h65 h55 hI hS hl next), ?_⟩
        refine List.forall_mem_cons.mpr ⟨fun ev => sel 235 267 (by rw [ev]; rfl) (by decide) (law_3 C h65 h55 hI hS hl next), ?_⟩
        refine List.forall_mem_cons.mpr ⟨fun ev => sel 258 290 (by rw [ev]; rfl) (by decide) (law_4 C h65 h55 hI hS hl next), ?_⟩
        refine List.forall_mem_cons.mpr ⟨fun ev => sel 291 323 (by rw [ev]; rfl) (by decide) (law_5 C h65 h55 hI hS hl next), ?_⟩
        refine List.forall_mem_cons.mpr ⟨fun ev => sel 344 376 (by rw [ev]; rfl) (by decide) (law_6 C h65 h55 hI hS hl next), ?_⟩
        refine List.forall_mem_cons.mpr ⟨fun ev => sel 377 409 (by rw [ev]; rfl) (by decide) (law_7 C h65 h55 hI hS hl next), ?_⟩
        refine List.forall_mem_cons.mpr ⟨fun ev => sel 400 432 (by rw [ev]; rfl) (by decide) (law_8 C h65 h55 hI hS hl next), ?_⟩
        refine List.forall_mem_cons.mpr ⟨fun ev => sel 413 445 (by rw [ev]; rfl) (by decide) (law_9 C h65 h55 hI hS hl next), ?_⟩
        refine List.forall_mem_cons.mpr ⟨fun ev => sel 426 458 (by rw [ev]; rfl) (by decide) (law_10 C h65 h55 hI hS hl next), ?_⟩
        refine List.forall_mem_cons.mpr ⟨fun ev => sel 449 481 (by rw [ev]; rfl) (by decide) (law_11 C h65 h55 hI hS hl next), ?_⟩
        refine List.forall_mem_cons.mpr ⟨fun ev => sel 462 494 (by rw [ev]; rfl) (by decide) (law_12 C h65 h55 hI hS hl next), ?_⟩
        refine List.forall_mem_cons.mpr ⟨fun ev => sel 475 507 (by rw [ev]; rfl) (by decide) (law_13 C h65 h55 hI hS hl next), ?_⟩
        refine List.forall_mem_cons.mpr ⟨fun ev => sel 508 540 (by rw [ev]; rfl) (by decide) (law_14 C h65 h55 hI hS hl next), ?_⟩
        refine List.forall_mem_cons.mpr ⟨fun ev => sel 541 573 (by rw [ev]; rfl) (by decide) (law_15 C h65 h55 hI hS hl next), ?_⟩
        refine List.forall_mem_cons.mpr ⟨fun ev => sel 554 586 (by rw [ev]; rfl) (by decide) (law_16 C h65 h55 hI hS hl next), ?_⟩
        refine List.forall_mem_cons.mpr ⟨fun ev => sel 577 609 (by rw [ev]; rfl) (by decide) (law_17 C h65 h55 hI hS hl next), ?_⟩
        refine List.forall_mem_cons.mpr ⟨fun ev => sel 600 632 (by rw [ev]; rfl) (by decide) (law_18 C h65 h55 hI hS hl next), ?_⟩
        refine List.forall_mem_cons.mpr ⟨fun ev => sel 643 675 (by rw [ev]; rfl) (by decide) (law_19 C h65 h55 hI hS hl next), ?_⟩
        refine List.forall_mem_cons.mpr ⟨fun ev => sel 666 698 (by rw [ev]; rfl) (by decide) (law_20 C h65 h55 hI hS hl next), ?_⟩
        refine List.forall_mem_cons.mpr ⟨fun ev => sel 689 721 (by rw [ev]; rfl) (by decide) (law_21 C h65 h55 hI hS hl next), ?_⟩
        refine List.forall_mem_cons.mpr ⟨fun ev => sel 732 764 (by rw [ev]; rfl) (by decide) (law_22 C h65 h55 hI hS hl next), ?_⟩
        refine List.forall_mem_cons.mpr ⟨fun ev => sel 745 777 (by rw [ev]; rfl) (by decide) (law_23 C h65 h55 hI hS hl next), ?_⟩
        refine List.forall_mem_cons.mpr ⟨fun ev => sel 758 790 (by rw [ev]; rfl) (by decide) (law_24 C h65 h55 hI hS hl next), ?_⟩
        refine List.forall_mem_cons.mpr ⟨fun ev => sel 771 803 (by rw [ev]; rfl) (by decide) (law_25 C h65 h55 hI hS hl next), ?_⟩
        refine List.forall_mem_cons.mpr ⟨fun ev => sel 814 846 (by rw [ev]; rfl) (by decide) (law_26 C h65 h55 hI hS hl next), ?_⟩
        refine List.forall_mem_cons.mpr ⟨fun ev => sel 867 899 (by rw [ev]; rfl) (by decide) (law_27 C h65 h55 hI hS hl next), ?_⟩
        refine List.forall_mem_cons.mpr ⟨fun ev => sel 900 932 (by rw [ev]; rfl) (by decide) (law_28 C h65 h55 hI hS hl next), ?_⟩
        refine List.forall_mem_cons.mpr ⟨fun ev => sel 933 965 (by rw [ev]; rfl) (by decide) (law_29 C h65 h55 hI hS hl next), ?_⟩
        refine List.forall_mem_cons.mpr ⟨fun ev => sel 957 989 (by rw [ev]; rfl) (by decide) (law_30 C h65 h55 hI hS hl next), ?_⟩
        refine List.forall_mem_cons.mpr ⟨fun ev => sel 980 1012 (by rw [ev]; rfl) (by decide) (law_31 C h65 h55 hI hS hl next), ?_⟩
        refine List.forall_mem_cons.mpr ⟨fun ev => sel 1003 1035 (by rw [ev]; rfl) (by decide) (law_32 C h65 h55 hI hS hl next), ?_⟩
        refine List.forall_mem_cons.mpr ⟨fun ev => sel 1026 1058 (by rw [ev]; rfl) (by decide) (law_33 C h65 h55 hI hS hl next), ?_⟩
        refine List.forall_mem_cons.mpr ⟨fun ev => sel 1049 1081 (by rw [ev]; rfl) (by decide) (law_34 C h65 h55 hI hS hl next), ?_⟩
        exact fun _ hk => absurd hk List.not_mem_nil
      exact all v (List.mem_range.mpr h35) rfl
    · exact lv_tableOut hx hb dl_32 (by omega) (tgt := 1095) (by decide) (next σ H locs (Inv_N (Nat.le_succ k) hI) hS)
set_option maxRecDepth 100000 in
set_option maxHeartbeats 4000000 in
theorem whole_start {p : Program} {e : Env} {s : State} {m : MethodId} {below : List Frame} {meth : Method} {c : Code} (l : Launch) {b L : Nat} {xs : Nat → Int32} (hL : L ≤ 320) (C0 : lw_At p s m meth c b L xs) : W p l e room_1 s m #[Value.ref b] below meth c s.heap [] 0 0 (lw_Z below #[Value.ref b] s) (entryFrame m ([Value.ref b] : List Value).toArray 4) := by
  obtain ⟨hx, hb, hr, hml, hown, hts, hX, hbl, hlocks, hgv⟩ := C0
  have ht := st_tb hts
  obtain ⟨D, cA, hK⟩ := st_K hts
  obtain ⟨A, hAd⟩ : ∃ A : Nat → Prop, A = fun q => s.heap.size ≤ q := ⟨_, rfl⟩
  have hA : ∀ q, s.heap.size ≤ q → A q := fun q h => by rw [hAd]; exact h
  have hnA : ∀ a : Nat, a < s.heap.size → ¬ A a := fun a h z => by rw [hAd] at z; exact absurd z (Nat.not_le.mpr h)
  have hfr : ∀ q, A q → s.heap.size ≤ q := fun q h => by rw [hAd] at h; exact h
  obtain ⟨sK, sV, hst⟩ := st_S hts hgv hnA
  have X : kX p s m #[Value.ref b] c code 4 "NetLawLaw" D cA A := ⟨hx, hb, hml, hown, ht, hK, hA, st_N hts⟩
  have hl := lv_entry ([.ref b]) (n := 4) (Nat.le_of_ble_eq_true rfl)
  rw [lg_entry_eq]
  generalize (lg_sl ([.ref b]) ++ List.replicate (4 - (lg_sl ([.ref b])).length) Slot.unset).toArray = ls at hl ⊢
  have hl : lv_has ls 4 [(0, .ref b)] := hl
  have hS : kS D A s.heap [] s.heap [] := ⟨fun k q h => by simp at h, ⟨fun i j x y h => by simp at h, fun k q h => by simp at h⟩, va_S.rf⟩
  refine k_newo (ci := 7) (fs := [.null, .null, .null, .null, .null, .null, .null, .null, .null, .null, .null, .null, .null]) X rfl fin7 tyX7 tyX7_ok (sw_mk (i := 18) (by decide +kernel) (by decide +kernel)) (sw_mk (i := 19) (by decide +kernel) (by decide +kernel)) (sw_mk (i := 1) (by decide +kernel) (by decide +kernel)) hfs7 hS (Nat.le_of_ble_eq_true rfl) (Nat.le_of_ble_eq_true rfl) dl_0 (fun h H hS => ?_)
  refine lv_dup hx hb dl_3 rfl ?_
  refine k_init X k_X7 (sw_mk (i := 22) (by decide +kernel) (by decide +kernel)) (sw_mk (i := 1) (by decide +kernel) (by decide +kernel)) (sw_mk (i := 20) (by decide +kernel) (by decide +kernel)) (sw_mk (i := 21) (by decide +kernel) (by decide +kernel)) ⟨rfl, by decide +kernel, by decide +kernel, by decide +kernel⟩ ⟨(Nat.le_of_ble_eq_true rfl), (Nat.le_of_ble_eq_true rfl)⟩ hl.1 (Nat.le_of_ble_eq_true rfl) ⟨(Nat.le_of_ble_eq_true rfl), (Nat.le_of_ble_eq_true rfl)⟩ dl_4 hS (fun ws' H locs hR hS => ?_)
  obtain ⟨L1, G, hG0, hG1, rfl⟩ := hR
  refine lv_astore_n (lv' := [(1, .ref h), (0, .ref b)]) hx hb dl_7 rfl hl (by decide) rfl (fun ls hl => ?_)
  refine k_newo (ci := 8) (fs := [.null, .null, .null, .null, .null, .null, .int 0, .long 0, .long 0, .null, .int 0, .int 0, .int 0, .long 0, .int 0, .null, .int 0, .null, .null]) X rfl fin8 tyX8 tyX8_ok (sw_mk (i := 836) (by decide +kernel) (by decide +kernel)) (sw_mk (i := 837) (by decide +kernel) (by decide +kernel)) (sw_mk (i := 10) (by decide +kernel) (by decide +kernel)) hfs8 hS (Nat.le_of_ble_eq_true rfl) (Nat.le_of_ble_eq_true rfl) dl_8 (fun hm H hS => ?_)
  refine lv_dup hx hb dl_11 rfl ?_
  refine k_init X k_X8 (sw_mk (i := 840) (by decide +kernel) (by decide +kernel)) (sw_mk (i := 10) (by decide +kernel) (by decide +kernel)) (sw_mk (i := 838) (by decide +kernel) (by decide +kernel)) (sw_mk (i := 839) (by decide +kernel) (by decide +kernel)) ⟨rfl, by decide +kernel, by decide +kernel, by decide +kernel⟩ ⟨(Nat.le_of_ble_eq_true rfl), (Nat.le_of_ble_eq_true rfl)⟩ hl.1 (Nat.le_of_ble_eq_true rfl) ⟨(Nat.le_of_ble_eq_true rfl), (Nat.le_of_ble_eq_true rfl)⟩ dl_12 hS (fun ws' H locs hR hS => ?_)
  obtain ⟨q1, q2, q3, q4, q5, q6, q7, q8, q9, q10, F, hF, rfl⟩ := hR
  refine lv_astore_n (lv' := [(2, .ref hm), (1, .ref h), (0, .ref b)]) hx hb dl_15 rfl hl (by decide) rfl (fun ls hl => ?_)
  refine lv_iconst (v := nI 0) hx hb dl_16 (by decide) ?_
  refine lv_istore_n (lv' := [(3, .int (nI 0)), (2, .ref hm), (1, .ref h), (0, .ref b)]) hx hb dl_17 rfl hl (by decide) rfl (fun ls hl => ?_)
  refine W.widen (k := 600000) (n := 7302250) (Nat.le_of_ble_eq_true rfl) (Nat.le_of_ble_eq_true rfl) ?_
  have hP : va_P D vwCl (i_w cA h hm L1 [q1, q2, q3, q4, q5, q6, q7, q8, q9, q10] F G) H := hS.1
  have hD : va_D A (i_w cA h hm L1 [q1, q2, q3, q4, q5, q6, q7, q8, q9, q10] F G) := hS.2.1
  have hSS : a_SR D (i_ad h hm L1 [q1, q2, q3, q4, q5, q6, q7, q8, q9, q10] sK sV) cA A s.heap (i_st F) H locs := ⟨i_P hP hG0 hG1, i_D hD, hS.2.2⟩
  have hZ : a_ST (i_ad h hm L1 [q1, q2, q3, q4, q5, q6, q7, q8, q9, q10] sK sV) A s s.heap := hst _ (fun i hi => by rcases (show i = 0 ∨ i = 1 ∨ i = 2 by omega) with rfl | rfl | rfl <;> exact ⟨rfl, rfl⟩)
  refine law_loop ⟨hx, hb, hml, hown, ht, hX, hbl, hnA b hbl, hK, hZ, hL⟩ (fun H locs ls hS => ?_) (i_st F) H locs ls (by omega) (i_inv hF) hSS (lv_sub hl [0, 3, 2, 1] rfl)
  refine va_forget (fun q hq => hfr q.base (hS.2.2 q hq)) ?_
  refine lv_iconst (v := 1) hx hb dl_1101 (by decide) ?_
  exact lw_ret hx hb hr hlocks dl_1102
