/-! the law, a call a theorem: by program (gen_law.py) -/
section lawc
variable {p : Program} {l : Launch} {e : Env} {s : State} {m : MethodId} {below : List Frame} {meth : Method} {c : Code} {H : Heap} {locs : List Loc} {Q : State → Prop} {b L : Nat} {xs : Nat → Int32} {D : va_G} {cA : Nat → ClassId} {ad : Nat → Nat} {A : Nat → Prop} {ls : Array Slot}
set_option maxRecDepth 100000 in
theorem law_18 (C : lC p s m c b L xs D cA ad A) {k N : Nat} (hN : N < 1000000) (hk : 5 * k + 5 ≤ L) {σ : a_HP} (hI : Inv N σ) (hS : a_SR D ad cA A s.heap σ H locs) (hl : lv_has ls 4 [(3, .int (nI (5 * k))), (0, .ref b), (1, .ref (ad 0)), (2, .ref (ad 61))]) (kk : ∀ (σ' : a_HP) (H' : Heap) (locs' : List Loc), Inv (N + 1) σ' → a_SR D ad cA A s.heap σ' H' locs' → W p l e room_1 s m #[Value.ref b] below meth c H' locs' 600000 7302250 Q (F0 m 1095 ls [])) : W p l e room_1 s m #[Value.ref b] below meth c H locs 600000 7302250 Q (F0 m 632 ls []) := by
  have hx := C.1
  have hb := C.2.1
  obtain ⟨v1, σ1, M1, h2⟩ := cl_met (l := l) (D := D) (ad := ad) (cA := cA) (A := A) (pr_least hI (xs (5 * k + 1)) (xs (5 * k + 2)) (xs (5 * k + 3)))
  obtain ⟨v2, σ2, M2, ⟨r, rfl, rfl⟩, hI2⟩ := cl_met (l := l) (D := D) (ad := ad) (cA := cA) (A := A) h2
  refine lv_aload_n hx hb dl_632 rfl (lv_at hl 2 rfl) ?_
  refine l_arg C (j := 1) (by omega) hl hS.2.2 (by decide) dl_633 dl_634 dl_635 dl_636 dl_637 ?_
  refine l_arg C (j := 2) (by omega) hl hS.2.2 (by decide) dl_638 dl_639 dl_640 dl_641 dl_642 ?_
  refine l_arg C (j := 3) (by omega) hl hS.2.2 (by decide) dl_643 dl_644 dl_645 dl_646 dl_647 ?_
  refine l_call (n := 3) (ci := 7) (cell := 0) (ix := 89) C M1 rfl rfl ⟨(sw_mk (i := 578) (by decide +kernel) (by decide +kernel)), (sw_mk (i := 1) (by decide +kernel) (by decide +kernel)), by decide +kernel, by decide +kernel, by decide +kernel⟩ (sw_mk (i := 576) (by decide +kernel) (by decide +kernel)) (sw_mk (i := 577) (by decide +kernel) (by decide +kernel)) (sw_mk (i := 575) (by decide +kernel) (by decide +kernel)) ⟨by decide +kernel, by decide +kernel⟩ rfl (Nat.le_of_ble_eq_true rfl) hl.1 ⟨Nat.le_refl _, Nat.le_refl _⟩ hS dl_648 rfl (fun H locs hS => ?_)
  refine lv_aload_n hx hb dl_651 rfl (lv_at hl 3 rfl) ?_
  refine l_arg C (j := 1) (by omega) hl hS.2.2 (by decide) dl_652 dl_653 dl_654 dl_655 dl_656 ?_
  refine l_arg C (j := 2) (by omega) hl hS.2.2 (by decide) dl_657 dl_658 dl_659 dl_660 dl_661 ?_
  refine l_arg C (j := 3) (by omega) hl hS.2.2 (by decide) dl_662 dl_663 dl_664 dl_665 dl_666 ?_
  refine l_call (n := 3) (ci := 8) (cell := 61) (ix := 93) C M2 rfl rfl ⟨(sw_mk (i := 1099) (by decide +kernel) (by decide +kernel)), (sw_mk (i := 10) (by decide +kernel) (by decide +kernel)), by decide +kernel, by decide +kernel, by decide +kernel⟩ (sw_mk (i := 1097) (by decide +kernel) (by decide +kernel)) (sw_mk (i := 1098) (by decide +kernel) (by decide +kernel)) (sw_mk (i := 1096) (by decide +kernel) (by decide +kernel)) ⟨by decide +kernel, by decide +kernel⟩ rfl (Nat.le_of_ble_eq_true rfl) hl.1 ⟨Nat.le_refl _, Nat.le_refl _⟩ hS dl_667 rfl (fun H locs hS => ?_)
  exact lv_icmp_eq hx hb dl_670 (tgt := 1095) (by decide) (fun _ => kk σ2 _ _ hI2 hS) (fun z => absurd rfl z)
set_option maxRecDepth 100000 in
theorem law_19 (C : lC p s m c b L xs D cA ad A) {k N : Nat} (hN : N < 1000000) (hk : 5 * k + 5 ≤ L) {σ : a_HP} (hI : Inv N σ) (hS : a_SR D ad cA A s.heap σ H locs) (hl : lv_has ls 4 [(3, .int (nI (5 * k))), (0, .ref b), (1, .ref (ad 0)), (2, .ref (ad 61))]) (kk : ∀ (σ' : a_HP) (H' : Heap) (locs' : List Loc), Inv (N + 1) σ' → a_SR D ad cA A s.heap σ' H' locs' → W p l e room_1 s m #[Value.ref b] below meth c H' locs' 600000 7302250 Q (F0 m 1095 ls [])) : W p l e room_1 s m #[Value.ref b] below meth c H locs 600000 7302250 Q (F0 m 675 ls []) := by
  have hx := C.1
  have hb := C.2.1
  obtain ⟨v1, σ1, M1, h2⟩ := cl_met (l := l) (D := D) (ad := ad) (cA := cA) (A := A) (pr_fish hI (xs (5 * k + 1)))
  obtain ⟨v2, σ2, M2, ⟨r, rfl, rfl⟩, hI2⟩ := cl_met (l := l) (D := D) (ad := ad) (cA := cA) (A := A) h2
  refine lv_aload_n hx hb dl_675 rfl (lv_at hl 2 rfl) ?_
  refine l_arg C (j := 1) (by omega) hl hS.2.2 (by decide) dl_676 dl_677 dl_678 dl_679 dl_680 ?_
  refine l_call (n := 1) (ci := 7) (cell := 0) (ix := 94) C M1 rfl rfl ⟨(sw_mk (i := 656) (by decide +kernel) (by decide +kernel)), (sw_mk (i := 1) (by decide +kernel) (by decide +kernel)), by decide +kernel, by decide +kernel, by decide +kernel⟩ (sw_mk (i := 654) (by decide +kernel) (by decide +kernel)) (sw_mk (i := 655) (by decide +kernel) (by decide +kernel)) (sw_mk (i := 653) (by decide +kernel) (by decide +kernel)) ⟨by decide +kernel, by decide +kernel⟩ rfl (Nat.le_of_ble_eq_true rfl) hl.1 ⟨Nat.le_refl _, Nat.le_refl _⟩ hS dl_681 rfl (fun H locs hS => ?_)
  refine lv_aload_n hx hb dl_684 rfl (lv_at hl 3 rfl) ?_
  refine l_arg C (j := 1) (by omega) hl hS.2.2 (by decide) dl_685 dl_686 dl_687 dl_688 dl_689 ?_
  refine l_call (n := 1) (ci := 8) (cell := 61) (ix := 97) C M2 rfl rfl ⟨(sw_mk (i := 1133) (by decide +kernel) (by decide +kernel)), (sw_mk (i := 10) (by decide +kernel) (by decide +kernel)), by decide +kernel, by decide +kernel, by decide +kernel⟩ (sw_mk (i := 1131) (by decide +kernel) (by decide +kernel)) (sw_mk (i := 1132) (by decide +kernel) (by decide +kernel)) (sw_mk (i := 1130) (by decide +kernel) (by decide +kernel)) ⟨by decide +kernel, by decide +kernel⟩ rfl (Nat.le_of_ble_eq_true rfl) hl.1 ⟨Nat.le_refl _, Nat.le_refl _⟩ hS dl_690 rfl (fun H locs hS => ?_)
  exact lv_icmp_eq hx hb dl_693 (tgt := 1095) (by decide) (fun _ => kk σ2 _ _ hI2 hS) (fun z => absurd rfl z)
set_option maxRecDepth 100000 in
theorem law_20 (C : lC p s m c b L xs D cA ad A) {k N : Nat} (hN : N < 1000000) (hk : 5 * k + 5 ≤ L) {σ : a_HP} (hI : Inv N σ) (hS : a_SR D ad cA A s.heap σ H locs) (hl : lv_has ls 4 [(3, .int (nI (5 * k))), (0, .ref b), (1, .ref (ad 0)), (2, .ref (ad 61))]) (kk : ∀ (σ' : a_HP) (H' : Heap) (locs' : List Loc), Inv (N + 1) σ' → a_SR D ad cA A s.heap σ' H' locs' → W p l e room_1 s m #[Value.ref b] below meth c H' locs' 600000 7302250 Q (F0 m 1095 ls [])) : W p l e room_1 s m #[Value.ref b] below meth c H locs 600000 7302250 Q (F0 m 698 ls []) := by
  have hx := C.1
  have hb := C.2.1
  obtain ⟨v1, σ1, M1, h2⟩ := cl_met (l := l) (D := D) (ad := ad) (cA := cA) (A := A) (pr_precedent hI (xs (5 * k + 1)))
  obtain ⟨v2, σ2, M2, ⟨r, rfl, rfl⟩, hI2⟩ := cl_met (l := l) (D := D) (ad := ad) (cA := cA) (A := A) h2
  refine lv_aload_n hx hb dl_698 rfl (lv_at hl 2 rfl) ?_
  refine l_arg C (j := 1) (by omega) hl hS.2.2 (by decide) dl_699 dl_700 dl_701 dl_702 dl_703 ?_
  refine l_call (n := 1) (ci := 7) (cell := 0) (ix := 98) C M1 rfl rfl ⟨(sw_mk (i := 668) (by decide +kernel) (by decide +kernel)), (sw_mk (i := 1) (by decide +kernel) (by decide +kernel)), by decide +kernel, by decide +kernel, by decide +kernel⟩ (sw_mk (i := 666) (by decide +kernel) (by decide +kernel)) (sw_mk (i := 667) (by decide +kernel) (by decide +kernel)) (sw_mk (i := 665) (by decide +kernel) (by decide +kernel)) ⟨by decide +kernel, by decide +kernel⟩ rfl (Nat.le_of_ble_eq_true rfl) hl.1 ⟨Nat.le_refl _, Nat.le_refl _⟩ hS dl_704 rfl (fun H locs hS => ?_)
  refine lv_aload_n hx hb dl_707 rfl (lv_at hl 3 rfl) ?_
  refine l_arg C (j := 1) (by omega) hl hS.2.2 (by decide) dl_708 dl_709 dl_710 dl_711 dl_712 ?_
  refine l_call (n := 1) (ci := 8) (cell := 61) (ix := 101) C M2 rfl rfl ⟨(sw_mk (i := 1144) (by decide +kernel) (by decide +kernel)), (sw_mk (i := 10) (by decide +kernel) (by decide +kernel)), by decide +kernel, by decide +kernel, by decide +kernel⟩ (sw_mk (i := 1142) (by decide +kernel) (by decide +kernel)) (sw_mk (i := 1143) (by decide +kernel) (by decide +kernel)) (sw_mk (i := 1141) (by decide +kernel) (by decide +kernel)) ⟨by decide +kernel, by decide +kernel⟩ rfl (Nat.le_of_ble_eq_true rfl) hl.1 ⟨Nat.le_refl _, Nat.le_refl _⟩ hS dl_713 rfl (fun H locs hS => ?_)
  exact lv_icmp_eq hx hb dl_716 (tgt := 1095) (by decide) (fun _ => kk σ2 _ _ hI2 hS) (fun z => absurd rfl z)
set_option maxRecDepth 100000 in
theorem law_21 (C : lC p s m c b L xs D cA ad A) {k N : Nat} (hN : N < 1000000) (hk : 5 * k + 5 ≤ L) {σ : a_HP} (hI : Inv N σ) (hS : a_SR D ad cA A s.heap σ H locs) (hl : lv_has ls 4 [(3, .int (nI (5 * k))), (0, .ref b), (1, .ref (ad 0)), (2, .ref (ad 61))]) (kk : ∀ (σ' : a_HP) (H' : Heap) (locs' : List Loc), Inv (N + 1) σ' → a_SR D ad cA A s.heap σ' H' locs' → W p l e room_1 s m #[Value.ref b] below meth c H' locs' 600000 7302250 Q (F0 m 1095 ls [])) : W p l e room_1 s m #[Value.ref b] below meth c H locs 600000 7302250 Q (F0 m 721 ls []) := by
  have hx := C.1
  have hb := C.2.1
  obtain ⟨v1, σ1, M1, h2⟩ := cl_met (l := l) (D := D) (ad := ad) (cA := cA) (A := A) (pr_reading hI (xs (5 * k + 1)) (xs (5 * k + 2)) (xs (5 * k + 3)))
  obtain ⟨v2, σ2, M2, ⟨r, rfl, rfl⟩, hI2⟩ := cl_met (l := l) (D := D) (ad := ad) (cA := cA) (A := A) h2
  refine lv_aload_n hx hb dl_721 rfl (lv_at hl 2 rfl) ?_
  refine l_arg C (j := 1) (by omega) hl hS.2.2 (by decide) dl_722 dl_723 dl_724 dl_725 dl_726 ?_
  refine l_arg C (j := 2) (by omega) hl hS.2.2 (by decide) dl_727 dl_728 dl_729 dl_730 dl_731 ?_
  refine l_arg C (j := 3) (by omega) hl hS.2.2 (by decide) dl_732 dl_733 dl_734 dl_735 dl_736 ?_
  refine l_call (n := 3) (ci := 7) (cell := 0) (ix := 102) C M1 rfl rfl ⟨(sw_mk (i := 676) (by decide +kernel) (by decide +kernel)), (sw_mk (i := 1) (by decide +kernel) (by decide +kernel)), by decide +kernel, by decide +kernel, by decide +kernel⟩ (sw_mk (i := 674) (by decide +kernel) (by decide +kernel)) (sw_mk (i := 675) (by decide +kernel) (by decide +kernel)) (sw_mk (i := 673) (by decide +kernel) (by decide +kernel)) ⟨by decide +kernel, by decide +kernel⟩ rfl (Nat.le_of_ble_eq_true rfl) hl.1 ⟨Nat.le_refl _, Nat.le_refl _⟩ hS dl_737 rfl (fun H locs hS => ?_)
  refine lv_aload_n hx hb dl_740 rfl (lv_at hl 3 rfl) ?_
  refine l_arg C (j := 1) (by omega) hl hS.2.2 (by decide) dl_741 dl_742 dl_743 dl_744 dl_745 ?_
  refine l_arg C (j := 2) (by omega) hl hS.2.2 (by decide) dl_746 dl_747 dl_748 dl_749 dl_750 ?_
  refine l_arg C (j := 3) (by omega) hl hS.2.2 (by decide) dl_751 dl_752 dl_753 dl_754 dl_755 ?_
  refine l_call (n := 3) (ci := 8) (cell := 61) (ix := 105) C M2 rfl rfl ⟨(sw_mk (i := 1148) (by decide +kernel) (by decide +kernel)), (sw_mk (i := 10) (by decide +kernel) (by decide +kernel)), by decide +kernel, by decide +kernel, by decide +kernel⟩ (sw_mk (i := 1146) (by decide +kernel) (by decide +kernel)) (sw_mk (i := 1147) (by decide +kernel) (by decide +kernel)) (sw_mk (i := 1145) (by decide +kernel) (by decide +kernel)) ⟨by decide +kernel, by decide +kernel⟩ rfl (Nat.le_of_ble_eq_true rfl) hl.1 ⟨Nat.le_refl _, Nat.le_refl _⟩ hS dl_756 rfl (fun H locs hS => ?_)
  exact lv_icmp_eq hx hb dl_759 (tgt := 1095) (by decide) (fun _ => kk σ2 _ _ hI2 hS) (fun z => absurd rfl z)
set_option maxRecDepth 100000 in
theorem law_22 (C : lC p s m c b L xs D cA ad A) {k N : Nat} (hN : N < 1000000) (hk : 5 * k + 5 ≤ L) {σ : a_HP} (hI : Inv N σ) (hS : a_SR D ad cA A s.heap σ H locs) (hl : lv_has ls 4 [(3, .int (nI (5 * k))), (0, .ref b), (1, .ref (ad 0)), (2, .ref (ad 61))]) (kk : ∀ (σ' : a_HP) (H' : Heap) (locs' : List Loc), Inv (N + 1) σ' → a_SR D ad cA A s.heap σ' H' locs' → W p l e room_1 s m #[Value.ref b] below meth c H' locs' 600000 7302250 Q (F0 m 1095 ls [])) : W p l e room_1 s m #[Value.ref b] below meth c H locs 600000 7302250 Q (F0 m 764 ls []) := by
  have hx := C.1
  have hb := C.2.1
  obtain ⟨v1, σ1, M1, h2⟩ := cl_met (l := l) (D := D) (ad := ad) (cA := cA) (A := A) (pr_forget hI )
  obtain ⟨v2, σ2, M2, ⟨r, rfl, rfl⟩, hI2⟩ := cl_met (l := l) (D := D) (ad := ad) (cA := cA) (A := A) h2
  refine lv_aload_n hx hb dl_764 rfl (lv_at hl 2 rfl) ?_
  refine l_call (n := 0) (ci := 7) (cell := 0) (ix := 106) C M1 rfl rfl ⟨(sw_mk (i := 684) (by decide +kernel) (by decide +kernel)), (sw_mk (i := 1) (by decide +kernel) (by decide +kernel)), by decide +kernel, by decide +kernel, by decide +kernel⟩ (sw_mk (i := 682) (by decide +kernel) (by decide +kernel)) (sw_mk (i := 683) (by decide +kernel) (by decide +kernel)) (sw_mk (i := 681) (by decide +kernel) (by decide +kernel)) ⟨by decide +kernel, by decide +kernel⟩ rfl (Nat.le_of_ble_eq_true rfl) hl.1 ⟨Nat.le_refl _, Nat.le_refl _⟩ hS dl_765 rfl (fun H locs hS => ?_)
  refine lv_aload_n hx hb dl_768 rfl (lv_at hl 3 rfl) ?_
  refine l_call (n := 0) (ci := 8) (cell := 61) (ix := 109) C M2 rfl rfl ⟨(sw_mk (i := 1152) (by decide +kernel) (by decide +kernel)), (sw_mk (i := 10) (by decide +kernel) (by decide +kernel)), by decide +kernel, by decide +kernel, by decide +kernel⟩ (sw_mk (i := 1150) (by decide +kernel) (by decide +kernel)) (sw_mk (i := 1151) (by decide +kernel) (by decide +kernel)) (sw_mk (i := 1149) (by decide +kernel) (by decide +kernel)) ⟨by decide +kernel, by decide +kernel⟩ rfl (Nat.le_of_ble_eq_true rfl) hl.1 ⟨Nat.le_refl _, Nat.le_refl _⟩ hS dl_769 rfl (fun H locs hS => ?_)
  exact lv_icmp_eq hx hb dl_772 (tgt := 1095) (by decide) (fun _ => kk σ2 _ _ hI2 hS) (fun z => absurd rfl z)
set_option maxRecDepth 100000 in
theorem law_23 (C : lC p s m c b L xs D cA ad A) {k N : Nat} (hN : N < 1000000) (hk : 5 * k + 5 ≤ L) {σ : a_HP} (hI : Inv N σ) (hS : a_SR D ad cA A s.heap σ H locs) (hl : lv_has ls 4 [(3, .int (nI (5 * k))), (0, .ref b), (1, .ref (ad 0)), (2, .ref (ad 61))]) (kk : ∀ (σ' : a_HP) (H' : Heap) (locs' : List Loc), Inv (N + 1) σ' → a_SR D ad cA A s.heap σ' H' locs' → W p l e room_1 s m #[Value.ref b] below meth c H' locs' 600000 7302250 Q (F0 m 1095 ls [])) : W p l e room_1 s m #[Value.ref b] below meth c H locs 600000 7302250 Q (F0 m 777 ls []) := by
  have hx := C.1
  have hb := C.2.1
  obtain ⟨v1, σ1, M1, h2⟩ := cl_met (l := l) (D := D) (ad := ad) (cA := cA) (A := A) (pr_may hI )
  obtain ⟨v2, σ2, M2, ⟨r, rfl, rfl⟩, hI2⟩ := cl_met (l := l) (D := D) (ad := ad) (cA := cA) (A := A) h2
  refine lv_aload_n hx hb dl_777 rfl (lv_at hl 2 rfl) ?_
  refine l_call (n := 0) (ci := 7) (cell := 0) (ix := 110) C M1 rfl rfl ⟨(sw_mk (i := 688) (by decide +kernel) (by decide +kernel)), (sw_mk (i := 1) (by decide +kernel) (by decide +kernel)), by decide +kernel, by decide +kernel, by decide +kernel⟩ (sw_mk (i := 686) (by decide +kernel) (by decide +kernel)) (sw_mk (i := 687) (by decide +kernel) (by decide +kernel)) (sw_mk (i := 685) (by decide +kernel) (by decide +kernel)) ⟨by decide +kernel, by decide +kernel⟩ rfl (Nat.le_of_ble_eq_true rfl) hl.1 ⟨Nat.le_refl _, Nat.le_refl _⟩ hS dl_778 rfl (fun H locs hS => ?_)
  refine lv_aload_n hx hb dl_781 rfl (lv_at hl 3 rfl) ?_
  refine l_call (n := 0) (ci := 8) (cell := 61) (ix := 113) C M2 rfl rfl ⟨(sw_mk (i := 1156) (by decide +kernel) (by decide +kernel)), (sw_mk (i := 10) (by decide +kernel) (by decide +kernel)), by decide +kernel, by decide +kernel, by decide +kernel⟩ (sw_mk (i := 1154) (by decide +kernel) (by decide +kernel)) (sw_mk (i := 1155) (by decide +kernel) (by decide +kernel)) (sw_mk (i := 1153) (by decide +kernel) (by decide +kernel)) ⟨by decide +kernel, by decide +kernel⟩ rfl (Nat.le_of_ble_eq_true rfl) hl.1 ⟨Nat.le_refl _, Nat.le_refl _⟩ hS dl_782 rfl (fun H locs hS => ?_)
  exact lv_icmp_eq hx hb dl_785 (tgt := 1095) (by decide) (fun _ => kk σ2 _ _ hI2 hS) (fun z => absurd rfl z)
set_option maxRecDepth 100000 in
theorem law_24 (C : lC p s m c b L xs D cA ad A) {k N : Nat} (hN : N < 1000000) (hk : 5 * k + 5 ≤ L) {σ : a_HP} (hI : Inv N σ) (hS : a_SR D ad cA A s.heap σ H locs) (hl : lv_has ls 4 [(3, .int (nI (5 * k))), (0, .ref b), (1, .ref (ad 0)), (2, .ref (ad 61))]) (kk : ∀ (σ' : a_HP) (H' : Heap) (locs' : List Loc), Inv (N + 1) σ' → a_SR D ad cA A s.heap σ' H' locs' → W p l e room_1 s m #[Value.ref b] below meth c H' locs' 600000 7302250 Q (F0 m 1095 ls [])) : W p l e room_1 s m #[Value.ref b] below meth c H locs 600000 7302250 Q (F0 m 790 ls []) := by
  have hx := C.1
  have hb := C.2.1
  obtain ⟨v1, σ1, M1, h2⟩ := cl_met (l := l) (D := D) (ad := ad) (cA := cA) (A := A) (pr_tries hI )
  obtain ⟨v2, σ2, M2, ⟨r, rfl, rfl⟩, hI2⟩ := cl_met (l := l) (D := D) (ad := ad) (cA := cA) (A := A) h2
  refine lv_aload_n hx hb dl_790 rfl (lv_at hl 2 rfl) ?_
  refine l_call (n := 0) (ci := 7) (cell := 0) (ix := 114) C M1 rfl rfl ⟨(sw_mk (i := 701) (by decide +kernel) (by decide +kernel)), (sw_mk (i := 1) (by decide +kernel) (by decide +kernel)), by decide +kernel, by decide +kernel, by decide +kernel⟩ (sw_mk (i := 699) (by decide +kernel) (by decide +kernel)) (sw_mk (i := 700) (by decide +kernel) (by decide +kernel)) (sw_mk (i := 698) (by decide +kernel) (by decide +kernel)) ⟨by decide +kernel, by decide +kernel⟩ rfl (Nat.le_of_ble_eq_true rfl) hl.1 ⟨Nat.le_refl _, Nat.le_refl _⟩ hS dl_791 rfl (fun H locs hS => ?_)
  refine lv_aload_n hx hb dl_794 rfl (lv_at hl 3 rfl) ?_
  refine l_call (n := 0) (ci := 8) (cell := 61) (ix := 117) C M2 rfl rfl ⟨(sw_mk (i := 1164) (by decide +kernel) (by decide +kernel)), (sw_mk (i := 10) (by decide +kernel) (by decide +kernel)), by decide +kernel, by decide +kernel, by decide +kernel⟩ (sw_mk (i := 1162) (by decide +kernel) (by decide +kernel)) (sw_mk (i := 1163) (by decide +kernel) (by decide +kernel)) (sw_mk (i := 1161) (by decide +kernel) (by decide +kernel)) ⟨by decide +kernel, by decide +kernel⟩ rfl (Nat.le_of_ble_eq_true rfl) hl.1 ⟨Nat.le_refl _, Nat.le_refl _⟩ hS dl_795 rfl (fun H locs hS => ?_)
  exact lv_icmp_eq hx hb dl_798 (tgt := 1095) (by decide) (fun _ => kk σ2 _ _ hI2 hS) (fun z => absurd rfl z)
set_option maxRecDepth 100000 in
theorem law_25 (C : lC p s m c b L xs D cA ad A) {k N : Nat} (hN : N < 1000000) (hk : 5 * k + 5 ≤ L) {σ : a_HP} (hI : Inv N σ) (hS : a_SR D ad cA A s.heap σ H locs) (hl : lv_has ls 4 [(3, .int (nI (5 * k))), (0, .ref b), (1, .ref (ad 0)), (2, .ref (ad 61))]) (kk : ∀ (σ' : a_HP) (H' : Heap) (locs' : List Loc), Inv (N + 1) σ' → a_SR D ad cA A s.heap σ' H' locs' → W p l e room_1 s m #[Value.ref b] below meth c H' locs' 600000 7302250 Q (F0 m 1095 ls [])) : W p l e room_1 s m #[Value.ref b] below meth c H locs 600000 7302250 Q (F0 m 803 ls []) := by
  have hx := C.1
  have hb := C.2.1
  obtain ⟨v1, σ1, M1, h2⟩ := cl_met (l := l) (D := D) (ad := ad) (cA := cA) (A := A) (pr_stood hI (xs (5 * k + 1)) (xs (5 * k + 2)) (xs (5 * k + 3)))
  obtain ⟨v2, σ2, M2, ⟨r, rfl, rfl⟩, hI2⟩ := cl_met (l := l) (D := D) (ad := ad) (cA := cA) (A := A) h2
  refine lv_aload_n hx hb dl_803 rfl (lv_at hl 2 rfl) ?_
  refine l_arg C (j := 1) (by omega) hl hS.2.2 (by decide) dl_804 dl_805 dl_806 dl_807 dl_808 ?_
  refine l_arg C (j := 2) (by omega) hl hS.2.2 (by decide) dl_809 dl_810 dl_811 dl_812 dl_813 ?_
  refine l_arg C (j := 3) (by omega) hl hS.2.2 (by decide) dl_814 dl_815 dl_816 dl_817 dl_818 ?_
  refine l_call (n := 3) (ci := 7) (cell := 0) (ix := 118) C M1 rfl rfl ⟨(sw_mk (i := 717) (by decide +kernel) (by decide +kernel)), (sw_mk (i := 1) (by decide +kernel) (by decide +kernel)), by decide +kernel, by decide +kernel, by decide +kernel⟩ (sw_mk (i := 715) (by decide +kernel) (by decide +kernel)) (sw_mk (i := 716) (by decide +kernel) (by decide +kernel)) (sw_mk (i := 714) (by decide +kernel) (by decide +kernel)) ⟨by decide +kernel, by decide +kernel⟩ rfl (Nat.le_of_ble_eq_true rfl) hl.1 ⟨Nat.le_refl _, Nat.le_refl _⟩ hS dl_819 rfl (fun H locs hS => ?_)
  refine lv_aload_n hx hb dl_822 rfl (lv_at hl 3 rfl) ?_
  refine l_arg C (j := 1) (by omega) hl hS.2.2 (by decide) dl_823 dl_824 dl_825 dl_826 dl_827 ?_
  refine l_arg C (j := 2) (by omega) hl hS.2.2 (by decide) dl_828 dl_829 dl_830 dl_831 dl_832 ?_
  refine l_arg C (j := 3) (by omega) hl hS.2.2 (by decide) dl_833 dl_834 dl_835 dl_836 dl_837 ?_
  refine l_call (n := 3) (ci := 8) (cell := 61) (ix := 121) C M2 rfl rfl ⟨(sw_mk (i := 1168) (by decide +kernel) (by decide +kernel)), (sw_mk (i := 10) (by decide +kernel) (by decide +kernel)), by decide +kernel, by decide +kernel, by decide +kernel⟩ (sw_mk (i := 1166) (by decide +kernel) (by decide +kernel)) (sw_mk (i := 1167) (by decide +kernel) (by decide +kernel)) (sw_mk (i := 1165) (by decide +kernel) (by decide +kernel)) ⟨by decide +kernel, by decide +kernel⟩ rfl (Nat.le_of_ble_eq_true rfl) hl.1 ⟨Nat.le_refl _, Nat.le_refl _⟩ hS dl_838 rfl (fun H locs hS => ?_)
  exact lv_icmp_eq hx hb dl_841 (tgt := 1095) (by decide) (fun _ => kk σ2 _ _ hI2 hS) (fun z => absurd rfl z)
set_option maxRecDepth 100000 in
theorem law_26 (C : lC p s m c b L xs D cA ad A) {k N : Nat} (hN : N < 1000000) (hk : 5 * k + 5 ≤ L) {σ : a_HP} (hI : Inv N σ) (hS : a_SR D ad cA A s.heap σ H locs) (hl : lv_has ls 4 [(3, .int (nI (5 * k))), (0, .ref b), (1, .ref (ad 0)), (2, .ref (ad 61))]) (kk : ∀ (σ' : a_HP) (H' : Heap) (locs' : List Loc), Inv (N + 1) σ' → a_SR D ad cA A s.heap σ' H' locs' → W p l e room_1 s m #[Value.ref b] below meth c H' locs' 600000 7302250 Q (F0 m 1095 ls [])) : W p l e room_1 s m #[Value.ref b] below meth c H locs 600000 7302250 Q (F0 m 846 ls []) := by
  have hx := C.1
  have hb := C.2.1
  obtain ⟨v1, σ1, M1, h2⟩ := cl_met (l := l) (D := D) (ad := ad) (cA := cA) (A := A) (pr_menders hI (xs (5 * k + 1)) (xs (5 * k + 2)) (xs (5 * k + 3)) (xs (5 * k + 4)))
  obtain ⟨v2, σ2, M2, ⟨r, rfl, rfl⟩, hI2⟩ := cl_met (l := l) (D := D) (ad := ad) (cA := cA) (A := A) h2
  refine lv_aload_n hx hb dl_846 rfl (lv_at hl 2 rfl) ?_
  refine l_arg C (j := 1) (by omega) hl hS.2.2 (by decide) dl_847 dl_848 dl_849 dl_850 dl_851 ?_
  refine l_arg C (j := 2) (by omega) hl hS.2.2 (by decide) dl_852 dl_853 dl_854 dl_855 dl_856 ?_
  refine l_arg C (j := 3) (by omega) hl hS.2.2 (by decide) dl_857 dl_858 dl_859 dl_860 dl_861 ?_
  refine l_arg C (j := 4) (by omega) hl hS.2.2 (by decide) dl_862 dl_863 dl_864 dl_865 dl_866 ?_
  refine l_call (n := 4) (ci := 7) (cell := 0) (ix := 122) C M1 rfl rfl ⟨(sw_mk (i := 725) (by decide +kernel) (by decide +kernel)), (sw_mk (i := 1) (by decide +kernel) (by decide +kernel)), by decide +kernel, by decide +kernel, by decide +kernel⟩ (sw_mk (i := 723) (by decide +kernel) (by decide +kernel)) (sw_mk (i := 724) (by decide +kernel) (by decide +kernel)) (sw_mk (i := 722) (by decide +kernel) (by decide +kernel)) ⟨by decide +kernel, by decide +kernel⟩ rfl (Nat.le_of_ble_eq_true rfl) hl.1 ⟨Nat.le_refl _, Nat.le_refl _⟩ hS dl_867 rfl (fun H locs hS => ?_)
  refine lv_aload_n hx hb dl_870 rfl (lv_at hl 3 rfl) ?_
  refine l_arg C (j := 1) (by omega) hl hS.2.2 (by decide) dl_871 dl_872 dl_873 dl_874 dl_875 ?_
  refine l_arg C (j := 2) (by omega) hl hS.2.2 (by decide) dl_876 dl_877 dl_878 dl_879 dl_880 ?_
  refine l_arg C (j := 3) (by omega) hl hS.2.2 (by decide) dl_881 dl_882 dl_883 dl_884 dl_885 ?_
  refine l_arg C (j := 4) (by omega) hl hS.2.2 (by decide) dl_886 dl_887 dl_888 dl_889 dl_890 ?_
  refine l_call (n := 4) (ci := 8) (cell := 61) (ix := 125) C M2 rfl rfl ⟨(sw_mk (i := 1176) (by decide +kernel) (by decide +kernel)), (sw_mk (i := 10) (by decide +kernel) (by decide +kernel)), by decide +kernel, by decide +kernel, by decide +kernel⟩ (sw_mk (i := 1174) (by decide +kernel) (by decide +kernel)) (sw_mk (i := 1175) (by decide +kernel) (by decide +kernel)) (sw_mk (i := 1173) (by decide +kernel) (by decide +kernel)) ⟨by decide +kernel, by decide +kernel⟩ rfl (Nat.le_of_ble_eq_true rfl) hl.1 ⟨Nat.le_refl _, Nat.le_refl _⟩ hS dl_891 rfl (fun H locs hS => ?_)
  exact lv_icmp_eq hx hb dl_894 (tgt := 1095) (by decide) (fun _ => kk σ2 _ _ hI2 hS) (fun z => absurd rfl z)
end lawc
