/-! the law, a call a theorem: by program (gen_law.py) -/
section lawc
variable {p : Program} {l : Launch} {e : Env} {s : State} {m : MethodId} {below : List Frame} {meth : Method} {c : Code} {H : Heap} {locs : List Loc} {Q : State → Prop} {b L : Nat} {xs : Nat → Int32} {D : va_G} {cA : Nat → ClassId} {ad : Nat → Nat} {A : Nat → Prop} {ls : Array Slot}
set_option maxRecDepth 100000 in
theorem law_9 (C : lC p s m c b L xs D cA ad A) {k N : Nat} (hN : N < 1000000) (hk : 5 * k + 5 ≤ L) {σ : a_HP} (hI : Inv N σ) (hS : a_SR D ad cA A s.heap σ H locs) (hl : lv_has ls 4 [(3, .int (nI (5 * k))), (0, .ref b), (1, .ref (ad 0)), (2, .ref (ad 61))]) (kk : ∀ (σ' : a_HP) (H' : Heap) (locs' : List Loc), Inv (N + 1) σ' → a_SR D ad cA A s.heap σ' H' locs' → W p l e room_1 s m #[Value.ref b] below meth c H' locs' 600000 7302250 Q (F0 m 1095 ls [])) : W p l e room_1 s m #[Value.ref b] below meth c H locs 600000 7302250 Q (F0 m 445 ls []) := by
  have hx := C.1
  have hb := C.2.1
  obtain ⟨v1, σ1, M1, h2⟩ := cl_met (l := l) (D := D) (ad := ad) (cA := cA) (A := A) (pr_undo hI )
  obtain ⟨v2, σ2, M2, ⟨r, rfl, rfl⟩, hI2⟩ := cl_met (l := l) (D := D) (ad := ad) (cA := cA) (A := A) h2
  refine lv_aload_n hx hb dl_445 rfl (lv_at hl 2 rfl) ?_
  refine l_call (n := 0) (ci := 7) (cell := 0) (ix := 53) C M1 rfl rfl ⟨(sw_mk (i := 380) (by decide +kernel) (by decide +kernel)), (sw_mk (i := 1) (by decide +kernel) (by decide +kernel)), by decide +kernel, by decide +kernel, by decide +kernel⟩ (sw_mk (i := 378) (by decide +kernel) (by decide +kernel)) (sw_mk (i := 379) (by decide +kernel) (by decide +kernel)) (sw_mk (i := 377) (by decide +kernel) (by decide +kernel)) ⟨by decide +kernel, by decide +kernel⟩ rfl (Nat.le_of_ble_eq_true rfl) hl.1 ⟨Nat.le_refl _, Nat.le_refl _⟩ hS dl_446 rfl (fun H locs hS => ?_)
  refine lv_aload_n hx hb dl_449 rfl (lv_at hl 3 rfl) ?_
  refine l_call (n := 0) (ci := 8) (cell := 61) (ix := 56) C M2 rfl rfl ⟨(sw_mk (i := 1000) (by decide +kernel) (by decide +kernel)), (sw_mk (i := 10) (by decide +kernel) (by decide +kernel)), by decide +kernel, by decide +kernel, by decide +kernel⟩ (sw_mk (i := 998) (by decide +kernel) (by decide +kernel)) (sw_mk (i := 999) (by decide +kernel) (by decide +kernel)) (sw_mk (i := 997) (by decide +kernel) (by decide +kernel)) ⟨by decide +kernel, by decide +kernel⟩ rfl (Nat.le_of_ble_eq_true rfl) hl.1 ⟨Nat.le_refl _, Nat.le_refl _⟩ hS dl_450 rfl (fun H locs hS => ?_)
  exact lv_icmp_eq hx hb dl_453 (tgt := 1095) (by decide) (fun _ => kk σ2 _ _ hI2 hS) (fun z => absurd rfl z)
set_option maxRecDepth 100000 in
theorem law_10 (C : lC p s m c b L xs D cA ad A) {k N : Nat} (hN : N < 1000000) (hk : 5 * k + 5 ≤ L) {σ : a_HP} (hI : Inv N σ) (hS : a_SR D ad cA A s.heap σ H locs) (hl : lv_has ls 4 [(3, .int (nI (5 * k))), (0, .ref b), (1, .ref (ad 0)), (2, .ref (ad 61))]) (kk : ∀ (σ' : a_HP) (H' : Heap) (locs' : List Loc), Inv (N + 1) σ' → a_SR D ad cA A s.heap σ' H' locs' → W p l e room_1 s m #[Value.ref b] below meth c H' locs' 600000 7302250 Q (F0 m 1095 ls [])) : W p l e room_1 s m #[Value.ref b] below meth c H locs 600000 7302250 Q (F0 m 458 ls []) := by
  have hx := C.1
  have hb := C.2.1
  obtain ⟨v1, σ1, M1, h2⟩ := cl_met (l := l) (D := D) (ad := ad) (cA := cA) (A := A) (pr_type hI (xs (5 * k + 1)))
  obtain ⟨v2, σ2, M2, ⟨r, rfl, rfl⟩, hI2⟩ := cl_met (l := l) (D := D) (ad := ad) (cA := cA) (A := A) h2
  refine lv_aload_n hx hb dl_458 rfl (lv_at hl 2 rfl) ?_
  refine l_arg C (j := 1) (by omega) hl hS.2.2 (by decide) dl_459 dl_460 dl_461 dl_462 dl_463 ?_
  refine l_call (n := 1) (ci := 7) (cell := 0) (ix := 57) C M1 rfl rfl ⟨(sw_mk (i := 388) (by decide +kernel) (by decide +kernel)), (sw_mk (i := 1) (by decide +kernel) (by decide +kernel)), by decide +kernel, by decide +kernel, by decide +kernel⟩ (sw_mk (i := 386) (by decide +kernel) (by decide +kernel)) (sw_mk (i := 387) (by decide +kernel) (by decide +kernel)) (sw_mk (i := 385) (by decide +kernel) (by decide +kernel)) ⟨by decide +kernel, by decide +kernel⟩ rfl (Nat.le_of_ble_eq_true rfl) hl.1 ⟨Nat.le_refl _, Nat.le_refl _⟩ hS dl_464 rfl (fun H locs hS => ?_)
  refine lv_aload_n hx hb dl_467 rfl (lv_at hl 3 rfl) ?_
  refine l_arg C (j := 1) (by omega) hl hS.2.2 (by decide) dl_468 dl_469 dl_470 dl_471 dl_472 ?_
  refine l_call (n := 1) (ci := 8) (cell := 61) (ix := 60) C M2 rfl rfl ⟨(sw_mk (i := 1004) (by decide +kernel) (by decide +kernel)), (sw_mk (i := 10) (by decide +kernel) (by decide +kernel)), by decide +kernel, by decide +kernel, by decide +kernel⟩ (sw_mk (i := 1002) (by decide +kernel) (by decide +kernel)) (sw_mk (i := 1003) (by decide +kernel) (by decide +kernel)) (sw_mk (i := 1001) (by decide +kernel) (by decide +kernel)) ⟨by decide +kernel, by decide +kernel⟩ rfl (Nat.le_of_ble_eq_true rfl) hl.1 ⟨Nat.le_refl _, Nat.le_refl _⟩ hS dl_473 rfl (fun H locs hS => ?_)
  exact lv_icmp_eq hx hb dl_476 (tgt := 1095) (by decide) (fun _ => kk σ2 _ _ hI2 hS) (fun z => absurd rfl z)
set_option maxRecDepth 100000 in
theorem law_11 (C : lC p s m c b L xs D cA ad A) {k N : Nat} (hN : N < 1000000) (hk : 5 * k + 5 ≤ L) {σ : a_HP} (hI : Inv N σ) (hS : a_SR D ad cA A s.heap σ H locs) (hl : lv_has ls 4 [(3, .int (nI (5 * k))), (0, .ref b), (1, .ref (ad 0)), (2, .ref (ad 61))]) (kk : ∀ (σ' : a_HP) (H' : Heap) (locs' : List Loc), Inv (N + 1) σ' → a_SR D ad cA A s.heap σ' H' locs' → W p l e room_1 s m #[Value.ref b] below meth c H' locs' 600000 7302250 Q (F0 m 1095 ls [])) : W p l e room_1 s m #[Value.ref b] below meth c H locs 600000 7302250 Q (F0 m 481 ls []) := by
  have hx := C.1
  have hb := C.2.1
  obtain ⟨v1, σ1, M1, h2⟩ := cl_met (l := l) (D := D) (ad := ad) (cA := cA) (A := A) (pr_clear hI )
  obtain ⟨v2, σ2, M2, ⟨r, rfl, rfl⟩, hI2⟩ := cl_met (l := l) (D := D) (ad := ad) (cA := cA) (A := A) h2
  refine lv_aload_n hx hb dl_481 rfl (lv_at hl 2 rfl) ?_
  refine l_call (n := 0) (ci := 7) (cell := 0) (ix := 61) C M1 rfl rfl ⟨(sw_mk (i := 400) (by decide +kernel) (by decide +kernel)), (sw_mk (i := 1) (by decide +kernel) (by decide +kernel)), by decide +kernel, by decide +kernel, by decide +kernel⟩ (sw_mk (i := 398) (by decide +kernel) (by decide +kernel)) (sw_mk (i := 399) (by decide +kernel) (by decide +kernel)) (sw_mk (i := 397) (by decide +kernel) (by decide +kernel)) ⟨by decide +kernel, by decide +kernel⟩ rfl (Nat.le_of_ble_eq_true rfl) hl.1 ⟨Nat.le_refl _, Nat.le_refl _⟩ hS dl_482 rfl (fun H locs hS => ?_)
  refine lv_aload_n hx hb dl_485 rfl (lv_at hl 3 rfl) ?_
  refine l_call (n := 0) (ci := 8) (cell := 61) (ix := 64) C M2 rfl rfl ⟨(sw_mk (i := 1013) (by decide +kernel) (by decide +kernel)), (sw_mk (i := 10) (by decide +kernel) (by decide +kernel)), by decide +kernel, by decide +kernel, by decide +kernel⟩ (sw_mk (i := 1011) (by decide +kernel) (by decide +kernel)) (sw_mk (i := 1012) (by decide +kernel) (by decide +kernel)) (sw_mk (i := 1010) (by decide +kernel) (by decide +kernel)) ⟨by decide +kernel, by decide +kernel⟩ rfl (Nat.le_of_ble_eq_true rfl) hl.1 ⟨Nat.le_refl _, Nat.le_refl _⟩ hS dl_486 rfl (fun H locs hS => ?_)
  exact lv_icmp_eq hx hb dl_489 (tgt := 1095) (by decide) (fun _ => kk σ2 _ _ hI2 hS) (fun z => absurd rfl z)
set_option maxRecDepth 100000 in
theorem law_12 (C : lC p s m c b L xs D cA ad A) {k N : Nat} (hN : N < 1000000) (hk : 5 * k + 5 ≤ L) {σ : a_HP} (hI : Inv N σ) (hS : a_SR D ad cA A s.heap σ H locs) (hl : lv_has ls 4 [(3, .int (nI (5 * k))), (0, .ref b), (1, .ref (ad 0)), (2, .ref (ad 61))]) (kk : ∀ (σ' : a_HP) (H' : Heap) (locs' : List Loc), Inv (N + 1) σ' → a_SR D ad cA A s.heap σ' H' locs' → W p l e room_1 s m #[Value.ref b] below meth c H' locs' 600000 7302250 Q (F0 m 1095 ls [])) : W p l e room_1 s m #[Value.ref b] below meth c H locs 600000 7302250 Q (F0 m 494 ls []) := by
  have hx := C.1
  have hb := C.2.1
  obtain ⟨v1, σ1, M1, h2⟩ := cl_met (l := l) (D := D) (ad := ad) (cA := cA) (A := A) (pr_read hI )
  obtain ⟨v2, σ2, M2, ⟨r, rfl, rfl⟩, hI2⟩ := cl_met (l := l) (D := D) (ad := ad) (cA := cA) (A := A) h2
  refine lv_aload_n hx hb dl_494 rfl (lv_at hl 2 rfl) ?_
  refine l_call (n := 0) (ci := 7) (cell := 0) (ix := 65) C M1 rfl rfl ⟨(sw_mk (i := 404) (by decide +kernel) (by decide +kernel)), (sw_mk (i := 1) (by decide +kernel) (by decide +kernel)), by decide +kernel, by decide +kernel, by decide +kernel⟩ (sw_mk (i := 402) (by decide +kernel) (by decide +kernel)) (sw_mk (i := 403) (by decide +kernel) (by decide +kernel)) (sw_mk (i := 401) (by decide +kernel) (by decide +kernel)) ⟨by decide +kernel, by decide +kernel⟩ rfl (Nat.le_of_ble_eq_true rfl) hl.1 ⟨Nat.le_refl _, Nat.le_refl _⟩ hS dl_495 rfl (fun H locs hS => ?_)
  refine lv_aload_n hx hb dl_498 rfl (lv_at hl 3 rfl) ?_
  refine l_call (n := 0) (ci := 8) (cell := 61) (ix := 68) C M2 rfl rfl ⟨(sw_mk (i := 1017) (by decide +kernel) (by decide +kernel)), (sw_mk (i := 10) (by decide +kernel) (by decide +kernel)), by decide +kernel, by decide +kernel, by decide +kernel⟩ (sw_mk (i := 1015) (by decide +kernel) (by decide +kernel)) (sw_mk (i := 1016) (by decide +kernel) (by decide +kernel)) (sw_mk (i := 1014) (by decide +kernel) (by decide +kernel)) ⟨by decide +kernel, by decide +kernel⟩ rfl (Nat.le_of_ble_eq_true rfl) hl.1 ⟨Nat.le_refl _, Nat.le_refl _⟩ hS dl_499 rfl (fun H locs hS => ?_)
  exact lv_icmp_eq hx hb dl_502 (tgt := 1095) (by decide) (fun _ => kk σ2 _ _ hI2 hS) (fun z => absurd rfl z)
set_option maxRecDepth 100000 in
theorem law_13 (C : lC p s m c b L xs D cA ad A) {k N : Nat} (hN : N < 1000000) (hk : 5 * k + 5 ≤ L) {σ : a_HP} (hI : Inv N σ) (hS : a_SR D ad cA A s.heap σ H locs) (hl : lv_has ls 4 [(3, .int (nI (5 * k))), (0, .ref b), (1, .ref (ad 0)), (2, .ref (ad 61))]) (kk : ∀ (σ' : a_HP) (H' : Heap) (locs' : List Loc), Inv (N + 1) σ' → a_SR D ad cA A s.heap σ' H' locs' → W p l e room_1 s m #[Value.ref b] below meth c H' locs' 600000 7302250 Q (F0 m 1095 ls [])) : W p l e room_1 s m #[Value.ref b] below meth c H locs 600000 7302250 Q (F0 m 507 ls []) := by
  have hx := C.1
  have hb := C.2.1
  obtain ⟨v1, σ1, M1, h2⟩ := cl_met (l := l) (D := D) (ad := ad) (cA := cA) (A := A) (pr_of hN hI (xs (5 * k + 1)) (xs (5 * k + 2)))
  obtain ⟨v2, σ2, M2, ⟨r, rfl, rfl⟩, hI2⟩ := cl_met (l := l) (D := D) (ad := ad) (cA := cA) (A := A) h2
  refine lv_aload_n hx hb dl_507 rfl (lv_at hl 2 rfl) ?_
  refine l_arg C (j := 1) (by omega) hl hS.2.2 (by decide) dl_508 dl_509 dl_510 dl_511 dl_512 ?_
  refine l_arg C (j := 2) (by omega) hl hS.2.2 (by decide) dl_513 dl_514 dl_515 dl_516 dl_517 ?_
  refine l_call (n := 2) (ci := 7) (cell := 0) (ix := 69) C M1 rfl rfl ⟨(sw_mk (i := 509) (by decide +kernel) (by decide +kernel)), (sw_mk (i := 1) (by decide +kernel) (by decide +kernel)), by decide +kernel, by decide +kernel, by decide +kernel⟩ (sw_mk (i := 507) (by decide +kernel) (by decide +kernel)) (sw_mk (i := 508) (by decide +kernel) (by decide +kernel)) (sw_mk (i := 506) (by decide +kernel) (by decide +kernel)) ⟨by decide +kernel, by decide +kernel⟩ rfl (Nat.le_of_ble_eq_true rfl) hl.1 ⟨Nat.le_refl _, Nat.le_refl _⟩ hS dl_518 rfl (fun H locs hS => ?_)
  refine lv_aload_n hx hb dl_521 rfl (lv_at hl 3 rfl) ?_
  refine l_arg C (j := 1) (by omega) hl hS.2.2 (by decide) dl_522 dl_523 dl_524 dl_525 dl_526 ?_
  refine l_arg C (j := 2) (by omega) hl hS.2.2 (by decide) dl_527 dl_528 dl_529 dl_530 dl_531 ?_
  refine l_call (n := 2) (ci := 8) (cell := 61) (ix := 72) C M2 rfl rfl ⟨(sw_mk (i := 1050) (by decide +kernel) (by decide +kernel)), (sw_mk (i := 10) (by decide +kernel) (by decide +kernel)), by decide +kernel, by decide +kernel, by decide +kernel⟩ (sw_mk (i := 1048) (by decide +kernel) (by decide +kernel)) (sw_mk (i := 1049) (by decide +kernel) (by decide +kernel)) (sw_mk (i := 1047) (by decide +kernel) (by decide +kernel)) ⟨by decide +kernel, by decide +kernel⟩ rfl (Nat.le_of_ble_eq_true rfl) hl.1 ⟨Nat.le_refl _, Nat.le_refl _⟩ hS dl_532 rfl (fun H locs hS => ?_)
  exact lv_icmp_eq hx hb dl_535 (tgt := 1095) (by decide) (fun _ => kk σ2 _ _ hI2 hS) (fun z => absurd rfl z)
set_option maxRecDepth 100000 in
theorem law_14 (C : lC p s m c b L xs D cA ad A) {k N : Nat} (hN : N < 1000000) (hk : 5 * k + 5 ≤ L) {σ : a_HP} (hI : Inv N σ) (hS : a_SR D ad cA A s.heap σ H locs) (hl : lv_has ls 4 [(3, .int (nI (5 * k))), (0, .ref b), (1, .ref (ad 0)), (2, .ref (ad 61))]) (kk : ∀ (σ' : a_HP) (H' : Heap) (locs' : List Loc), Inv (N + 1) σ' → a_SR D ad cA A s.heap σ' H' locs' → W p l e room_1 s m #[Value.ref b] below meth c H' locs' 600000 7302250 Q (F0 m 1095 ls [])) : W p l e room_1 s m #[Value.ref b] below meth c H locs 600000 7302250 Q (F0 m 540 ls []) := by
  have hx := C.1
  have hb := C.2.1
  obtain ⟨v1, σ1, M1, h2⟩ := cl_met (l := l) (D := D) (ad := ad) (cA := cA) (A := A) (pr_clause hI (xs (5 * k + 1)) (xs (5 * k + 2)))
  obtain ⟨v2, σ2, M2, ⟨r, rfl, rfl⟩, hI2⟩ := cl_met (l := l) (D := D) (ad := ad) (cA := cA) (A := A) h2
  refine lv_aload_n hx hb dl_540 rfl (lv_at hl 2 rfl) ?_
  refine l_arg C (j := 1) (by omega) hl hS.2.2 (by decide) dl_541 dl_542 dl_543 dl_544 dl_545 ?_
  refine l_arg C (j := 2) (by omega) hl hS.2.2 (by decide) dl_546 dl_547 dl_548 dl_549 dl_550 ?_
  refine l_call (n := 2) (ci := 7) (cell := 0) (ix := 73) C M1 rfl rfl ⟨(sw_mk (i := 525) (by decide +kernel) (by decide +kernel)), (sw_mk (i := 1) (by decide +kernel) (by decide +kernel)), by decide +kernel, by decide +kernel, by decide +kernel⟩ (sw_mk (i := 523) (by decide +kernel) (by decide +kernel)) (sw_mk (i := 524) (by decide +kernel) (by decide +kernel)) (sw_mk (i := 522) (by decide +kernel) (by decide +kernel)) ⟨by decide +kernel, by decide +kernel⟩ rfl (Nat.le_of_ble_eq_true rfl) hl.1 ⟨Nat.le_refl _, Nat.le_refl _⟩ hS dl_551 rfl (fun H locs hS => ?_)
  refine lv_aload_n hx hb dl_554 rfl (lv_at hl 3 rfl) ?_
  refine l_arg C (j := 1) (by omega) hl hS.2.2 (by decide) dl_555 dl_556 dl_557 dl_558 dl_559 ?_
  refine l_arg C (j := 2) (by omega) hl hS.2.2 (by decide) dl_560 dl_561 dl_562 dl_563 dl_564 ?_
  refine l_call (n := 2) (ci := 8) (cell := 61) (ix := 76) C M2 rfl rfl ⟨(sw_mk (i := 1064) (by decide +kernel) (by decide +kernel)), (sw_mk (i := 10) (by decide +kernel) (by decide +kernel)), by decide +kernel, by decide +kernel, by decide +kernel⟩ (sw_mk (i := 1062) (by decide +kernel) (by decide +kernel)) (sw_mk (i := 1063) (by decide +kernel) (by decide +kernel)) (sw_mk (i := 1061) (by decide +kernel) (by decide +kernel)) ⟨by decide +kernel, by decide +kernel⟩ rfl (Nat.le_of_ble_eq_true rfl) hl.1 ⟨Nat.le_refl _, Nat.le_refl _⟩ hS dl_565 rfl (fun H locs hS => ?_)
  exact lv_icmp_eq hx hb dl_568 (tgt := 1095) (by decide) (fun _ => kk σ2 _ _ hI2 hS) (fun z => absurd rfl z)
set_option maxRecDepth 100000 in
theorem law_15 (C : lC p s m c b L xs D cA ad A) {k N : Nat} (hN : N < 1000000) (hk : 5 * k + 5 ≤ L) {σ : a_HP} (hI : Inv N σ) (hS : a_SR D ad cA A s.heap σ H locs) (hl : lv_has ls 4 [(3, .int (nI (5 * k))), (0, .ref b), (1, .ref (ad 0)), (2, .ref (ad 61))]) (kk : ∀ (σ' : a_HP) (H' : Heap) (locs' : List Loc), Inv (N + 1) σ' → a_SR D ad cA A s.heap σ' H' locs' → W p l e room_1 s m #[Value.ref b] below meth c H' locs' 600000 7302250 Q (F0 m 1095 ls [])) : W p l e room_1 s m #[Value.ref b] below meth c H locs 600000 7302250 Q (F0 m 573 ls []) := by
  have hx := C.1
  have hb := C.2.1
  obtain ⟨v1, σ1, M1, h2⟩ := cl_met (l := l) (D := D) (ad := ad) (cA := cA) (A := A) (pr_laws hI )
  obtain ⟨v2, σ2, M2, ⟨r, rfl, rfl⟩, hI2⟩ := cl_met (l := l) (D := D) (ad := ad) (cA := cA) (A := A) h2
  refine lv_aload_n hx hb dl_573 rfl (lv_at hl 2 rfl) ?_
  refine l_call (n := 0) (ci := 7) (cell := 0) (ix := 77) C M1 rfl rfl ⟨(sw_mk (i := 542) (by decide +kernel) (by decide +kernel)), (sw_mk (i := 1) (by decide +kernel) (by decide +kernel)), by decide +kernel, by decide +kernel, by decide +kernel⟩ (sw_mk (i := 540) (by decide +kernel) (by decide +kernel)) (sw_mk (i := 541) (by decide +kernel) (by decide +kernel)) (sw_mk (i := 539) (by decide +kernel) (by decide +kernel)) ⟨by decide +kernel, by decide +kernel⟩ rfl (Nat.le_of_ble_eq_true rfl) hl.1 ⟨Nat.le_refl _, Nat.le_refl _⟩ hS dl_574 rfl (fun H locs hS => ?_)
  refine lv_aload_n hx hb dl_577 rfl (lv_at hl 3 rfl) ?_
  refine l_call (n := 0) (ci := 8) (cell := 61) (ix := 80) C M2 rfl rfl ⟨(sw_mk (i := 1077) (by decide +kernel) (by decide +kernel)), (sw_mk (i := 10) (by decide +kernel) (by decide +kernel)), by decide +kernel, by decide +kernel, by decide +kernel⟩ (sw_mk (i := 1075) (by decide +kernel) (by decide +kernel)) (sw_mk (i := 1076) (by decide +kernel) (by decide +kernel)) (sw_mk (i := 1074) (by decide +kernel) (by decide +kernel)) ⟨by decide +kernel, by decide +kernel⟩ rfl (Nat.le_of_ble_eq_true rfl) hl.1 ⟨Nat.le_refl _, Nat.le_refl _⟩ hS dl_578 rfl (fun H locs hS => ?_)
  exact lv_icmp_eq hx hb dl_581 (tgt := 1095) (by decide) (fun _ => kk σ2 _ _ hI2 hS) (fun z => absurd rfl z)
set_option maxRecDepth 100000 in
theorem law_16 (C : lC p s m c b L xs D cA ad A) {k N : Nat} (hN : N < 1000000) (hk : 5 * k + 5 ≤ L) {σ : a_HP} (hI : Inv N σ) (hS : a_SR D ad cA A s.heap σ H locs) (hl : lv_has ls 4 [(3, .int (nI (5 * k))), (0, .ref b), (1, .ref (ad 0)), (2, .ref (ad 61))]) (kk : ∀ (σ' : a_HP) (H' : Heap) (locs' : List Loc), Inv (N + 1) σ' → a_SR D ad cA A s.heap σ' H' locs' → W p l e room_1 s m #[Value.ref b] below meth c H' locs' 600000 7302250 Q (F0 m 1095 ls [])) : W p l e room_1 s m #[Value.ref b] below meth c H locs 600000 7302250 Q (F0 m 586 ls []) := by
  have hx := C.1
  have hb := C.2.1
  obtain ⟨v1, σ1, M1, h2⟩ := cl_met (l := l) (D := D) (ad := ad) (cA := cA) (A := A) (pr_holdsAll hI (xs (5 * k + 1)))
  obtain ⟨v2, σ2, M2, ⟨r, rfl, rfl⟩, hI2⟩ := cl_met (l := l) (D := D) (ad := ad) (cA := cA) (A := A) h2
  refine lv_aload_n hx hb dl_586 rfl (lv_at hl 2 rfl) ?_
  refine l_arg C (j := 1) (by omega) hl hS.2.2 (by decide) dl_587 dl_588 dl_589 dl_590 dl_591 ?_
  refine l_call (n := 1) (ci := 7) (cell := 0) (ix := 81) C M1 rfl rfl ⟨(sw_mk (i := 551) (by decide +kernel) (by decide +kernel)), (sw_mk (i := 1) (by decide +kernel) (by decide +kernel)), by decide +kernel, by decide +kernel, by decide +kernel⟩ (sw_mk (i := 549) (by decide +kernel) (by decide +kernel)) (sw_mk (i := 550) (by decide +kernel) (by decide +kernel)) (sw_mk (i := 548) (by decide +kernel) (by decide +kernel)) ⟨by decide +kernel, by decide +kernel⟩ rfl (Nat.le_of_ble_eq_true rfl) hl.1 ⟨Nat.le_refl _, Nat.le_refl _⟩ hS dl_592 rfl (fun H locs hS => ?_)
  refine lv_aload_n hx hb dl_595 rfl (lv_at hl 3 rfl) ?_
  refine l_arg C (j := 1) (by omega) hl hS.2.2 (by decide) dl_596 dl_597 dl_598 dl_599 dl_600 ?_
  refine l_call (n := 1) (ci := 8) (cell := 61) (ix := 84) C M2 rfl rfl ⟨(sw_mk (i := 1084) (by decide +kernel) (by decide +kernel)), (sw_mk (i := 10) (by decide +kernel) (by decide +kernel)), by decide +kernel, by decide +kernel, by decide +kernel⟩ (sw_mk (i := 1082) (by decide +kernel) (by decide +kernel)) (sw_mk (i := 1083) (by decide +kernel) (by decide +kernel)) (sw_mk (i := 1081) (by decide +kernel) (by decide +kernel)) ⟨by decide +kernel, by decide +kernel⟩ rfl (Nat.le_of_ble_eq_true rfl) hl.1 ⟨Nat.le_refl _, Nat.le_refl _⟩ hS dl_601 rfl (fun H locs hS => ?_)
  exact lv_icmp_eq hx hb dl_604 (tgt := 1095) (by decide) (fun _ => kk σ2 _ _ hI2 hS) (fun z => absurd rfl z)
set_option maxRecDepth 100000 in
theorem law_17 (C : lC p s m c b L xs D cA ad A) {k N : Nat} (hN : N < 1000000) (hk : 5 * k + 5 ≤ L) {σ : a_HP} (hI : Inv N σ) (hS : a_SR D ad cA A s.heap σ H locs) (hl : lv_has ls 4 [(3, .int (nI (5 * k))), (0, .ref b), (1, .ref (ad 0)), (2, .ref (ad 61))]) (kk : ∀ (σ' : a_HP) (H' : Heap) (locs' : List Loc), Inv (N + 1) σ' → a_SR D ad cA A s.heap σ' H' locs' → W p l e room_1 s m #[Value.ref b] below meth c H' locs' 600000 7302250 Q (F0 m 1095 ls [])) : W p l e room_1 s m #[Value.ref b] below meth c H locs 600000 7302250 Q (F0 m 609 ls []) := by
  have hx := C.1
  have hb := C.2.1
  obtain ⟨v1, σ1, M1, h2⟩ := cl_met (l := l) (D := D) (ad := ad) (cA := cA) (A := A) (pr_dropped hI (xs (5 * k + 1)))
  obtain ⟨v2, σ2, M2, ⟨r, rfl, rfl⟩, hI2⟩ := cl_met (l := l) (D := D) (ad := ad) (cA := cA) (A := A) h2
  refine lv_aload_n hx hb dl_609 rfl (lv_at hl 2 rfl) ?_
  refine l_arg C (j := 1) (by omega) hl hS.2.2 (by decide) dl_610 dl_611 dl_612 dl_613 dl_614 ?_
  refine l_call (n := 1) (ci := 7) (cell := 0) (ix := 85) C M1 rfl rfl ⟨(sw_mk (i := 566) (by decide +kernel) (by decide +kernel)), (sw_mk (i := 1) (by decide +kernel) (by decide +kernel)), by decide +kernel, by decide +kernel, by decide +kernel⟩ (sw_mk (i := 564) (by decide +kernel) (by decide +kernel)) (sw_mk (i := 565) (by decide +kernel) (by decide +kernel)) (sw_mk (i := 563) (by decide +kernel) (by decide +kernel)) ⟨by decide +kernel, by decide +kernel⟩ rfl (Nat.le_of_ble_eq_true rfl) hl.1 ⟨Nat.le_refl _, Nat.le_refl _⟩ hS dl_615 rfl (fun H locs hS => ?_)
  refine lv_aload_n hx hb dl_618 rfl (lv_at hl 3 rfl) ?_
  refine l_arg C (j := 1) (by omega) hl hS.2.2 (by decide) dl_619 dl_620 dl_621 dl_622 dl_623 ?_
  refine l_call (n := 1) (ci := 8) (cell := 61) (ix := 88) C M2 rfl rfl ⟨(sw_mk (i := 1095) (by decide +kernel) (by decide +kernel)), (sw_mk (i := 10) (by decide +kernel) (by decide +kernel)), by decide +kernel, by decide +kernel, by decide +kernel⟩ (sw_mk (i := 1093) (by decide +kernel) (by decide +kernel)) (sw_mk (i := 1094) (by decide +kernel) (by decide +kernel)) (sw_mk (i := 1092) (by decide +kernel) (by decide +kernel)) ⟨by decide +kernel, by decide +kernel⟩ rfl (Nat.le_of_ble_eq_true rfl) hl.1 ⟨Nat.le_refl _, Nat.le_refl _⟩ hS dl_624 rfl (fun H locs hS => ?_)
  exact lv_icmp_eq hx hb dl_627 (tgt := 1095) (by decide) (fun _ => kk σ2 _ _ hI2 hS) (fun z => absurd rfl z)
end lawc
