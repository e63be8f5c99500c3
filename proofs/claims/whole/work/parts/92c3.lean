/-! the law, a call a theorem: by program (gen_law.py) -/
section lawc
variable {p : Program} {l : Launch} {e : Env} {s : State} {m : MethodId} {below : List Frame} {meth : Method} {c : Code} {H : Heap} {locs : List Loc} {Q : State → Prop} {b L : Nat} {xs : Nat → Int32} {D : va_G} {cA : Nat → ClassId} {ad : Nat → Nat} {A : Nat → Prop} {ls : Array Slot}
set_option maxRecDepth 100000 in
theorem law_27 (C : lC p s m c b L xs D cA ad A) {k N : Nat} (hN : N < 1000000) (hk : 5 * k + 5 ≤ L) {σ : a_HP} (hI : Inv N σ) (hS : a_SR D ad cA A s.heap σ H locs) (hl : lv_has ls 4 [(3, .int (nI (5 * k))), (0, .ref b), (1, .ref (ad 0)), (2, .ref (ad 61))]) (kk : ∀ (σ' : a_HP) (H' : Heap) (locs' : List Loc), Inv (N + 1) σ' → a_SR D ad cA A s.heap σ' H' locs' → W p l e room_1 s m #[Value.ref b] below meth c H' locs' 600000 7302250 Q (F0 m 1095 ls [])) : W p l e room_1 s m #[Value.ref b] below meth c H locs 600000 7302250 Q (F0 m 899 ls []) := by
  have hx := C.1
  have hb := C.2.1
  obtain ⟨v1, σ1, M1, h2⟩ := cl_met (l := l) (D := D) (ad := ad) (cA := cA) (A := A) (pr_odds hI (xs (5 * k + 1)) (xs (5 * k + 2)))
  obtain ⟨v2, σ2, M2, ⟨r, rfl, rfl⟩, hI2⟩ := cl_met (l := l) (D := D) (ad := ad) (cA := cA) (A := A) h2
  refine lv_aload_n hx hb dl_899 rfl (lv_at hl 2 rfl) ?_
  refine l_arg C (j := 1) (by omega) hl hS.2.2 (by decide) dl_900 dl_901 dl_902 dl_903 dl_904 ?_
  refine l_arg C (j := 2) (by omega) hl hS.2.2 (by decide) dl_905 dl_906 dl_907 dl_908 dl_909 ?_
  refine l_call (n := 2) (ci := 7) (cell := 0) (ix := 126) C M1 rfl rfl ⟨(sw_mk (i := 757) (by decide +kernel) (by decide +kernel)), (sw_mk (i := 1) (by decide +kernel) (by decide +kernel)), by decide +kernel, by decide +kernel, by decide +kernel⟩ (sw_mk (i := 755) (by decide +kernel) (by decide +kernel)) (sw_mk (i := 756) (by decide +kernel) (by decide +kernel)) (sw_mk (i := 754) (by decide +kernel) (by decide +kernel)) ⟨by decide +kernel, by decide +kernel⟩ rfl (Nat.le_of_ble_eq_true rfl) hl.1 ⟨Nat.le_refl _, Nat.le_refl _⟩ hS dl_910 rfl (fun H locs hS => ?_)
  refine lv_aload_n hx hb dl_913 rfl (lv_at hl 3 rfl) ?_
  refine l_arg C (j := 1) (by omega) hl hS.2.2 (by decide) dl_914 dl_915 dl_916 dl_917 dl_918 ?_
  refine l_arg C (j := 2) (by omega) hl hS.2.2 (by decide) dl_919 dl_920 dl_921 dl_922 dl_923 ?_
  refine l_call (n := 2) (ci := 8) (cell := 61) (ix := 129) C M2 rfl rfl ⟨(sw_mk (i := 1196) (by decide +kernel) (by decide +kernel)), (sw_mk (i := 10) (by decide +kernel) (by decide +kernel)), by decide +kernel, by decide +kernel, by decide +kernel⟩ (sw_mk (i := 1194) (by decide +kernel) (by decide +kernel)) (sw_mk (i := 1195) (by decide +kernel) (by decide +kernel)) (sw_mk (i := 1193) (by decide +kernel) (by decide +kernel)) ⟨by decide +kernel, by decide +kernel⟩ rfl (Nat.le_of_ble_eq_true rfl) hl.1 ⟨Nat.le_refl _, Nat.le_refl _⟩ hS dl_924 rfl (fun H locs hS => ?_)
  exact lv_icmp_eq hx hb dl_927 (tgt := 1095) (by decide) (fun _ => kk σ2 _ _ hI2 hS) (fun z => absurd rfl z)
set_option maxRecDepth 100000 in
theorem law_28 (C : lC p s m c b L xs D cA ad A) {k N : Nat} (hN : N < 1000000) (hk : 5 * k + 5 ≤ L) {σ : a_HP} (hI : Inv N σ) (hS : a_SR D ad cA A s.heap σ H locs) (hl : lv_has ls 4 [(3, .int (nI (5 * k))), (0, .ref b), (1, .ref (ad 0)), (2, .ref (ad 61))]) (kk : ∀ (σ' : a_HP) (H' : Heap) (locs' : List Loc), Inv (N + 1) σ' → a_SR D ad cA A s.heap σ' H' locs' → W p l e room_1 s m #[Value.ref b] below meth c H' locs' 600000 7302250 Q (F0 m 1095 ls [])) : W p l e room_1 s m #[Value.ref b] below meth c H locs 600000 7302250 Q (F0 m 932 ls []) := by
  have hx := C.1
  have hb := C.2.1
  obtain ⟨v1, σ1, M1, h2⟩ := cl_met (l := l) (D := D) (ad := ad) (cA := cA) (A := A) (pr_drawn hN hI (xs (5 * k + 1)) (xs (5 * k + 2)))
  obtain ⟨v2, σ2, M2, ⟨r, rfl, rfl⟩, hI2⟩ := cl_met (l := l) (D := D) (ad := ad) (cA := cA) (A := A) h2
  refine lv_aload_n hx hb dl_932 rfl (lv_at hl 2 rfl) ?_
  refine l_arg C (j := 1) (by omega) hl hS.2.2 (by decide) dl_933 dl_934 dl_935 dl_936 dl_937 ?_
  refine l_arg C (j := 2) (by omega) hl hS.2.2 (by decide) dl_938 dl_939 dl_940 dl_941 dl_942 ?_
  refine l_call (n := 2) (ci := 7) (cell := 0) (ix := 130) C M1 rfl rfl ⟨(sw_mk (i := 780) (by decide +kernel) (by decide +kernel)), (sw_mk (i := 1) (by decide +kernel) (by decide +kernel)), by decide +kernel, by decide +kernel, by decide +kernel⟩ (sw_mk (i := 778) (by decide +kernel) (by decide +kernel)) (sw_mk (i := 779) (by decide +kernel) (by decide +kernel)) (sw_mk (i := 777) (by decide +kernel) (by decide +kernel)) ⟨by decide +kernel, by decide +kernel⟩ rfl (Nat.le_of_ble_eq_true rfl) hl.1 ⟨Nat.le_refl _, Nat.le_refl _⟩ hS dl_943 rfl (fun H locs hS => ?_)
  refine lv_aload_n hx hb dl_946 rfl (lv_at hl 3 rfl) ?_
  refine l_arg C (j := 1) (by omega) hl hS.2.2 (by decide) dl_947 dl_948 dl_949 dl_950 dl_951 ?_
  refine l_arg C (j := 2) (by omega) hl hS.2.2 (by decide) dl_952 dl_953 dl_954 dl_955 dl_956 ?_
  refine l_call (n := 2) (ci := 8) (cell := 61) (ix := 133) C M2 rfl rfl ⟨(sw_mk (i := 1205) (by decide +kernel) (by decide +kernel)), (sw_mk (i := 10) (by decide +kernel) (by decide +kernel)), by decide +kernel, by decide +kernel, by decide +kernel⟩ (sw_mk (i := 1203) (by decide +kernel) (by decide +kernel)) (sw_mk (i := 1204) (by decide +kernel) (by decide +kernel)) (sw_mk (i := 1202) (by decide +kernel) (by decide +kernel)) ⟨by decide +kernel, by decide +kernel⟩ rfl (Nat.le_of_ble_eq_true rfl) hl.1 ⟨Nat.le_refl _, Nat.le_refl _⟩ hS dl_957 rfl (fun H locs hS => ?_)
  exact lv_icmp_eq hx hb dl_960 (tgt := 1095) (by decide) (fun _ => kk σ2 _ _ hI2 hS) (fun z => absurd rfl z)
set_option maxRecDepth 100000 in
theorem law_29 (C : lC p s m c b L xs D cA ad A) {k N : Nat} (hN : N < 1000000) (hk : 5 * k + 5 ≤ L) {σ : a_HP} (hI : Inv N σ) (hS : a_SR D ad cA A s.heap σ H locs) (hl : lv_has ls 4 [(3, .int (nI (5 * k))), (0, .ref b), (1, .ref (ad 0)), (2, .ref (ad 61))]) (kk : ∀ (σ' : a_HP) (H' : Heap) (locs' : List Loc), Inv (N + 1) σ' → a_SR D ad cA A s.heap σ' H' locs' → W p l e room_1 s m #[Value.ref b] below meth c H' locs' 600000 7302250 Q (F0 m 1095 ls [])) : W p l e room_1 s m #[Value.ref b] below meth c H locs 600000 7302250 Q (F0 m 965 ls []) := by
  have hx := C.1
  have hb := C.2.1
  obtain ⟨v1, σ1, M1, h2⟩ := cl_met (l := l) (D := D) (ad := ad) (cA := cA) (A := A) (pr_part hI (xs (5 * k + 1)))
  obtain ⟨v2, σ2, M2, ⟨r, rfl, rfl⟩, hI2⟩ := cl_met (l := l) (D := D) (ad := ad) (cA := cA) (A := A) h2
  refine lv_aload_n hx hb dl_965 rfl (lv_at hl 2 rfl) ?_
  refine l_arg C (j := 1) (by omega) hl hS.2.2 (by decide) dl_966 dl_967 dl_968 dl_969 dl_970 ?_
  refine l_call (n := 1) (ci := 7) (cell := 0) (ix := 134) C M1 rfl rfl ⟨(sw_mk (i := 790) (by decide +kernel) (by decide +kernel)), (sw_mk (i := 1) (by decide +kernel) (by decide +kernel)), by decide +kernel, by decide +kernel, by decide +kernel⟩ (sw_mk (i := 788) (by decide +kernel) (by decide +kernel)) (sw_mk (i := 789) (by decide +kernel) (by decide +kernel)) (sw_mk (i := 787) (by decide +kernel) (by decide +kernel)) ⟨by decide +kernel, by decide +kernel⟩ rfl (Nat.le_of_ble_eq_true rfl) hl.1 ⟨Nat.le_refl _, Nat.le_refl _⟩ hS dl_971 rfl (fun H locs hS => ?_)
  refine lv_aload_n hx hb dl_974 rfl (lv_at hl 3 rfl) ?_
  refine l_arg C (j := 1) (by omega) hl hS.2.2 (by decide) dl_975 dl_976 dl_977 dl_978 dl_979 ?_
  refine l_call (n := 1) (ci := 8) (cell := 61) (ix := 138) C M2 rfl rfl ⟨(sw_mk (i := 1215) (by decide +kernel) (by decide +kernel)), (sw_mk (i := 10) (by decide +kernel) (by decide +kernel)), by decide +kernel, by decide +kernel, by decide +kernel⟩ (sw_mk (i := 1213) (by decide +kernel) (by decide +kernel)) (sw_mk (i := 1214) (by decide +kernel) (by decide +kernel)) (sw_mk (i := 1212) (by decide +kernel) (by decide +kernel)) ⟨by decide +kernel, by decide +kernel⟩ rfl (Nat.le_of_ble_eq_true rfl) hl.1 ⟨Nat.le_refl _, Nat.le_refl _⟩ hS dl_980 rfl (fun H locs hS => ?_)
  refine W.lcmp hx hb dl_983 ?_
  exact lv_if_eq hx hb dl_984 (tgt := 1095) (by decide) (fun _ => kk σ2 _ _ hI2 hS) (fun z => absurd (by rw [lc_eq]) z)
set_option maxRecDepth 100000 in
theorem law_30 (C : lC p s m c b L xs D cA ad A) {k N : Nat} (hN : N < 1000000) (hk : 5 * k + 5 ≤ L) {σ : a_HP} (hI : Inv N σ) (hS : a_SR D ad cA A s.heap σ H locs) (hl : lv_has ls 4 [(3, .int (nI (5 * k))), (0, .ref b), (1, .ref (ad 0)), (2, .ref (ad 61))]) (kk : ∀ (σ' : a_HP) (H' : Heap) (locs' : List Loc), Inv (N + 1) σ' → a_SR D ad cA A s.heap σ' H' locs' → W p l e room_1 s m #[Value.ref b] below meth c H' locs' 600000 7302250 Q (F0 m 1095 ls [])) : W p l e room_1 s m #[Value.ref b] below meth c H locs 600000 7302250 Q (F0 m 989 ls []) := by
  have hx := C.1
  have hb := C.2.1
  obtain ⟨v1, σ1, M1, h2⟩ := cl_met (l := l) (D := D) (ad := ad) (cA := cA) (A := A) (pr_image hI (xs (5 * k + 1)))
  obtain ⟨v2, σ2, M2, ⟨r, rfl, rfl⟩, hI2⟩ := cl_met (l := l) (D := D) (ad := ad) (cA := cA) (A := A) h2
  refine lv_aload_n hx hb dl_989 rfl (lv_at hl 2 rfl) ?_
  refine l_arg C (j := 1) (by omega) hl hS.2.2 (by decide) dl_990 dl_991 dl_992 dl_993 dl_994 ?_
  refine l_call (n := 1) (ci := 7) (cell := 0) (ix := 139) C M1 rfl rfl ⟨(sw_mk (i := 794) (by decide +kernel) (by decide +kernel)), (sw_mk (i := 1) (by decide +kernel) (by decide +kernel)), by decide +kernel, by decide +kernel, by decide +kernel⟩ (sw_mk (i := 792) (by decide +kernel) (by decide +kernel)) (sw_mk (i := 793) (by decide +kernel) (by decide +kernel)) (sw_mk (i := 791) (by decide +kernel) (by decide +kernel)) ⟨by decide +kernel, by decide +kernel⟩ rfl (Nat.le_of_ble_eq_true rfl) hl.1 ⟨Nat.le_refl _, Nat.le_refl _⟩ hS dl_995 rfl (fun H locs hS => ?_)
  refine lv_aload_n hx hb dl_998 rfl (lv_at hl 3 rfl) ?_
  refine l_arg C (j := 1) (by omega) hl hS.2.2 (by decide) dl_999 dl_1000 dl_1001 dl_1002 dl_1003 ?_
  refine l_call (n := 1) (ci := 8) (cell := 61) (ix := 142) C M2 rfl rfl ⟨(sw_mk (i := 1219) (by decide +kernel) (by decide +kernel)), (sw_mk (i := 10) (by decide +kernel) (by decide +kernel)), by decide +kernel, by decide +kernel, by decide +kernel⟩ (sw_mk (i := 1217) (by decide +kernel) (by decide +kernel)) (sw_mk (i := 1218) (by decide +kernel) (by decide +kernel)) (sw_mk (i := 1216) (by decide +kernel) (by decide +kernel)) ⟨by decide +kernel, by decide +kernel⟩ rfl (Nat.le_of_ble_eq_true rfl) hl.1 ⟨Nat.le_refl _, Nat.le_refl _⟩ hS dl_1004 rfl (fun H locs hS => ?_)
  exact lv_icmp_eq hx hb dl_1007 (tgt := 1095) (by decide) (fun _ => kk σ2 _ _ hI2 hS) (fun z => absurd rfl z)
set_option maxRecDepth 100000 in
theorem law_31 (C : lC p s m c b L xs D cA ad A) {k N : Nat} (hN : N < 1000000) (hk : 5 * k + 5 ≤ L) {σ : a_HP} (hI : Inv N σ) (hS : a_SR D ad cA A s.heap σ H locs) (hl : lv_has ls 4 [(3, .int (nI (5 * k))), (0, .ref b), (1, .ref (ad 0)), (2, .ref (ad 61))]) (kk : ∀ (σ' : a_HP) (H' : Heap) (locs' : List Loc), Inv (N + 1) σ' → a_SR D ad cA A s.heap σ' H' locs' → W p l e room_1 s m #[Value.ref b] below meth c H' locs' 600000 7302250 Q (F0 m 1095 ls [])) : W p l e room_1 s m #[Value.ref b] below meth c H locs 600000 7302250 Q (F0 m 1012 ls []) := by
  have hx := C.1
  have hb := C.2.1
  obtain ⟨v1, σ1, M1, h2⟩ := cl_met (l := l) (D := D) (ad := ad) (cA := cA) (A := A) (pr_from hI (xs (5 * k + 1)))
  obtain ⟨v2, σ2, M2, ⟨r, rfl, rfl⟩, hI2⟩ := cl_met (l := l) (D := D) (ad := ad) (cA := cA) (A := A) h2
  refine lv_aload_n hx hb dl_1012 rfl (lv_at hl 2 rfl) ?_
  refine l_arg C (j := 1) (by omega) hl hS.2.2 (by decide) dl_1013 dl_1014 dl_1015 dl_1016 dl_1017 ?_
  refine l_call (n := 1) (ci := 7) (cell := 0) (ix := 143) C M1 rfl rfl ⟨(sw_mk (i := 807) (by decide +kernel) (by decide +kernel)), (sw_mk (i := 1) (by decide +kernel) (by decide +kernel)), by decide +kernel, by decide +kernel, by decide +kernel⟩ (sw_mk (i := 805) (by decide +kernel) (by decide +kernel)) (sw_mk (i := 806) (by decide +kernel) (by decide +kernel)) (sw_mk (i := 804) (by decide +kernel) (by decide +kernel)) ⟨by decide +kernel, by decide +kernel⟩ rfl (Nat.le_of_ble_eq_true rfl) hl.1 ⟨Nat.le_refl _, Nat.le_refl _⟩ hS dl_1018 rfl (fun H locs hS => ?_)
  refine lv_aload_n hx hb dl_1021 rfl (lv_at hl 3 rfl) ?_
  refine l_arg C (j := 1) (by omega) hl hS.2.2 (by decide) dl_1022 dl_1023 dl_1024 dl_1025 dl_1026 ?_
  refine l_call (n := 1) (ci := 8) (cell := 61) (ix := 146) C M2 rfl rfl ⟨(sw_mk (i := 1223) (by decide +kernel) (by decide +kernel)), (sw_mk (i := 10) (by decide +kernel) (by decide +kernel)), by decide +kernel, by decide +kernel, by decide +kernel⟩ (sw_mk (i := 1221) (by decide +kernel) (by decide +kernel)) (sw_mk (i := 1222) (by decide +kernel) (by decide +kernel)) (sw_mk (i := 1220) (by decide +kernel) (by decide +kernel)) ⟨by decide +kernel, by decide +kernel⟩ rfl (Nat.le_of_ble_eq_true rfl) hl.1 ⟨Nat.le_refl _, Nat.le_refl _⟩ hS dl_1027 rfl (fun H locs hS => ?_)
  exact lv_icmp_eq hx hb dl_1030 (tgt := 1095) (by decide) (fun _ => kk σ2 _ _ hI2 hS) (fun z => absurd rfl z)
set_option maxRecDepth 100000 in
theorem law_32 (C : lC p s m c b L xs D cA ad A) {k N : Nat} (hN : N < 1000000) (hk : 5 * k + 5 ≤ L) {σ : a_HP} (hI : Inv N σ) (hS : a_SR D ad cA A s.heap σ H locs) (hl : lv_has ls 4 [(3, .int (nI (5 * k))), (0, .ref b), (1, .ref (ad 0)), (2, .ref (ad 61))]) (kk : ∀ (σ' : a_HP) (H' : Heap) (locs' : List Loc), Inv (N + 1) σ' → a_SR D ad cA A s.heap σ' H' locs' → W p l e room_1 s m #[Value.ref b] below meth c H' locs' 600000 7302250 Q (F0 m 1095 ls [])) : W p l e room_1 s m #[Value.ref b] below meth c H locs 600000 7302250 Q (F0 m 1035 ls []) := by
  have hx := C.1
  have hb := C.2.1
  obtain ⟨v1, σ1, M1, h2⟩ := cl_met (l := l) (D := D) (ad := ad) (cA := cA) (A := A) (pr_status hI (xs (5 * k + 1)))
  obtain ⟨v2, σ2, M2, ⟨r, rfl, rfl⟩, hI2⟩ := cl_met (l := l) (D := D) (ad := ad) (cA := cA) (A := A) h2
  refine lv_aload_n hx hb dl_1035 rfl (lv_at hl 2 rfl) ?_
  refine l_arg C (j := 1) (by omega) hl hS.2.2 (by decide) dl_1036 dl_1037 dl_1038 dl_1039 dl_1040 ?_
  refine l_call (n := 1) (ci := 7) (cell := 0) (ix := 147) C M1 rfl rfl ⟨(sw_mk (i := 811) (by decide +kernel) (by decide +kernel)), (sw_mk (i := 1) (by decide +kernel) (by decide +kernel)), by decide +kernel, by decide +kernel, by decide +kernel⟩ (sw_mk (i := 809) (by decide +kernel) (by decide +kernel)) (sw_mk (i := 810) (by decide +kernel) (by decide +kernel)) (sw_mk (i := 808) (by decide +kernel) (by decide +kernel)) ⟨by decide +kernel, by decide +kernel⟩ rfl (Nat.le_of_ble_eq_true rfl) hl.1 ⟨Nat.le_refl _, Nat.le_refl _⟩ hS dl_1041 rfl (fun H locs hS => ?_)
  refine lv_aload_n hx hb dl_1044 rfl (lv_at hl 3 rfl) ?_
  refine l_arg C (j := 1) (by omega) hl hS.2.2 (by decide) dl_1045 dl_1046 dl_1047 dl_1048 dl_1049 ?_
  refine l_call (n := 1) (ci := 8) (cell := 61) (ix := 150) C M2 rfl rfl ⟨(sw_mk (i := 1227) (by decide +kernel) (by decide +kernel)), (sw_mk (i := 10) (by decide +kernel) (by decide +kernel)), by decide +kernel, by decide +kernel, by decide +kernel⟩ (sw_mk (i := 1225) (by decide +kernel) (by decide +kernel)) (sw_mk (i := 1226) (by decide +kernel) (by decide +kernel)) (sw_mk (i := 1224) (by decide +kernel) (by decide +kernel)) ⟨by decide +kernel, by decide +kernel⟩ rfl (Nat.le_of_ble_eq_true rfl) hl.1 ⟨Nat.le_refl _, Nat.le_refl _⟩ hS dl_1050 rfl (fun H locs hS => ?_)
  exact lv_icmp_eq hx hb dl_1053 (tgt := 1095) (by decide) (fun _ => kk σ2 _ _ hI2 hS) (fun z => absurd rfl z)
set_option maxRecDepth 100000 in
theorem law_33 (C : lC p s m c b L xs D cA ad A) {k N : Nat} (hN : N < 1000000) (hk : 5 * k + 5 ≤ L) {σ : a_HP} (hI : Inv N σ) (hS : a_SR D ad cA A s.heap σ H locs) (hl : lv_has ls 4 [(3, .int (nI (5 * k))), (0, .ref b), (1, .ref (ad 0)), (2, .ref (ad 61))]) (kk : ∀ (σ' : a_HP) (H' : Heap) (locs' : List Loc), Inv (N + 1) σ' → a_SR D ad cA A s.heap σ' H' locs' → W p l e room_1 s m #[Value.ref b] below meth c H' locs' 600000 7302250 Q (F0 m 1095 ls [])) : W p l e room_1 s m #[Value.ref b] below meth c H locs 600000 7302250 Q (F0 m 1058 ls []) := by
  have hx := C.1
  have hb := C.2.1
  obtain ⟨v1, σ1, M1, h2⟩ := cl_met (l := l) (D := D) (ad := ad) (cA := cA) (A := A) (pr_count hI (xs (5 * k + 1)))
  obtain ⟨v2, σ2, M2, ⟨r, rfl, rfl⟩, hI2⟩ := cl_met (l := l) (D := D) (ad := ad) (cA := cA) (A := A) h2
  refine lv_aload_n hx hb dl_1058 rfl (lv_at hl 2 rfl) ?_
  refine l_arg C (j := 1) (by omega) hl hS.2.2 (by decide) dl_1059 dl_1060 dl_1061 dl_1062 dl_1063 ?_
  refine l_call (n := 1) (ci := 7) (cell := 0) (ix := 151) C M1 rfl rfl ⟨(sw_mk (i := 815) (by decide +kernel) (by decide +kernel)), (sw_mk (i := 1) (by decide +kernel) (by decide +kernel)), by decide +kernel, by decide +kernel, by decide +kernel⟩ (sw_mk (i := 813) (by decide +kernel) (by decide +kernel)) (sw_mk (i := 814) (by decide +kernel) (by decide +kernel)) (sw_mk (i := 812) (by decide +kernel) (by decide +kernel)) ⟨by decide +kernel, by decide +kernel⟩ rfl (Nat.le_of_ble_eq_true rfl) hl.1 ⟨Nat.le_refl _, Nat.le_refl _⟩ hS dl_1064 rfl (fun H locs hS => ?_)
  refine lv_aload_n hx hb dl_1067 rfl (lv_at hl 3 rfl) ?_
  refine l_arg C (j := 1) (by omega) hl hS.2.2 (by decide) dl_1068 dl_1069 dl_1070 dl_1071 dl_1072 ?_
  refine l_call (n := 1) (ci := 8) (cell := 61) (ix := 154) C M2 rfl rfl ⟨(sw_mk (i := 1231) (by decide +kernel) (by decide +kernel)), (sw_mk (i := 10) (by decide +kernel) (by decide +kernel)), by decide +kernel, by decide +kernel, by decide +kernel⟩ (sw_mk (i := 1229) (by decide +kernel) (by decide +kernel)) (sw_mk (i := 1230) (by decide +kernel) (by decide +kernel)) (sw_mk (i := 1228) (by decide +kernel) (by decide +kernel)) ⟨by decide +kernel, by decide +kernel⟩ rfl (Nat.le_of_ble_eq_true rfl) hl.1 ⟨Nat.le_refl _, Nat.le_refl _⟩ hS dl_1073 rfl (fun H locs hS => ?_)
  exact lv_icmp_eq hx hb dl_1076 (tgt := 1095) (by decide) (fun _ => kk σ2 _ _ hI2 hS) (fun z => absurd rfl z)
set_option maxRecDepth 100000 in
theorem law_34 (C : lC p s m c b L xs D cA ad A) {k N : Nat} (hN : N < 1000000) (hk : 5 * k + 5 ≤ L) {σ : a_HP} (hI : Inv N σ) (hS : a_SR D ad cA A s.heap σ H locs) (hl : lv_has ls 4 [(3, .int (nI (5 * k))), (0, .ref b), (1, .ref (ad 0)), (2, .ref (ad 61))]) (kk : ∀ (σ' : a_HP) (H' : Heap) (locs' : List Loc), Inv (N + 1) σ' → a_SR D ad cA A s.heap σ' H' locs' → W p l e room_1 s m #[Value.ref b] below meth c H' locs' 600000 7302250 Q (F0 m 1095 ls [])) : W p l e room_1 s m #[Value.ref b] below meth c H locs 600000 7302250 Q (F0 m 1081 ls []) := by
  have hx := C.1
  have hb := C.2.1
  obtain ⟨v1, σ1, M1, h2⟩ := cl_met (l := l) (D := D) (ad := ad) (cA := cA) (A := A) (pr_digest hI )
  obtain ⟨v2, σ2, M2, ⟨r, rfl, rfl⟩, hI2⟩ := cl_met (l := l) (D := D) (ad := ad) (cA := cA) (A := A) h2
  refine lv_aload_n hx hb dl_1081 rfl (lv_at hl 2 rfl) ?_
  refine l_call (n := 0) (ci := 7) (cell := 0) (ix := 155) C M1 rfl rfl ⟨(sw_mk (i := 823) (by decide +kernel) (by decide +kernel)), (sw_mk (i := 1) (by decide +kernel) (by decide +kernel)), by decide +kernel, by decide +kernel, by decide +kernel⟩ (sw_mk (i := 821) (by decide +kernel) (by decide +kernel)) (sw_mk (i := 822) (by decide +kernel) (by decide +kernel)) (sw_mk (i := 820) (by decide +kernel) (by decide +kernel)) ⟨by decide +kernel, by decide +kernel⟩ rfl (Nat.le_of_ble_eq_true rfl) hl.1 ⟨Nat.le_refl _, Nat.le_refl _⟩ hS dl_1082 rfl (fun H locs hS => ?_)
  refine lv_aload_n hx hb dl_1085 rfl (lv_at hl 3 rfl) ?_
  refine l_call (n := 0) (ci := 8) (cell := 61) (ix := 159) C M2 rfl rfl ⟨(sw_mk (i := 1240) (by decide +kernel) (by decide +kernel)), (sw_mk (i := 10) (by decide +kernel) (by decide +kernel)), by decide +kernel, by decide +kernel, by decide +kernel⟩ (sw_mk (i := 1238) (by decide +kernel) (by decide +kernel)) (sw_mk (i := 1239) (by decide +kernel) (by decide +kernel)) (sw_mk (i := 1237) (by decide +kernel) (by decide +kernel)) ⟨by decide +kernel, by decide +kernel⟩ rfl (Nat.le_of_ble_eq_true rfl) hl.1 ⟨Nat.le_refl _, Nat.le_refl _⟩ hS dl_1086 rfl (fun H locs hS => ?_)
  refine W.lcmp hx hb dl_1089 ?_
  exact lv_if_eq hx hb dl_1090 (tgt := 1095) (by decide) (fun _ => kk σ2 _ _ hI2 hS) (fun z => absurd (by rw [lc_eq]) z)
end lawc
