/-! making objects: worlds as lists whose order is free -/
theorem vP_mem {D : va_G} {cl : List vw_C} {ws : va_W} {H : Heap} (h : va_P D cl ws H) {q : Nat × va_E} (hq : q ∈ ws) : va_at D cl q H := by
  obtain ⟨k, hk⟩ := List.getElem?_of_mem hq
  exact h k q hk
theorem vP_perm {D : va_G} {cl : List vw_C} {ws ws' : va_W} {H : Heap} (h : va_P D cl ws H) (hp : ws.Perm ws') : va_P D cl ws' H := fun _ _ hq => vP_mem h (hp.mem_iff.mpr (List.mem_of_getElem? hq))
theorem vD_iff {A : Nat → Prop} {ws : va_W} : va_D A ws ↔ ws.Pairwise (fun p q => p.1 ≠ q.1) ∧ ∀ q ∈ ws, A q.1 := by
  constructor
  · intro h
    refine ⟨List.pairwise_iff_getElem.mpr (fun i j hi hj hij e => ?_), fun q hq => ?_⟩
    · have := h.1 i j _ _ (List.getElem?_eq_getElem hi) (List.getElem?_eq_getElem hj) e
      omega
    · obtain ⟨k, hk⟩ := List.getElem?_of_mem hq
      exact h.2 k q hk
  · intro h
    have hp := List.pairwise_iff_getElem.mp h.1
    refine ⟨fun i j p q hi hj e => ?_, fun k q hk => h.2 q (List.mem_of_getElem? hk)⟩
    obtain ⟨li, ei⟩ := List.getElem?_eq_some_iff.mp hi
    obtain ⟨lj, ej⟩ := List.getElem?_eq_some_iff.mp hj
    rcases Nat.lt_trichotomy i j with z | z | z
    · exact absurd (by rw [ei, ej]; exact e) (hp i j li lj z)
    · exact z
    · exact absurd (by rw [ei, ej]; exact e.symm) (hp j i lj li z)
theorem vD_perm {A : Nat → Prop} {ws ws' : va_W} (h : va_D A ws) (hp : ws.Perm ws') : va_D A ws' := by
  rw [vD_iff] at h ⊢
  exact ⟨(hp.pairwise_iff (fun z => Ne.symm z)).mp h.1, fun q hq => h.2 q (hp.mem_iff.mpr hq)⟩
def kS (D : va_G) (A : Nat → Prop) (H0 : Heap) (ws : va_W) (H : Heap) (locs : List Loc) : Prop := va_P D vwCl ws H ∧ va_D A ws ∧ va_S A H0 H locs
theorem kS.re {D : va_G} {A : Nat → Prop} {H0 : Heap} {ws ws' : va_W} {H : Heap} {locs : List Loc} (h : kS D A H0 ws H locs) (hp : ws.Perm ws') : kS D A H0 ws' H locs := ⟨vP_perm h.1 hp, vD_perm h.2.1 hp, h.2.2⟩
theorem kS.mid1 {D : va_G} {A : Nat → Prop} {H0 : Heap} {x w : Nat × va_E} {X T : va_W} {H : Heap} {locs : List Loc} (h : kS D A H0 (x :: (X ++ (w :: T))) H locs) : kS D A H0 (w :: x :: (X ++ T)) H locs := h.re (List.perm_middle (l₁ := x :: X) (l₂ := T) (a := w))
theorem kS.mid2 {D : va_G} {A : Nat → Prop} {H0 : Heap} {x w v : Nat × va_E} {X T : va_W} {H : Heap} {locs : List Loc} (h : kS D A H0 (x :: (X ++ (w :: v :: T))) H locs) : kS D A H0 (w :: v :: x :: (X ++ T)) H locs := h.re ((List.perm_middle (l₁ := x :: X) (l₂ := v :: T) (a := w)).trans ((List.perm_middle (l₁ := x :: X) (l₂ := T) (a := v)).cons w))
/-- the nest mates' constructors -/
def k_nest : List (String × Nat × MethodName × String) := [("NetLaw", 18, yX4_init, "NetLaw"), ("NetLaw", 25, yX5_init, "NetLaw"), ("NetLaw", 38, yX6_init, "NetLaw"), ("NetLaw", 45, yX0_init, "NetLaw"), ("NetLaw", 59, yX2_init, "NetLaw"), ("NetLaw", 76, yX1_init, "NetLaw"), ("NetLaw$Image", 18, yX4_init, "NetLaw"), ("NetLaw$Image", 25, yX5_init, "NetLaw")]
def kN (U : State) : Prop := (∀ q ∈ k_nest, va_Nw (.methodLinkNest q.1 q.2.1 q.2.2.1 q.2.2.2) U) ∧ va_AO "NetLaw$Image" U
theorem kN.go {s U : State} (h : kN s) (hW : s.WarmedH U.vm) : kN U := ⟨fun q hq => (h.1 q hq).warmM hW, h.2.moved hW.alike⟩
theorem kN.call {U : State} {g : JFrame} {mk : MethodId} {a : Array Value} (h : kN U) : kN (U.calling g mk a) := ⟨fun q hq => va_Nw.same (u := U) rfl rfl (h.1 q hq), va_AO.moved (u := U) (Vm.Alike.refl U.vm) h.2⟩
def kX (p : Program) (s : State) (m : MethodId) (args : Array Value) (c : Code) (cc : ByteArray) (n : Nat) (own : String) (D : va_G) (cA : Nat → ClassId) (A : Nat → Prop) : Prop := p.tables.exec = Jvm.exec ∧ c.code = cc ∧ c.maxLocals = n ∧ s.vm.findClass own = some m.cls ∧ (∀ w ∈ a_tb, w.before args s = true) ∧ va_K D vwCl (a_tys cA) s ∧ (∀ q, s.heap.size ≤ q → A q) ∧ kN s
section ctor
variable {p : Program} {l : Launch} {e : Env} {R : Room} {s : State} {m : MethodId} {args : Array Value} {below : List Frame} {meth : Method} {c : Code} {H : Heap} {locs : List Loc} {cells slots : Nat} {Q : State → Prop} {cc : ByteArray} {n0 : Nat} {own : String} {D : va_G} {cA : Nat → ClassId} {A : Nat → Prop} {ws : va_W} {w0 : Nat × va_E} {pc : Nat} {ls : Array Slot} {rest : List Value}
theorem k_newa (X : kX p s m args c cc n0 own D cA A) {n t : Nat} {ty : ArrayType} (ht : (t = 0 ∧ ty = .int) ∨ (t = 1 ∧ ty = .byte) ∨ (t = 2 ∧ ty = .boolean)) (hn : n < 10000) (hS : kS D A s.heap (w0 :: ws) H locs) (hc : cells + 1 ≤ R.cells) (hs : slots + n ≤ R.slots) (hd : decode cc pc = .ok (.newarray ty, 2))
    (kk : ∀ (q : Nat) (H1 : Heap), kS D A s.heap (w0 :: (q, .inl (cA t, n, .inl (fun _ => 0))) :: ws) H1 locs → W p l e R s m args below meth c H1 locs (cells + 1) (slots + n) Q (F0 m (pc + 2) ls (.ref q :: rest))) : W p l e R s m args below meth c H locs cells slots Q (F0 m pc ls (.int (nI n) :: rest)) := by
  obtain ⟨hx, hb, hml, hown, hts, hK, hA, hN⟩ := X
  rcases ht with ⟨rfl, rfl⟩ | ⟨rfl, rfl⟩ | ⟨rfl, rfl⟩
  · refine va_newa (atype := .int) (ty := .int) (a0 := (n, .inl (fun _ => 0))) hx hb (hts _ (sw_mk (i := 77) (by decide +kernel) (by decide +kernel))) rfl hK hS.1 hS.2.1 hS.2.2 hA (fun _ => rfl) (nI_pos (by omega)) (n_cl (by omega)) (show n * 4 ≤ 536870912 by omega) hc hs hd (fun q cA' H1 hK1 hP1 hD1 hS1 => ?_)
    have e1 := va_nm_int (hK1.2 4 (cA', .int) rfl).2
    have e2 := va_nm_int (hK.2 0 (cA 0, .int) rfl).2
    have e3 : cA' = cA 0 := Option.some.inj (e1.symm.trans e2)
    subst e3
    have hp : ((w0 :: ws) ++ [(q, (.inl (cA 0, n, .inl (fun _ => 0)) : va_E))]).Perm (w0 :: (q, .inl (cA 0, n, .inl (fun _ => 0))) :: ws) := (List.perm_append_singleton _ ws).cons w0
    exact kk q H1 ⟨vP_perm hP1 hp, vD_perm hD1 hp, hS1⟩
  · refine va_newa (atype := .byte) (ty := .byte) (a0 := (n, .inl (fun _ => 0))) hx hb (hts _ (sw_mk (i := 147) (by decide +kernel) (by decide +kernel))) rfl hK hS.1 hS.2.1 hS.2.2 hA (fun _ => rfl) (nI_pos (by omega)) (n_cl (by omega)) (show n * 1 ≤ 536870912 by omega) hc hs hd (fun q cA' H1 hK1 hP1 hD1 hS1 => ?_)
    have e1 := va_nm_byte (hK1.2 4 (cA', .byte) rfl).2
    have e2 := va_nm_byte (hK.2 1 (cA 1, .byte) rfl).2
    have e3 : cA' = cA 1 := Option.some.inj (e1.symm.trans e2)
    subst e3
    have hp : ((w0 :: ws) ++ [(q, (.inl (cA 1, n, .inl (fun _ => 0)) : va_E))]).Perm (w0 :: (q, .inl (cA 1, n, .inl (fun _ => 0))) :: ws) := (List.perm_append_singleton _ ws).cons w0
    exact kk q H1 ⟨vP_perm hP1 hp, vD_perm hD1 hp, hS1⟩
  · refine va_newa (atype := .boolean) (ty := .boolean) (a0 := (n, .inl (fun _ => 0))) hx hb (hts _ (sw_mk (i := 903) (by decide +kernel) (by decide +kernel))) rfl hK hS.1 hS.2.1 hS.2.2 hA (fun _ => rfl) (nI_pos (by omega)) (n_cl (by omega)) (show n * 1 ≤ 536870912 by omega) hc hs hd (fun q cA' H1 hK1 hP1 hD1 hS1 => ?_)
    have e1 := va_nm_boolean (hK1.2 4 (cA', .boolean) rfl).2
    have e2 := va_nm_boolean (hK.2 2 (cA 2, .boolean) rfl).2
    have e3 : cA' = cA 2 := Option.some.inj (e1.symm.trans e2)
    subst e3
    have hp : ((w0 :: ws) ++ [(q, (.inl (cA 2, n, .inl (fun _ => 0)) : va_E))]).Perm (w0 :: (q, .inl (cA 2, n, .inl (fun _ => 0))) :: ws) := (List.perm_append_singleton _ ws).cons w0
    exact kk q H1 ⟨vP_perm hP1 hp, vD_perm hD1 hp, hS1⟩
theorem k_newq (X : kX p s m args c cc n0 own D cA A) {n ix : Nat} (hn : n < 10000) (hl : Cond.classLink own ix "NetLaw$Image" ∈ a_tb) (hS : kS D A s.heap (w0 :: ws) H locs) (hc : cells + 1 ≤ R.cells) (hs : slots + n ≤ R.slots) (hd : decode cc pc = .ok (.anewarray ix, 3))
    (kk : ∀ (q : Nat) (H1 : Heap), kS D A s.heap (w0 :: (q, .inl (cA 3, n, .inr (.inr (.inr (.inr (fun _ => none)))))) :: ws) H1 locs → W p l e R s m args below meth c H1 locs (cells + 1) (slots + n) Q (F0 m (pc + 3) ls (.ref q :: rest))) : W p l e R s m args below meth c H locs cells slots Q (F0 m pc ls (.int (nI n) :: rest)) := by
  obtain ⟨hx, hb, hml, hown, hts, hK, hA, hN⟩ := X
  refine va_newq hx hb hown (hts _ hl) hN.2 hK hS.1 hS.2.1 hS.2.2 hA (nI_pos (by omega)) (n_cl (by omega)) (by omega) hc hs hd (fun q cA' H1 hK1 hP1 hD1 hS1 => ?_)
  have e1 := va_nmO (hK1.2 4 (cA', .object "NetLaw$Image") rfl).2 rfl
  have e2 := va_nmO (hK.2 3 (cA 3, .object "NetLaw$Image") rfl).2 rfl
  have e3 : cA' = cA 3 := Option.some.inj (e1.symm.trans e2)
  subst e3
  have hp : ((w0 :: ws) ++ [(q, (.inl (cA 3, n, .inr (.inr (.inr (.inr (fun _ => none))))) : va_E))]).Perm (w0 :: (q, .inl (cA 3, n, .inr (.inr (.inr (.inr (fun _ => none)))))) :: ws) := (List.perm_append_singleton _ ws).cons w0
  exact kk q H1 ⟨vP_perm hP1 hp, vD_perm hD1 hp, hS1⟩
theorem k_newo (X : kX p s m args c cc n0 own D cA A) {ci N ix : Nat} {C : String} {T : u_T} (hci : vwCl[ci]? = some (C, T, N)) (hin : ∀ w ∈ u_ws C T N, w ∈ a_tb) (ty : Nat → FieldType) (hty : ∀ k, k < N → parseFieldDescriptor (T k).2.2.1 = some (ty k)) (hl : Cond.classLink own ix C ∈ a_tb) (hi : Cond.instantiable C N ∈ a_tb) (hini : Cond.initialized C ∈ a_tb) {fs : List Value} (hfs : ∀ j, j < N → defaultValue (ty j) = vp_V fs j) (hS : kS D A s.heap ws H locs) (hc : cells + 1 ≤ R.cells) (hs : slots + N ≤ R.slots) (hd : decode cc pc = .ok (.new ix, 3))
    (kk : ∀ (q : Nat) (H1 : Heap), kS D A s.heap ((q, .inr (ci, fs)) :: ws) H1 locs → W p l e R s m args below meth c H1 locs (cells + 1) (slots + N) Q (F0 m (pc + 3) ls (.ref q :: rest))) : W p l e R s m args below meth c H locs cells slots Q (F0 m pc ls rest) := by
  obtain ⟨hx, hb, hml, hown, hts, hK, hA, hN⟩ := X
  refine va_new (C := C) (T := T) (N := N) hx hb hts hin ty hty hown (hts _ hl) (hts _ hi) (hts _ hini) hK hS.1 hS.2.1 hS.2.2 hA hci hfs hc hs hd (fun q H1 hP1 hD1 hS1 => ?_)
  have hp : (ws ++ [(q, (.inr (ci, fs) : va_E))]).Perm ((q, .inr (ci, fs)) :: ws) := List.perm_append_singleton _ ws
  exact kk q H1 ⟨vP_perm hP1 hp, vD_perm hD1 hp, hS1⟩
theorem k_putF (X : kX p s m args c cc n0 own D cA A) {ci N ix h : Nat} {C ref : String} {T : u_T} (hci : vwCl[ci]? = some (C, T, N)) (hin : ∀ w ∈ u_ws C T N, w ∈ a_tb) (ty : Nat → FieldType) (hty : ∀ k, k < N → parseFieldDescriptor (T k).2.2.1 = some (ty k)) (hnm : ∀ a, a < N → ∀ b, b < N → a ≠ b → (T a).2.1 ≠ (T b).2.1) {fs : List Value} (hS : kS D A s.heap ((h, .inr (ci, fs)) :: ws) H locs) (k : Nat) (hk : k < N) (hl : Cond.fieldLink own ix ref (T k).2.1 (T k).2.2.1 ∈ a_tb) (href : (T k).1 = ref) (hfin : (T k).2.2.2 = true) (hi : meth.name = "<init>") (hdecl : (T k).1 = own) {q : Nat} (hn : narrow (ty k) (.ref q) = .ref q) (hfit : fits (ty k) (.ref q) = true) (hlen : k < fs.length) (hd : decode cc pc = .ok (.putfield ix, 3))
    (kk : ∀ (H1 : Heap) (locs1 : List Loc), kS D A s.heap ((h, .inr (ci, fs.set k (.ref q))) :: ws) H1 locs1 → W p l e R s m args below meth c H1 locs1 cells slots Q (F0 m (pc + 3) ls rest)) : W p l e R s m args below meth c H locs cells slots Q (F0 m pc ls (.ref q :: .ref h :: rest)) := by
  obtain ⟨hx, hb, hml, hown, hts, hK, hA, hN⟩ := X
  exact va_putF (C := C) (T := T) (N := N) (ref := ref) hx hb hts hin ty hty hnm hown hK hS.1 hS.2.1 hS.2.2 0 rfl hci k hk (hts _ hl) (fun x z => by rw [← href]; exact z) hfin hi hdecl (hty k hk) hn hfit hlen hd (fun H1 locs1 hP1 hD1 hS1 => kk H1 locs1 ⟨hP1, hD1, hS1⟩)
theorem k_put (X : kX p s m args c cc n0 own D cA A) {ci N ix h : Nat} {C ref : String} {T : u_T} (hci : vwCl[ci]? = some (C, T, N)) (hin : ∀ w ∈ u_ws C T N, w ∈ a_tb) (ty : Nat → FieldType) (hty : ∀ k, k < N → parseFieldDescriptor (T k).2.2.1 = some (ty k)) (hnm : ∀ a, a < N → ∀ b, b < N → a ≠ b → (T a).2.1 ≠ (T b).2.1) {fs : List Value} (hS : kS D A s.heap ((h, .inr (ci, fs)) :: ws) H locs) (k : Nat) (hk : k < N) (hl : Cond.fieldLink own ix ref (T k).2.1 (T k).2.2.1 ∈ a_tb) (href : (T k).1 = ref) (hfin : (T k).2.2.2 = false) {v : Value} (hn : narrow (ty k) v = v) (hfit : fits (ty k) v = true) (hlen : k < fs.length) (hd : decode cc pc = .ok (.putfield ix, 3))
    (kk : ∀ (H1 : Heap) (locs1 : List Loc), kS D A s.heap ((h, .inr (ci, fs.set k v)) :: ws) H1 locs1 → W p l e R s m args below meth c H1 locs1 cells slots Q (F0 m (pc + 3) ls rest)) : W p l e R s m args below meth c H locs cells slots Q (F0 m pc ls (v :: .ref h :: rest)) := by
  obtain ⟨hx, hb, hml, hown, hts, hK, hA, hN⟩ := X
  exact va_put (C := C) (T := T) (N := N) (ref := ref) hx hb hts hin ty hty hnm hown hK hS.1 hS.2.1 hS.2.2 0 rfl hci k hk (hts _ hl) (fun x z => by rw [← href]; exact z) hfin (hty k hk) hn hfit hlen hd (fun H1 locs1 hP1 hD1 hS1 => kk H1 locs1 ⟨hP1, hD1, hS1⟩)
end ctor
/-! contracts of constructors, and of methods that fill a row -/
def kPm (D : va_G) (cA : Nat → ClassId) (A : Nat → Prop) (as : List Value) (ws : va_W) : Array Value → State → Prop := va_Pc as (fun U => va_P D vwCl ws U.heap ∧ va_K D vwCl (a_tys cA) U ∧ va_D A ws ∧ (∀ q, U.heap.size ≤ q → A q) ∧ kN U)
def kQm (D : va_G) (A : Nat → Prop) (Rl : va_W → Prop) : Array Value → State → Outcome → State → Prop := fun _ st oc t => oc = .returned none ∧ (∃ ws' : va_W, Rl ws' ∧ va_P D vwCl ws' t.heap ∧ va_D A ws') ∧ va_F A st t
theorem kPm_blind {D : va_G} {cA : Nat → ClassId} {A : Nat → Prop} {as : List Value} {ws : va_W} : FrameBlind (kPm D cA A as ws) := fun a U g mk q => ⟨q.1, q.2.1, va_K.moved (u := U) (U := U.calling g mk a) (Vm.Alike.refl U.vm) q.2.2.1, q.2.2.2.1, q.2.2.2.2.1, q.2.2.2.2.2.call⟩
theorem k_call {p : Program} {l : Launch} {e : Env} {R : Room} {s : State} {m : MethodId} {args : Array Value} {below : List Frame} {meth : Method} {c : Code} {D : va_G} {A : Nat → Prop} {H : Heap} {locs : List Loc} {cells slots mc ms : Nat} {lsC : Array Slot} {Q : State → Prop} {pc : Nat} {st0 rest : List Value} {Rl : va_W → Prop} {aa : Array Value}
    (hr : va_Run p l e R s m args below meth c H locs cells slots mc ms (F0 m pc lsC st0) rest (kQm D A Rl aa) A) (hS : va_S A s.heap H locs)
    (kk : ∀ (ws' : va_W) (H' : Heap) (locs' : List Loc), Rl ws' → kS D A s.heap ws' H' locs' → W p l e R s m args below meth c H' locs' (cells + mc) (slots + ms) Q (F0 m (pc + 3) lsC rest)) : W p l e R s m args below meth c H locs cells slots Q (F0 m pc lsC st0) := by
  intro T hT X
  obtain ⟨vv, st₀, t, T', L, h0, X', hL, e1, e2, ⟨hv, ⟨ws', hR, hP, hD⟩, hz, hk⟩, st⟩ := hr T hT X
  cases hv
  rw [h0] at hz hk
  obtain ⟨t2, a1, b1⟩ := kk ws' T'.heap (locs ++ L) hR ⟨by rw [e1]; exact hP, hD, Nat.le_trans hS.1 (by rw [e1]; exact hz), fun q h1 h2 => by rw [e1, hk q (Nat.lt_of_lt_of_le h1 hS.1) h2]; exact hS.2.1 q h1 h2, fun q hq => by
      rcases List.mem_append.mp hq with h | h
      · exact hS.2.2 q h
      · exact hL q h⟩ T' rfl X'
  exact ⟨t2, st t2 a1, b1⟩
def k_rm (f l c s : Nat) : Room := { frames := f, cells := c, slots := s, locals := l }
def kCon (l : Launch) (D : va_G) (cA : Nat → ClassId) (A : Nat → Prop) (y : MethodName) (cy : ByteArray) (n1 : Nat) (rm : Room) (ci : Nat) (fs0 : List Value) (Rl : Nat → va_W → va_W → Prop) : Prop := ∀ (h : Nat) (ws : va_W), Met l y (s_ws y cy n1 none) rm (kPm D cA A [.ref h] ((h, .inr (ci, fs0)) :: ws)) (kQm D A (Rl h ws)) rm.cells rm.slots A
section ctor2
variable {p : Program} {l : Launch} {e : Env} {R : Room} {s : State} {m : MethodId} {args : Array Value} {below : List Frame} {meth : Method} {c : Code} {H : Heap} {locs : List Loc} {cells slots : Nat} {Q : State → Prop} {cc : ByteArray} {n0 : Nat} {own : String} {D : va_G} {cA : Nat → ClassId} {A : Nat → Prop} {ws : va_W} {pc : Nat} {ls : Array Slot} {rest : List Value}
theorem k_pre {as : List Value} (X : kX p s m args c cc n0 own D cA A) (hS : kS D A s.heap ws H locs) : PreS s H (kPm D cA A as ws) as := by
  obtain ⟨hx, hb, hml, hown, hts, hK, hA, hN⟩ := X
  exact ⟨kPm_blind, fun U hU hW => ⟨rfl, by rw [hU]; exact hS.1, va_K.moved hW.alike hK, hS.2.1, fun q hq => hA q (Nat.le_trans hS.2.2.1 (by rw [← hU]; exact hq)), hN.go hW⟩⟩
theorem k_init (X : kX p s m args c cc n0 own D cA A) {y : MethodName} {cy : ByteArray} {n1 ci ix q : Nat} {rm : Room} {fs0 : List Value} {Rl : Nat → va_W → va_W → Prop} (hM : kCon l D cA A y cy n1 rm ci fs0 Rl) (hcode : Cond.code y cy n1 none ∈ a_tb) (hini : Cond.initialized y.cls ∈ a_tb) (hl : Cond.methodLink own ix y ∈ a_tb) (hi : Cond.instanceMethod y ∈ a_tb) (hy : y.name = "<init>" ∧ (y.cls ≠ "java/lang/invoke/MethodHandle" ∧ y.cls ≠ "java/lang/invoke/VarHandle" ∧ (parseMethodDescriptor y.desc).map (fun d => d.parameters.length) = some 0)) (hR : rm.frames + 1 ≤ R.frames ∧ 8 + (n1 + 11) + rm.locals ≤ R.locals) (hL : ls.size = n0) (hcat : (rest.map fun v => v.category).sum ≤ 8) (hc : cells + rm.cells ≤ R.cells ∧ slots + rm.slots ≤ R.slots) (hd : decode cc pc = .ok (.invokespecial ix, 3)) (hS : kS D A s.heap ((q, .inr (ci, fs0)) :: ws) H locs)
    (kk : ∀ (ws' : va_W) (H' : Heap) (locs' : List Loc), Rl q ws ws' → kS D A s.heap ws' H' locs' → W p l e R s m args below meth c H' locs' (cells + rm.cells) (slots + rm.slots) Q (F0 m (pc + 3) ls rest)) : W p l e R s m args below meth c H locs cells slots Q (F0 m pc ls (.ref q :: rest)) := by
  have X' := X
  obtain ⟨hx, hb, hml, hown, hts, hK, hA, hN⟩ := X
  exact k_call (va_runI (As := []) (rest := rest) ⟨hx, hb, hml, hown, hts⟩ (hM q ws) ⟨callB_of 0 hts (s_good hcode) rfl rfl rfl (hts _ hini) (hts _ hl) hy.2 hR, hy.1, hts _ hi⟩ (k_pre X' hS) rfl rfl hL rfl (lv_room hcat) hd hc) hS.2.2 kk
theorem k_initN (X : kX p s m args c cc n0 own D cA A) {y : MethodName} {cy : ByteArray} {n1 ci ix q : Nat} {rm : Room} {fs0 : List Value} {Rl : Nat → va_W → va_W → Prop} {host : String} (hM : kCon l D cA A y cy n1 rm ci fs0 Rl) (hcode : Cond.code y cy n1 none ∈ a_tb) (hini : Cond.initialized y.cls ∈ a_tb) (hl : (own, ix, y, host) ∈ k_nest) (hi : Cond.instanceMethod y ∈ a_tb) (hy : y.name = "<init>" ∧ (y.cls ≠ "java/lang/invoke/MethodHandle" ∧ y.cls ≠ "java/lang/invoke/VarHandle" ∧ (parseMethodDescriptor y.desc).map (fun d => d.parameters.length) = some 0)) (hR : rm.frames + 1 ≤ R.frames ∧ 8 + (n1 + 11) + rm.locals ≤ R.locals) (hL : ls.size = n0) (hcat : (rest.map fun v => v.category).sum ≤ 8) (hc : cells + rm.cells ≤ R.cells ∧ slots + rm.slots ≤ R.slots) (hd : decode cc pc = .ok (.invokespecial ix, 3)) (hS : kS D A s.heap ((q, .inr (ci, fs0)) :: ws) H locs)
    (kk : ∀ (ws' : va_W) (H' : Heap) (locs' : List Loc), Rl q ws ws' → kS D A s.heap ws' H' locs' → W p l e R s m args below meth c H' locs' (cells + rm.cells) (slots + rm.slots) Q (F0 m (pc + 3) ls rest)) : W p l e R s m args below meth c H locs cells slots Q (F0 m pc ls (.ref q :: rest)) := by
  have X' := X
  obtain ⟨hx, hb, hml, hown, hts, hK, hA, hN⟩ := X
  exact k_call (va_runIN (Ts := a_tb) (host := host) (As := []) (rest := rest) ⟨hx, hb, hml, hown, hts⟩ (hM q ws) ⟨⟨⟨rfl, rfl, hR.1, hR.2, pay_in hts (s_good hcode), List.mem_cons_self⟩, hts _ hcode, hts _ hini, ⟨hy.2.1, hy.2.2.1⟩, fun sig h => by have h2 := hy.2.2.2; rw [h] at h2; exact (Option.some.inj h2).symm, va_Nw.use rfl (hN.1 _ hl)⟩, hy.1, hts _ hi⟩ (k_pre X' hS) rfl rfl hL rfl (lv_room hcat) hd hc) hS.2.2 kk
theorem k_obj (X : kX p s m args c cc n0 own D cA A) {ix q : Nat} (hl : Cond.methodLink own ix objectInit ∈ a_tb) (hL : ls.size = n0) (hd : decode cc pc = .ok (.invokespecial ix, 3)) (hf : 1 ≤ R.frames) (hlo : 12 ≤ R.locals)
    (kk : W p l e R s m args below meth c H locs cells slots Q (F0 m (pc + 3) ls [])) : W p l e R s m args below meth c H locs cells slots Q (F0 m pc ls [.ref q]) := by
  obtain ⟨hx, hb, hml, hown, hts, hK, hA, hN⟩ := X
  refine W.objInit hx hb hown (hts _ hl) (hts _ (sw_mk (i := 24) (by decide +kernel) (by decide +kernel))) (hts _ (sw_mk (i := 25) (by decide +kernel) (by decide +kernel))) rfl (by rw [hml]; exact hL) rfl hd hf (by simpa [F0] using hlo) ?_
  exact kk
end ctor2
