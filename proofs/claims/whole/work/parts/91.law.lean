/-! the law: its words (the skeleton's), what one call needs -/
def R_law : String := "NetLawLaw"
def lw_P (b : Addr) (xs : List Int32) (args : Array Value) (s : State) : Prop := args = #[.ref b] ∧ s.IntsAt b xs ∧ xs.length ≤ 320 ∧ (Jvm.Cond.and given_1 narrow_1).before args s = true
def lw_Q (_ : Array Value) (s : State) (o : Outcome) (t : State) : Prop := o = .returned (some (.int 1)) ∧ Framed s o t [] 600000 7302250
def lw_Z (below : List Frame) (a : Array Value) (s : State) : State → Prop := fun t => ∃ o, t.status = .running ∧ Ended t below o ∧ lw_Q a s o t
/-- the law's own end, with 1 on the stack, nothing written that was there before, its room as the claim has it -/
theorem lw_ret {p : Program} {l : Launch} {e : Env} {s : State} {m : MethodId} {below : List Frame} {meth : Method} {c : Code} {b : Nat} (hx : p.tables.exec = Jvm.exec) (hb : c.code = code) (hr : meth.sig.returnType = ret) (hlocks : meth.locks = false) {pc : Nat} {H : Heap} {ls : Array Slot} (hdg : decode code pc = .ok (.ireturn, 1)) : W p l e room_1 s m #[Value.ref b] below meth c H [] 600000 7302250 (lw_Z below #[Value.ref b] s) (F0 m pc ls [.int 1]) := by
  intro T hT X
  obtain ⟨fs, hret, hrun, hended, hW, hframe⟩ := X.leave (v := some (.int 1)) (hlocks := hlocks) (fun h => by rw [hr] at h; cases h)
  have hmeth' : T.vm.method? m = some meth := X.method'
  refine ⟨T.setFrames fs, ?_, .returned (some (.int 1)), hrun, hended, rfl, ⟨_, rfl⟩, hW, hframe⟩
  jvm_step X.here [X.here.top, hx, hb, hdg, hmeth', hr, ret, narrow_b1]
  (try refine ⟨rfl, ?_⟩); (try refine ⟨rfl, ?_⟩)
  first | (intro acts; rw [hret _ acts rfl rfl rfl]) | rw [hret _ _ rfl rfl rfl]
  exact Steps.refl _
/-- what holds at the law's entry: the machine, the code, the tables' words (any of lw_tbl by 'hts w (by decide +kernel)'), the script of L ints xs at the cell b, what the Statement gives of the start (any of its parts by flat_of_before) -/
def lw_At (p : Program) (s : State) (m : MethodId) (meth : Method) (c : Code) (b L : Nat) (xs : Nat → Int32) : Prop :=
  p.tables.exec = Jvm.exec ∧ c.code = code ∧ meth.sig.returnType = ret ∧ c.maxLocals = 4 ∧ s.vm.findClass R_law = some m.cls ∧ (∀ w ∈ lw_tbl, w.before #[Value.ref b] s = true) ∧ va_X b L xs s s.heap ∧ b < s.heap.size ∧ meth.locks = false ∧ (Jvm.Cond.and given_1 narrow_1).before #[Value.ref b] s = true

def lC (p : Program) (s : State) (m : MethodId) (c : Code) (b L : Nat) (xs : Nat → Int32) (D : va_G) (cA : Nat → ClassId) (ad : Nat → Nat) (A : Nat → Prop) : Prop := p.tables.exec = Jvm.exec ∧ c.code = code ∧ c.maxLocals = 4 ∧ s.vm.findClass "NetLawLaw" = some m.cls ∧ (∀ w ∈ a_tb, w.before #[Value.ref b] s = true) ∧ va_X b L xs s s.heap ∧ b < s.heap.size ∧ ¬ A b ∧ va_K D vwCl (a_tys cA) s ∧ a_ST ad A s s.heap ∧ L ≤ 320
section law1
variable {p : Program} {l : Launch} {e : Env} {R : Room} {s : State} {m : MethodId} {below : List Frame} {meth : Method} {c : Code} {H : Heap} {locs : List Loc} {cells slots : Nat} {Q : State → Prop} {b L : Nat} {xs : Nat → Int32} {D : va_G} {cA : Nat → ClassId} {ad : Nat → Nat} {A : Nat → Prop} {pc : Nat} {ls : Array Slot} {rest : List Value}
theorem l_arg (C : lC p s m c b L xs D cA ad A) {k j : Nat} {jj : Int} (hk : 5 * k + j < L) (hl : lv_has ls 4 [(3, .int (nI (5 * k))), (0, .ref b), (1, .ref (ad 0)), (2, .ref (ad 61))]) (hS : va_S A s.heap H locs) (hj : Int32.ofInt jj = nI j) (d0 : decode code pc = .ok (.aload_n 0, 1)) (d1 : decode code (pc + 1) = .ok (.iload_n 3, 1)) (d2 : decode code (pc + 2) = .ok (.iconst jj, 1)) (d3 : decode code (pc + 3) = .ok (.iadd, 1)) (d4 : decode code (pc + 4) = .ok (.iaload, 1))
    (kk : W p l e R s m #[Value.ref b] below meth c H locs cells slots Q (F0 m (pc + 5) ls (.int (xs (5 * k + j)) :: rest))) : W p l e R s m #[Value.ref b] below meth c H locs cells slots Q (F0 m pc ls rest) := by
  obtain ⟨hx, hb, hml, hown, hts, hX, hbl, hbA, hK, hZ, hL⟩ := C
  refine lv_aload_n hx hb d0 rfl (lv_at hl 1 rfl) ?_
  refine lv_iload_n hx hb d1 rfl (lv_at hl 0 rfl) ?_
  refine lv_iconst (v := nI j) hx hb d2 hj ?_
  refine lv_iadd hx hb d3 ?_
  rw [nI_add]
  refine va_sld hx hb hX hbl hbA hS (vp_in_nI hk (by omega)) d4 ?_
  rw [n_cl (by omega)]
  exact kk
theorem a_callK {args : Array Value} {σ σ' : a_HP} {lsC : Array Slot} {st0 : List Value} {v : Option Value} {aa : Array Value}
    (hr : va_Run p l e R s m args below meth c H locs cells slots 0 0 (F0 m pc lsC st0) rest (a_Qm D ad cA A v σ' aa) A) (hS : a_SR D ad cA A s.heap σ H locs)
    (kk : ∀ (H' : Heap) (locs' : List Loc), a_SR D ad cA A s.heap σ' H' locs' → W p l e R s m args below meth c H' locs' cells slots Q (F0 m (pc + 3) lsC ((v.map (a_cv ad)).toList ++ rest))) : W p l e R s m args below meth c H locs cells slots Q (F0 m pc lsC st0) := by
  intro T hT X
  obtain ⟨vv, st₀, t, T', L, h0, X', hL, e1, e2, ⟨hv, hP, hz, hk⟩, st⟩ := hr T hT X
  cases hv
  rw [h0] at hz hk
  obtain ⟨t2, a1, b1⟩ := kk T'.heap (locs ++ L) ⟨by rw [e1]; exact hP, a_D_any hS.2.1, Nat.le_trans hS.2.2.1 (by rw [e1]; exact hz), fun q h1 h2 => by rw [e1, hk q (Nat.lt_of_lt_of_le h1 hS.2.2.1) h2]; exact hS.2.2.2.1 q h1 h2, fun q hq => by
      rcases List.mem_append.mp hq with h | h
      · exact hS.2.2.2.2 q h
      · exact hL q h⟩ T' rfl X'
  exact ⟨t2, st t2 a1, b1⟩
theorem l_call (C : lC p s m c b L xs D cA ad A) {y n ix ci cell : Nat} {as : List Value} {σ σ' : a_HP} {v : Option Value} {q : vw_C} {fl : List Nat} (hM : a_Met l D ad cA A y (.ref cell :: as) σ v σ') (hci : vwCl[ci]? = some q) (hla : a_lay cell = some (.inr (ci, fl))) (hm : a_Mk y n) (hi : Cond.instanceMethod (a_nm y) ∈ a_tb) (hse : Cond.selects q.1 (a_nm y) (a_nm y) ∈ a_tb) (hl : Cond.methodLink "NetLawLaw" ix (a_nm y) ∈ a_tb) (hR : (a_rm y).frames + 1 ≤ R.frames ∧ 8 + (a_ml y + 11) + (a_rm y).locals ≤ R.locals) (hn : as.length = n) (hcat : (rest.map fun v => v.category).sum ≤ 8) (hL4 : ls.size = 4) (hcs : cells ≤ R.cells ∧ slots ≤ R.slots) (hS : a_SR D ad cA A s.heap σ H locs) (hd : decode code pc = .ok (.invokevirtual ix, 3)) {st : List Value} (hst : st = (as.map (a_cv ad)).reverse ++ .ref (ad cell) :: rest)
    (kk : ∀ (H' : Heap) (locs' : List Loc), a_SR D ad cA A s.heap σ' H' locs' → W p l e R s m #[Value.ref b] below meth c H' locs' cells slots Q (F0 m (pc + 3) ls ((v.map (a_cv ad)).toList ++ rest))) : W p l e R s m #[Value.ref b] below meth c H locs cells slots Q (F0 m pc ls st) := by
  obtain ⟨hx, hb, hml, hown, hts, hX, hbl, hbA, hK, hZ, hL⟩ := C
  have hat := a_W_at (ad := ad) (cA := cA) (σ := σ) (a_lay_lt hla)
  rw [a_cell_obj hla (a_99 hci)] at hat
  exact a_callK (va_runV (C := q.1) (As := as.map (a_cv ad)) (rest := rest) ⟨hx, hb, hml, hown, hts⟩ hM ⟨callB_of n hts (a_ws_good hm) rfl rfl rfl (hts _ hm.2.1) (hts _ hl) hm.2.2 hR, hts _ hi, hts _ hse⟩ ⟨a_Pm_blind, va_recv hK hS.1 hci hat, fun U hU hW => ⟨rfl, by rw [hU]; exact hS.1, va_K.moved hW.alike hK, hS.2.1, hZ.go hS.2.2 hW hU⟩⟩ rfl (by simp [hn]) hL4 hst (lv_room hcat) hd ⟨hcs.1, hcs.2⟩) hS kk
end law1
