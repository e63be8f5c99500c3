theorem a_pk_spec : ∀ (k : Nat) (as st as' r : List Value), a_pk k as st = some (as', r) → ∃ us : List Value, us.length = k ∧ st = us ++ r ∧ as' = us.reverse ++ as
  | 0, as, st, as', r, h => by
    simp only [a_pk, Option.some.injEq, Prod.mk.injEq] at h
    exact ⟨[], rfl, by simp [h.2], by simp [h.1]⟩
  | k + 1, as, [], as', r, h => by simp [a_pk] at h
  | k + 1, as, v :: st, as', r, h => by
    obtain ⟨us, h1, h2, h3⟩ := a_pk_spec k (v :: as) st as' r (by simpa [a_pk] using h)
    exact ⟨v :: us, by simp [h1], by simp [h2], by simp [h3]⟩
theorem a_cats (ad : Nat → Nat) : ∀ r : List Value, (((r.map (a_cv ad)).map fun v => v.category)).sum ≤ a_cw r
  | [] => by simp [a_cw]
  | v :: r => by
    have := a_cats ad r
    have h2 : (a_cv ad v).category ≤ a_c1 v := by cases v <;> simp [a_cv, a_c1, Value.category]
    simp only [List.map_cons, List.sum_cons, a_cw]
    omega
theorem a_Pm_blind {D : va_G} {ad : Nat → Nat} {cA : Nat → ClassId} {A : Nat → Prop} {as : List Value} {σ : a_HP} : FrameBlind (a_Pm D ad cA A as σ) := fun a U g mk q => ⟨q.1, q.2.1, va_K.moved (u := U) (U := U.calling g mk a) (Vm.Alike.refl U.vm) q.2.2.1, q.2.2.2.1, a_ST.call q.2.2.2.2⟩
theorem a_call {p : Program} {l : Launch} {e : Env} {R : Room} {s : State} {m : MethodId} {args : Array Value} {below : List Frame} {meth : Method} {c : Code} {D : va_G} {cA : Nat → ClassId} {ad : Nat → Nat} {A : Nat → Prop} {σ σ' : a_HP} {H : Heap} {locs : List Loc} {lsC : Array Slot} {Q : State → Prop} {pc : Nat} {st0 rest : List Value} {v : Option Value} {aa : Array Value}
    (hr : va_Run p l e R s m args below meth c H locs 0 0 0 0 (F0 m pc lsC st0) rest (a_Qm D ad cA A v σ' aa) A) (hS : a_SR D ad cA A s.heap σ H locs)
    (kk : ∀ (H' : Heap) (locs' : List Loc), a_SR D ad cA A s.heap σ' H' locs' → W p l e R s m args below meth c H' locs' 0 0 Q (F0 m (pc + 3) lsC ((v.map (a_cv ad)).toList ++ rest))) : W p l e R s m args below meth c H locs 0 0 Q (F0 m pc lsC st0) := by
  intro T hT X
  obtain ⟨vv, st₀, t, T', L, h0, X', hL, e1, e2, ⟨hv, hP, hz, hk⟩, st⟩ := hr T hT X
  cases hv
  rw [h0] at hz hk
  obtain ⟨t2, a1, b1⟩ := kk T'.heap (locs ++ L) ⟨by rw [e1]; exact hP, a_D_any hS.2.1, Nat.le_trans hS.2.2.1 (by rw [e1]; exact hz), fun q h1 h2 => by rw [e1, hk q (Nat.lt_of_lt_of_le h1 hS.2.2.1) h2]; exact hS.2.2.2.1 q h1 h2, fun q hq => by
      rcases List.mem_append.mp hq with h | h
      · exact hS.2.2.2.2 q h
      · exact hL q h⟩ T' rfl X'
  exact ⟨t2, st t2 a1, b1⟩
theorem a_vmap (ad : Nat → Nat) (v : Option Value) (r : List Value) : (v.toList ++ r).map (a_cv ad) = (v.map (a_cv ad)).toList ++ r.map (a_cv ad) := by cases v <;> rfl
/-- what a callee's own words are -/
def a_Mk (y : Nat) (k : Nat) : Prop := Cond.code (a_nm y) (a_cd y) (a_ml y) (a_rt y) ∈ a_tb ∧ Cond.initialized (a_nm y).cls ∈ a_tb ∧ ((a_nm y).cls ≠ "java/lang/invoke/MethodHandle" ∧ (a_nm y).cls ≠ "java/lang/invoke/VarHandle" ∧ (parseMethodDescriptor (a_nm y).desc).map (fun d => d.parameters.length) = some k)
def a_Rk (y y' : Nat) : Prop := (a_rm y').frames + 1 ≤ (a_rm y).frames ∧ 8 + (a_ml y' + 11) + (a_rm y').locals ≤ (a_rm y).locals
theorem a_ws_good {y k : Nat} (h : a_Mk y k) : GoodIn a_tb (a_ws y) := fun w hw => by
  rcases List.mem_cons.mp hw with rfl | hw
  · exact a_tb_good _ h.1
  · exact a_tb_good w hw
theorem s_ivs {y pc n y' k ix : Nat} (hm : a_Mk y' k) (hst : Cond.static (a_nm y') ∈ a_tb) (hl : Cond.methodLink (a_nm y).cls ix (a_nm y') ∈ a_tb) (hR : a_Rk y y') (hd : decode (a_cd y) pc = .ok (.invokestatic ix, 3)) (hn : pc + 3 = n) : a_Snd y pc (o_ivs y' k n) := by
  intro p l e s m args below meth c D cA ad A hC ls st σ H locs lsC Q hL hS
  obtain ⟨hx, hb, hml, hown, hts, hK, hZ⟩ := hC
  subst hn
  unfold o_ivs
  split
  · rename_i as r hpk
    split
    · rename_i hr4
      intro v σ' hM kk
      obtain ⟨us, hu1, hu2, hu3⟩ := a_pk_spec _ _ _ _ _ hpk
      rw [List.append_nil] at hu3
      have hca := a_cats ad r
      refine a_call (va_runS (As := as.map (a_cv ad)) (rest := r.map (a_cv ad)) ⟨hx, hb, hml, hown, hts⟩ hM ⟨callB_of k hts (a_ws_good hm) rfl rfl rfl (hts _ hm.2.1) (hts _ hl) hm.2.2 hR, hts _ hst⟩ ⟨a_Pm_blind, fun U hU hW => ⟨rfl, by rw [hU]; exact hS.1, va_K.moved hW.alike hK, hS.2.1, hZ.go hS.2.2 hW hU⟩⟩ rfl (by rw [hu3]; simp [hu1]) hL.1 (by rw [hu2, hu3]; simp) (lv_room (by omega)) hd ⟨Nat.le_refl _, Nat.le_refl _⟩) hS (fun H' locs' hS' => ?_)
      rw [← a_vmap]
      exact kk H' locs' hS'
    · trivial
  · trivial
theorem s_ivsN {y pc n y' k ix : Nat} {host : String} (hm : a_Mk y' k) (hst : Cond.static (a_nm y') ∈ a_tb) (hl : ((a_nm y).cls, ix, a_nm y', host) ∈ a_nest) (hR : a_Rk y y') (hd : decode (a_cd y) pc = .ok (.invokestatic ix, 3)) (hn : pc + 3 = n) : a_Snd y pc (o_ivs y' k n) := by
  intro p l e s m args below meth c D cA ad A hC ls st σ H locs lsC Q hL hS
  obtain ⟨hx, hb, hml, hown, hts, hK, hZ⟩ := hC
  subst hn
  unfold o_ivs
  split
  · rename_i as r hpk
    split
    · rename_i hr4
      intro v σ' hM kk
      obtain ⟨us, hu1, hu2, hu3⟩ := a_pk_spec _ _ _ _ _ hpk
      rw [List.append_nil] at hu3
      have hca := a_cats ad r
      refine a_call (va_runSN (As := as.map (a_cv ad)) (rest := r.map (a_cv ad)) (Ts := a_tb) ⟨hx, hb, hml, hown, hts⟩ hM ⟨⟨⟨rfl, rfl, hR.1, hR.2, pay_in hts (a_ws_good hm), List.mem_cons_self⟩, hts _ hm.1, hts _ hm.2.1, ⟨hm.2.2.1, hm.2.2.2.1⟩, fun sig h => by have h2 := hm.2.2.2.2; rw [h] at h2; exact (Option.some.inj h2).symm, va_Nw.use rfl (hZ.2.2.2.2 _ hl)⟩, hts _ hst, trivial⟩ ⟨a_Pm_blind, fun U hU hW => ⟨rfl, by rw [hU]; exact hS.1, va_K.moved hW.alike hK, hS.2.1, hZ.go hS.2.2 hW hU⟩⟩ rfl (by rw [hu3]; simp [hu1]) hL.1 (by rw [hu2, hu3]; simp) (lv_room (by omega)) hd ⟨Nat.le_refl _, Nat.le_refl _⟩) hS (fun H' locs' hS' => ?_)
      rw [← a_vmap]
      exact kk H' locs' hS'
    · trivial
  · trivial
theorem s_ivv {y pc n y' k ix ci : Nat} {q : vw_C} (hc : vwCl[ci]? = some q) (hm : a_Mk y' k) (hi : Cond.instanceMethod (a_nm y') ∈ a_tb) (hse : Cond.selects q.1 (a_nm y') (a_nm y') ∈ a_tb) (hl : Cond.methodLink (a_nm y).cls ix (a_nm y') ∈ a_tb) (hR : a_Rk y y') (hd : decode (a_cd y) pc = .ok (.invokevirtual ix, 3)) (hn : pc + 3 = n) : a_Snd y pc (o_ivv ci y' k n) := by
  intro p l e s m args below meth c D cA ad A hC ls st σ H locs lsC Q hL hS
  obtain ⟨hx, hb, hml, hown, hts, hK, hZ⟩ := hC
  subst hn
  unfold o_ivv
  split
  · rename_i a as r hpk
    split
    · rename_i ci' fl hla
      split
      · rename_i hci
        subst hci
        split
        · rename_i hr4
          intro v σ' hM kk
          obtain ⟨us, hu1, hu2, hu3⟩ := a_pk_spec _ _ _ _ _ hpk
          rw [List.append_nil] at hu3
          have hca := a_cats ad r
          have hat := a_W_at (ad := ad) (cA := cA) (σ := σ) (a_lay_lt hla)
          rw [a_cell_obj hla (a_99 hc)] at hat
          have hlen : as.length = k := by
            have := congrArg List.length hu3
            simp [hu1] at this
            exact this
          have hst : st.map (a_cv ad) = (as.map (a_cv ad)).reverse ++ .ref (ad a) :: r.map (a_cv ad) := by
            have h1 : us = as.reverse ++ [.ref a] := by
              rw [← List.reverse_reverse us, ← hu3]; simp
            rw [hu2, h1]
            simp [a_cv]
          refine a_call (va_runV (C := q.1) (As := as.map (a_cv ad)) (rest := r.map (a_cv ad)) ⟨hx, hb, hml, hown, hts⟩ hM ⟨callB_of k hts (a_ws_good hm) rfl rfl rfl (hts _ hm.2.1) (hts _ hl) hm.2.2 hR, hts _ hi, hts _ hse⟩ ⟨a_Pm_blind, va_recv hK hS.1 hc hat, fun U hU hW => ⟨rfl, by rw [hU]; exact hS.1, va_K.moved hW.alike hK, hS.2.1, hZ.go hS.2.2 hW hU⟩⟩ rfl (by simp [hlen]) hL.1 hst (lv_room (by omega)) hd ⟨Nat.le_refl _, Nat.le_refl _⟩) hS (fun H' locs' hS' => ?_)
          rw [← a_vmap]
          exact kk H' locs' hS'
        · trivial
      · trivial
    · trivial
  · trivial
theorem s_cpy {y pc n ix : Nat} (hl : Cond.methodLink (a_nm y).cls ix arraycopyName ∈ a_tb) (h1 : Cond.native arraycopyName ∈ a_tb) (h2 : Cond.static arraycopyName ∈ a_tb) (h3 : Cond.initialized "java/lang/System" ∈ a_tb) (hR : 1 ≤ (a_rm y).frames ∧ 8 + 18 ≤ (a_rm y).locals) (hd : decode (a_cd y) pc = .ok (.invokestatic ix, 3)) (hn : pc + 3 = n) : a_Snd y pc (o_cpy n) := by
  intro p l e s m args below meth c D cA ad A hC ls st σ H locs lsC Q hL hS
  obtain ⟨hx, hb, hml, hown, hts, hK, hZ⟩ := hC
  subst hn
  unfold o_cpy
  split
  · rename_i k dp b sp a r
    split
    · rename_i n0 n1 hla hlb
      split
      · rename_i hcp
        split
        · rename_i hr4
          simp only [a_cp, Bool.and_eq_true, Bool.not_eq_true', decide_eq_false_iff_not, decide_eq_true_eq] at hcp
          have hata := a_W_at (ad := ad) (cA := cA) (σ := σ) (a_lay_lt hla)
          rw [a_cell_arr hla] at hata
          have hatb := a_W_at (ad := ad) (cA := cA) (σ := σ) (a_lay_lt hlb)
          rw [a_cell_arr hlb] at hatb
          have hca := a_cats ad r
          have e1 : nativeFrameWords "java/lang/System" "arraycopy" 5 = 7 := by decide
          exact fun kk => va_copyi hx hb (hml.trans hL.1.symm) hown (hts _ hl) (hts _ h1) (hts _ h2) (hts _ h3) hK hS.1 hS.2.1 hS.2.2 a b 0 0 hata hatb rfl rfl rfl hcp.1 hcp.2.1 hcp.2.2.1 hcp.2.2.2.1 hcp.2.2.2.2 (fun _ _ => rfl) hR.1 (by rw [e1]; omega) hd (fun H1 locs1 g1 g2 g3 => by
            rw [a_W_wi hlb] at g1 g2
            exact kk H1 locs1 lsC hL ⟨g1, g2, g3⟩)
        · trivial
      · trivial
    · trivial
  · trivial
/-! switches -/
def a_mk (pc : Nat) : Int → List Int → List (Int32 × Nat)
  | _, [] => []
  | lo, o :: r => (Int32.ofInt lo, ((pc : Int) + o).toNat) :: a_mk pc (lo + 1) r
theorem a_of_ne {z : Int} {x : Int32} (h1 : -2147483648 ≤ z) (h2 : z < 2147483648) : x = Int32.ofInt z ↔ x.toInt = z := by
  have e : (Int32.ofInt z).toInt = z := by
    rw [Int32.toInt_ofInt]
    exact Int.bmod_eq_of_le (by show -((4294967296 : Nat) : Int) / 2 ≤ z; omega) (by show z < (((4294967296 : Nat) : Int) + 1) / 2; omega)
  rw [← Int32.toInt_inj, e]
theorem a_mk_out {pc d : Nat} {x : Int32} : ∀ (os : List Int) (lo : Int), -2147483648 ≤ lo → lo + os.length ≤ 2147483648 → (x.toInt < lo ∨ lo + os.length ≤ x.toInt) → a_swt (a_mk pc lo os) d x = d
  | [], _, _, _, _ => rfl
  | o :: r, lo, h1, h2, h => by
    simp only [List.length_cons] at h2 h
    simp only [a_mk, a_swt]
    rw [if_neg (by rw [a_of_ne h1 (by omega)]; omega)]
    exact a_mk_out r (lo + 1) (by omega) (by omega) (by omega)
theorem a_mk_in {pc d : Nat} {x : Int32} : ∀ (os : List Int) (lo : Int), -2147483648 ≤ lo → lo + os.length ≤ 2147483648 → lo ≤ x.toInt → x.toInt < lo + os.length → ∃ o, os[(x.toInt - lo).toNat]? = some o ∧ a_swt (a_mk pc lo os) d x = ((pc : Int) + o).toNat
  | [], lo, _, _, h3, h4 => by simp only [List.length_nil] at h4; omega
  | o :: r, lo, h1, h2, h3, h4 => by
    simp only [List.length_cons] at h2 h4
    by_cases hx : x.toInt = lo
    · refine ⟨o, by rw [hx, Int.sub_self]; rfl, ?_⟩
      simp only [a_mk, a_swt]
      rw [if_pos ((a_of_ne h1 (by omega)).mpr hx)]
    · obtain ⟨o', e1, e2⟩ := a_mk_in (pc := pc) (d := d) (x := x) r (lo + 1) (by omega) (by omega) (by omega) (by omega)
      refine ⟨o', ?_, ?_⟩
      · rw [show (x.toInt - lo).toNat = (x.toInt - (lo + 1)).toNat + 1 by omega]
        exact e1
      · simp only [a_mk, a_swt]
        rw [if_neg (by rw [a_of_ne h1 (by omega)]; exact hx)]
        exact e2
theorem s_tsw {y pc d len : Nat} {dflt lo hi : Int} {offs : Array Int} {sl : List (Int32 × Nat)} (hd : decode (a_cd y) pc = .ok (.tableswitch dflt lo hi offs, len)) (h0 : a_mk pc lo offs.toList = sl) (h1 : (pc : Int) + dflt = (d : Int)) (h2 : decide (-2147483648 ≤ lo) && (decide (lo + offs.toList.length ≤ 2147483648) && (decide (lo + offs.toList.length = hi + 1) && offs.toList.all (fun o => decide (0 ≤ (pc : Int) + o)))) = true) : a_Snd y pc (o_sw sl d) := by
  intro p l e s m args below meth c D cA ad A hC ls st σ H locs lsC Q hL hS
  obtain ⟨hx, hb, hml, hown, hts, hK, hZ⟩ := hC
  simp only [Bool.and_eq_true, decide_eq_true_eq] at h2
  obtain ⟨g1, g2, g3, g4⟩ := h2
  subst h0
  unfold o_sw
  split
  · rename_i x r
    rw [a_sw_t]
    intro kk
    have kk := kk H locs lsC hL hS
    by_cases hout : x.toInt < lo ∨ hi < x.toInt
    · refine lv_tableOut hx hb hd hout (tgt := d) h1 ?_
      rw [a_mk_out _ _ g1 g2 (by omega)] at kk
      exact kk
    · obtain ⟨o, e1, e2⟩ := a_mk_in (pc := pc) (d := d) (x := x) offs.toList lo g1 g2 (by omega) (by omega)
      have ho : offs[(x.toInt - lo).toNat]? = some o := by rw [← Array.getElem?_toList]; exact e1
      have hpos : 0 ≤ (pc : Int) + o := by
        have := List.all_eq_true.mp g4 o (List.mem_of_getElem? e1)
        simpa using this
      refine lv_tableIn hx hb hd (by omega) (by omega) ho (tgt := ((pc : Int) + o).toNat) (by omega) ?_
      rw [e2] at kk
      exact kk
  · trivial
def a_mkl (pc : Nat) : List (Int × Int) → List (Int32 × Nat)
  | [] => []
  | (k, o) :: r => (Int32.ofInt k, ((pc : Int) + o).toNat) :: a_mkl pc r
theorem a_mkl_off {pc d : Nat} {dflt : Int} {x : Int32} (hdf : (pc : Int) + dflt = (d : Int)) : ∀ (ps : List (Int × Int)), ps.all (fun q => decide (-2147483648 ≤ q.1) && (decide (q.1 < 2147483648) && decide (0 ≤ (pc : Int) + q.2))) = true → (pc : Int) + Op.lookupswitch.offset ps dflt x.toInt = (a_swt (a_mkl pc ps) d x : Int)
  | [], _ => by simpa [a_mkl, a_swt, Op.lookupswitch.offset_nil] using hdf
  | (k, o) :: r, h => by
    simp only [List.all_cons, Bool.and_eq_true, decide_eq_true_eq] at h
    obtain ⟨⟨h1, h2, h3⟩, h4⟩ := h
    rw [Op.lookupswitch.offset_cons]
    simp only [a_mkl, a_swt]
    by_cases hk : x.toInt = k
    · rw [if_pos ((a_of_ne h1 h2).mpr hk)]
      first
        | (rw [if_pos hk]; omega)
        | (rw [if_pos hk.symm]; omega)
    · rw [if_neg (fun q => hk ((a_of_ne h1 h2).mp q))]
      first
        | (rw [if_neg hk]; exact a_mkl_off hdf r h4)
        | (rw [if_neg (fun q => hk q.symm)]; exact a_mkl_off hdf r h4)
theorem s_lsw {y pc d len : Nat} {dflt : Int} {ps : Array (Int × Int)} {sl : List (Int32 × Nat)} (hd : decode (a_cd y) pc = .ok (.lookupswitch dflt ps, len)) (h0 : a_mkl pc ps.toList = sl) (h1 : (pc : Int) + dflt = (d : Int)) (hp : (ps.toList.zip (ps.toList.drop 1)).all (fun (a, next) => a.1 < next.1) = true) (h2 : ps.toList.all (fun q => decide (-2147483648 ≤ q.1) && (decide (q.1 < 2147483648) && decide (0 ≤ (pc : Int) + q.2))) = true) : a_Snd y pc (o_sw sl d) := by
  intro p l e s m args below meth c D cA ad A hC ls st σ H locs lsC Q hL hS
  obtain ⟨hx, hb, hml, hown, hts, hK, hZ⟩ := hC
  subst h0
  unfold o_sw
  split
  · rename_i x r
    rw [a_sw_t]
    intro kk
    exact lv_lookup hx hb hd hp rfl (a_mkl_off h1 _ h2) (kk H locs lsC hL hS)
  · trivial
