/-! The machine of this proof: locals, stack and a heap of numbered cells (no cell is made by a method). An answer of an instruction: the next place, a return, a call. -/
abbrev a_LS : Type := List (Option Value)
abbrev a_HP : Type := (Nat → Nat → Int32) × (Nat → Nat → Int64)
abbrev a_AC : Type := Option ((Nat × a_LS × List Value × a_HP) ⊕ (Option Value ⊕ (Nat × List Value × Nat × List Value)))
abbrev a_OP : Type := a_LS → List Value → a_HP → a_AC
def a_nx (n : Nat) (ls : a_LS) (st : List Value) (σ : a_HP) : a_AC := some (.inl (n, ls, st, σ))
def a_re (v : Option Value) : a_AC := some (.inr (.inl v))
def a_ca (y : Nat) (as : List Value) (n : Nat) (r : List Value) : a_AC := some (.inr (.inr (y, as, n, r)))
/-! the layout: arrays (kind 0 int, 1 byte, 2 boolean; length), objects (number in vwCl; fields: 0 int, 1 long, k + 2 the cell k), 99: the row of images -/
abbrev a_LY : Type := (Nat × Nat) ⊕ (Nat × List Nat)
def a_layL : List a_LY := [
  .inr (7, [3, 8, 10, 14, 15, 18, 19, 20, 25, 35, 36, 37, 38]),
  .inr (3, [0, 0, 0, 0, 4, 5, 6, 7]), .inl (0, 16), .inl (0, 16), .inl (0, 16), .inl (0, 9),
  .inr (4, [0, 9]), .inl (0, 400),
  .inr (5, [0, 11, 12, 13]), .inl (0, 6), .inl (0, 6), .inl (0, 6),
  .inr (99, [39, 51]),
  .inr (6, [0, 0, 16, 17, 0, 0, 0, 0]), .inl (1, 150), .inl (0, 110),
  .inr (0, [1, 1]),
  .inl (0, 3),
  .inr (3, [0, 0, 0, 0, 21, 22, 23, 24]), .inl (0, 16), .inl (0, 16), .inl (0, 16), .inl (0, 9),
  .inr (2, [26, 27, 28, 29, 30, 31, 0, 32, 33, 34]), .inl (0, 16), .inl (0, 16), .inl (0, 2), .inl (0, 8), .inl (0, 2), .inl (0, 2), .inl (0, 16), .inl (0, 160), .inl (0, 310),
  .inl (0, 16), .inl (0, 25), .inl (0, 25), .inl (0, 9),
  .inr (1, [0, 40, 45, 47]), .inr (3, [0, 0, 0, 0, 41, 42, 43, 44]), .inl (0, 16), .inl (0, 16), .inl (0, 16), .inl (0, 9), .inr (4, [0, 46]), .inl (0, 400), .inr (5, [0, 48, 49, 50]), .inl (0, 6), .inl (0, 6), .inl (0, 6),
  .inr (1, [0, 52, 57, 59]), .inr (3, [0, 0, 0, 0, 53, 54, 55, 56]), .inl (0, 16), .inl (0, 16), .inl (0, 16), .inl (0, 9), .inr (4, [0, 58]), .inl (0, 400), .inr (5, [0, 60, 61, 62]), .inl (0, 6), .inl (0, 6), .inl (0, 6),
  .inr (8, [64, 65, 66, 67, 68, 69, 0, 1, 1, 70, 0, 0, 0, 1, 0, 71, 0, 72, 73]), .inl (0, 481), .inl (0, 481), .inl (0, 481), .inl (0, 962), .inl (2, 2), .inl (0, 150), .inl (0, 3), .inl (0, 4), .inl (0, 8), .inl (0, 8649)]
def a_N : Nat := 72
def a_lay (k : Nat) : Option a_LY := a_layL[k]?
theorem a_lay_len : a_layL.length = a_N := by decide +kernel
theorem a_lay_lt {k : Nat} {y : a_LY} (h : a_lay k = some y) : k < a_N := by
  rw [← a_lay_len]; exact (List.getElem?_eq_some_iff.mp h).1
/-! locals -/
def a_lg : a_LS → Nat → Option Value
  | [], _ => none
  | v :: _, 0 => v
  | _ :: t, n + 1 => a_lg t n
def a_ls : a_LS → Nat → Option Value → a_LS
  | [], _, _ => []
  | _ :: t, 0, v => v :: t
  | h :: t, n + 1, v => h :: a_ls t n v
def a_kl (ls : a_LS) (i : Nat) : a_LS := match i with
  | 0 => ls
  | j + 1 => match a_lg ls j with
    | some (.long _) => a_ls ls j none
    | some (.double _) => a_ls ls j none
    | _ => ls
/-! the heap -/
def a_sc (σ : a_HP) (a : Nat) (f : Nat → Int32) : a_HP := (fun k => if k = a then f else σ.1 k, σ.2)
def a_wi (σ : a_HP) (a k : Nat) (v : Int32) : a_HP := a_sc σ a (upd (σ.1 a) k v)
def a_wl (σ : a_HP) (a k : Nat) (v : Int64) : a_HP := (σ.1, fun b j => if b = a ∧ j = k then v else σ.2 b j)
def a_in (j : Int32) (n : Nat) : Bool := !(decide (j < 0)) && decide (j.toNatClampNeg < n)
theorem a_in_vp {j : Int32} {n : Nat} (h : a_in j n = true) : vp_in j n := by
  simp only [a_in, Bool.and_eq_true, Bool.not_eq_true', decide_eq_false_iff_not, decide_eq_true_eq] at h
  intro q
  rcases q with q | q
  · exact h.1 q
  · omega
theorem a_in_nI {i n : Nat} (h : i < n) (hn : n < 2 ^ 31) : a_in (nI i) n = true := by
  simp only [a_in, Bool.and_eq_true, Bool.not_eq_true', decide_eq_false_iff_not, decide_eq_true_eq]
  exact ⟨nI_pos (by omega), by rw [nI_clamp (by omega)]; exact h⟩
/-! the instructions; n: the place behind, t: the place to go to -/
def o_ldi (i n : Nat) : a_OP := fun ls st σ => match a_lg ls i with
  | some (.int x) => a_nx n ls (.int x :: st) σ
  | _ => none
def o_ldl (i n : Nat) : a_OP := fun ls st σ => match a_lg ls i with
  | some (.long x) => a_nx n ls (.long x :: st) σ
  | _ => none
def o_lda (i n : Nat) : a_OP := fun ls st σ => match a_lg ls i with
  | some (.ref x) => a_nx n ls (.ref x :: st) σ
  | _ => none
def o_sti (i n : Nat) : a_OP := fun ls st σ => match st with
  | .int x :: r => a_nx n (a_ls (a_kl ls i) i (some (.int x))) r σ
  | _ => none
def o_stl (i n : Nat) : a_OP := fun ls st σ => match st with
  | .long x :: r => a_nx n (a_ls (a_ls (a_kl ls i) i (some (.long x))) (i + 1) none) r σ
  | _ => none
def o_sta (i n : Nat) : a_OP := fun ls st σ => match st with
  | .ref x :: r => a_nx n (a_ls (a_kl ls i) i (some (.ref x))) r σ
  | _ => none
def o_inc (i : Nat) (c : Int32) (n : Nat) : a_OP := fun ls st σ => match a_lg ls i with
  | some (.int x) => a_nx n (a_ls (a_kl ls i) i (some (.int (x + c)))) st σ
  | _ => none
def o_pi (v : Int32) (n : Nat) : a_OP := fun ls st σ => a_nx n ls (.int v :: st) σ
def o_pl (v : Int64) (n : Nat) : a_OP := fun ls st σ => a_nx n ls (.long v :: st) σ
def o_bi (f : Int32 → Int32 → Int32) (n : Nat) : a_OP := fun ls st σ => match st with
  | .int y :: .int x :: r => a_nx n ls (.int (f x y) :: r) σ
  | _ => none
def o_bd (f : Int32 → Int32 → Int32) (n : Nat) : a_OP := fun ls st σ => match st with
  | .int y :: .int x :: r => if y = 0 then none else a_nx n ls (.int (f x y) :: r) σ
  | _ => none
def o_bl (f : Int64 → Int64 → Int64) (n : Nat) : a_OP := fun ls st σ => match st with
  | .long y :: .long x :: r => a_nx n ls (.long (f x y) :: r) σ
  | _ => none
def o_bm (f : Int64 → Int64 → Int64) (n : Nat) : a_OP := fun ls st σ => match st with
  | .long y :: .long x :: r => if y = 0 then none else a_nx n ls (.long (f x y) :: r) σ
  | _ => none
def o_i2l (n : Nat) : a_OP := fun ls st σ => match st with
  | .int x :: r => a_nx n ls (.long x.toInt64 :: r) σ
  | _ => none
def o_l2i (n : Nat) : a_OP := fun ls st σ => match st with
  | .long x :: r => a_nx n ls (.int x.toInt32 :: r) σ
  | _ => none
def o_i2b (n : Nat) : a_OP := fun ls st σ => match st with
  | .int x :: r => a_nx n ls (.int x.toInt8.toInt32 :: r) σ
  | _ => none
def o_lcmp (n : Nat) : a_OP := fun ls st σ => match st with
  | .long y :: .long x :: r => a_nx n ls (.int (lg_cmp x y) :: r) σ
  | _ => none
def o_dup (n : Nat) : a_OP := fun ls st σ => match st with
  | .int x :: r => a_nx n ls (.int x :: .int x :: r) σ
  | .ref x :: r => a_nx n ls (.ref x :: .ref x :: r) σ
  | _ => none
def o_dup2 (n : Nat) : a_OP := fun ls st σ => match st with
  | .int x :: .ref y :: r => a_nx n ls (.int x :: .ref y :: .int x :: .ref y :: r) σ
  | _ => none
def o_pop (n : Nat) : a_OP := fun ls st σ => match st with
  | .int _ :: r => a_nx n ls r σ
  | _ => none
def o_eq (t n : Nat) : a_OP := fun ls st σ => match st with
  | .int x :: r => if x = 0 then a_nx t ls r σ else a_nx n ls r σ
  | _ => none
def o_ne (t n : Nat) : a_OP := fun ls st σ => match st with
  | .int x :: r => if x = 0 then a_nx n ls r σ else a_nx t ls r σ
  | _ => none
def o_lt (t n : Nat) : a_OP := fun ls st σ => match st with
  | .int x :: r => if x < 0 then a_nx t ls r σ else a_nx n ls r σ
  | _ => none
def o_ge (t n : Nat) : a_OP := fun ls st σ => match st with
  | .int x :: r => if x < 0 then a_nx n ls r σ else a_nx t ls r σ
  | _ => none
def o_gt (t n : Nat) : a_OP := fun ls st σ => match st with
  | .int x :: r => if 0 < x then a_nx t ls r σ else a_nx n ls r σ
  | _ => none
def o_le (t n : Nat) : a_OP := fun ls st σ => match st with
  | .int x :: r => if 0 < x then a_nx n ls r σ else a_nx t ls r σ
  | _ => none
def o_ceq (t n : Nat) : a_OP := fun ls st σ => match st with
  | .int y :: .int x :: r => if x = y then a_nx t ls r σ else a_nx n ls r σ
  | _ => none
def o_cne (t n : Nat) : a_OP := fun ls st σ => match st with
  | .int y :: .int x :: r => if x = y then a_nx n ls r σ else a_nx t ls r σ
  | _ => none
def o_clt (t n : Nat) : a_OP := fun ls st σ => match st with
  | .int y :: .int x :: r => if x < y then a_nx t ls r σ else a_nx n ls r σ
  | _ => none
def o_cge (t n : Nat) : a_OP := fun ls st σ => match st with
  | .int y :: .int x :: r => if x < y then a_nx n ls r σ else a_nx t ls r σ
  | _ => none
def o_cgt (t n : Nat) : a_OP := fun ls st σ => match st with
  | .int y :: .int x :: r => if y < x then a_nx t ls r σ else a_nx n ls r σ
  | _ => none
def o_cle (t n : Nat) : a_OP := fun ls st σ => match st with
  | .int y :: .int x :: r => if y < x then a_nx n ls r σ else a_nx t ls r σ
  | _ => none
def o_go (t : Nat) : a_OP := fun ls st σ => a_nx t ls st σ
def a_swt : List (Int32 × Nat) → Nat → Int32 → Nat
  | [], d, _ => d
  | (k, t) :: r, d, x => if x = k then t else a_swt r d x
def a_sw (l : List (Int32 × Nat)) (d : Nat) (x : Int32) (ls : a_LS) (st : List Value) (σ : a_HP) : a_AC := match l with
  | [] => a_nx d ls st σ
  | (k, t) :: r => if x = k then a_nx t ls st σ else a_sw r d x ls st σ
theorem a_sw_t (l : List (Int32 × Nat)) (d : Nat) (x : Int32) (ls : a_LS) (st : List Value) (σ : a_HP) : a_sw l d x ls st σ = a_nx (a_swt l d x) ls st σ := by
  induction l with
  | nil => rfl
  | cons q r ih =>
    obtain ⟨k, t⟩ := q
    simp only [a_sw, a_swt]
    by_cases h : x = k
    · rw [if_pos h, if_pos h]
    · rw [if_neg h, if_neg h, ih]
def o_sw (l : List (Int32 × Nat)) (d : Nat) : a_OP := fun ls st σ => match st with
  | .int x :: r => a_sw l d x ls r σ
  | _ => none
def o_get (ci k n : Nat) : a_OP := fun ls st σ => match st with
  | .ref a :: r => (match a_lay a with
    | some (.inr (ci', fl)) => if ci' = ci then (match fl[k]? with
        | some 0 => a_nx n ls (.int (σ.1 a k) :: r) σ
        | some 1 => a_nx n ls (.long (σ.2 a k) :: r) σ
        | some (j + 2) => a_nx n ls (.ref j :: r) σ
        | none => none) else none
    | _ => none)
  | _ => none
def o_put (ci k n : Nat) : a_OP := fun ls st σ => match st with
  | .int x :: .ref a :: r => (match a_lay a with
    | some (.inr (ci', fl)) => if ci' = ci then (if fl[k]? = some 0 then a_nx n ls r (a_wi σ a k x) else none) else none
    | _ => none)
  | _ => none
def o_putz (ci k n : Nat) : a_OP := fun ls st σ => match st with
  | .int x :: .ref a :: r => (match a_lay a with
    | some (.inr (ci', fl)) => if ci' = ci then (if fl[k]? = some 0 then (if x = 0 ∨ x = 1 then a_nx n ls r (a_wi σ a k x) else none) else none) else none
    | _ => none)
  | _ => none
def o_putl (ci k n : Nat) : a_OP := fun ls st σ => match st with
  | .long x :: .ref a :: r => (match a_lay a with
    | some (.inr (ci', fl)) => if ci' = ci then (if fl[k]? = some 1 then a_nx n ls r (a_wl σ a k x) else none) else none
    | _ => none)
  | _ => none
def o_ial (n : Nat) : a_OP := fun ls st σ => match st with
  | .int j :: .ref a :: r => (match a_lay a with
    | some (.inl (0, m)) => if a_in j m then a_nx n ls (.int (σ.1 a j.toNatClampNeg) :: r) σ else none
    | _ => none)
  | _ => none
def o_bal (n : Nat) : a_OP := fun ls st σ => match st with
  | .int j :: .ref a :: r => (match a_lay a with
    | some (.inl (1, m)) => if a_in j m then a_nx n ls (.int (σ.1 a j.toNatClampNeg) :: r) σ else none
    | some (.inl (2, m)) => if a_in j m then a_nx n ls (.int (σ.1 a j.toNatClampNeg) :: r) σ else none
    | _ => none)
  | _ => none
def o_aal (n : Nat) : a_OP := fun ls st σ => match st with
  | .int j :: .ref a :: r => (match a_lay a with
    | some (.inr (99, fl)) => if a_in j fl.length then a_nx n ls (.ref (fl.getD j.toNatClampNeg 2 - 2) :: r) σ else none
    | _ => none)
  | _ => none
def o_ias (n : Nat) : a_OP := fun ls st σ => match st with
  | .int x :: .int j :: .ref a :: r => (match a_lay a with
    | some (.inl (0, m)) => if a_in j m then a_nx n ls r (a_wi σ a j.toNatClampNeg x) else none
    | _ => none)
  | _ => none
def o_bas (n : Nat) : a_OP := fun ls st σ => match st with
  | .int x :: .int j :: .ref a :: r => (match a_lay a with
    | some (.inl (1, m)) => if a_in j m then a_nx n ls r (a_wi σ a j.toNatClampNeg x.toInt8.toInt32) else none
    | some (.inl (2, m)) => if a_in j m then (if x = 0 ∨ x = 1 then a_nx n ls r (a_wi σ a j.toNatClampNeg x) else none) else none
    | _ => none)
  | _ => none
def o_len (n : Nat) : a_OP := fun ls st σ => match st with
  | .ref a :: r => (match a_lay a with
    | some (.inl (_, m)) => a_nx n ls (.int (nI m) :: r) σ
    | _ => none)
  | _ => none
def a_cp (sp dp n : Int32) (n0 n1 : Nat) : Bool := !(decide (sp < 0)) && (!(decide (dp < 0)) && (!(decide (n < 0)) && (decide (sp.toNatClampNeg + n.toNatClampNeg ≤ n0) && decide (dp.toNatClampNeg + n.toNatClampNeg ≤ n1))))
/-- how many words these take -/
def a_c1 (v : Value) : Nat := v.category
def a_cw : List Value → Nat
  | [] => 0
  | v :: r => a_cw r + a_c1 v
theorem cw_n : a_cw [] = 0 := rfl
theorem cw_i (x : Int32) (r : List Value) : a_cw (.int x :: r) = a_cw r + 1 := rfl
theorem cw_l (x : Int64) (r : List Value) : a_cw (.long x :: r) = a_cw r + 2 := rfl
theorem cw_r (x : Nat) (r : List Value) : a_cw (.ref x :: r) = a_cw r + 1 := rfl
def o_cpy (m : Nat) : a_OP := fun ls st σ => match st with
  | .int n :: .int dp :: .ref b :: .int sp :: .ref a :: r => (match a_lay a, a_lay b with
    | some (.inl (0, n0)), some (.inl (0, n1)) => if a_cp sp dp n n0 n1 then (if a_cw r ≤ 8 then a_nx m ls r (a_sc σ b (va_cpy (σ.1 a) (σ.1 b) sp.toNatClampNeg dp.toNatClampNeg n.toNatClampNeg)) else none) else none
    | _, _ => none)
  | _ => none
def a_pk : Nat → List Value → List Value → Option (List Value × List Value)
  | 0, as, st => some (as, st)
  | _ + 1, _, [] => none
  | k + 1, as, v :: st => a_pk k (v :: as) st
/-- a static call of y with k arguments -/
def o_ivs (y k n : Nat) : a_OP := fun _ st _ => match a_pk k [] st with
  | some (as, r) => if a_cw r ≤ 8 then a_ca y as n r else none
  | none => none
/-- a call of y on an object of kind ci, with k arguments beside it -/
def o_ivv (ci y k n : Nat) : a_OP := fun _ st _ => match a_pk (k + 1) [] st with
  | some (.ref a :: as, r) => (match a_lay a with
    | some (.inr (ci', _)) => if ci' = ci then (if a_cw r ≤ 8 then a_ca y (.ref a :: as) n r else none) else none
    | _ => none)
  | _ => none
/-! text constants: 72 net, 73 knot, 74 wide -/
def a_sb (a : Nat) : List Int32 := if a = 72 then [110, 101, 116] else if a = 73 then [107, 110, 111, 116] else if a = 74 then [119, 105, 100, 101] else []
def o_lds (k n : Nat) : a_OP := fun ls st σ => a_nx n ls (.ref (72 + k) :: st) σ
def o_sln (n : Nat) : a_OP := fun ls st σ => match st with
  | .ref a :: r => if 72 ≤ a ∧ a < 75 then (if a_cw r ≤ 8 then a_nx n ls (.int (nI (a_sb a).length) :: r) σ else none) else none
  | _ => none
def o_sch (n : Nat) : a_OP := fun ls st σ => match st with
  | .int j :: .ref a :: r => if 72 ≤ a ∧ a < 75 then (if a_in j (a_sb a).length then (if a_cw r ≤ 8 then a_nx n ls (.int ((a_sb a).getD j.toNatClampNeg 0) :: r) σ else none) else none) else none
  | _ => none
def o_ri : a_OP := fun _ st _ => match st with
  | [.int x] => a_re (some (.int x))
  | _ => none
def o_rz : a_OP := fun _ st _ => match st with
  | [.int x] => if x = 0 ∨ x = 1 then a_re (some (.int x)) else none
  | _ => none
def o_rl : a_OP := fun _ st _ => match st with
  | [.long x] => a_re (some (.long x))
  | _ => none
def o_rv : a_OP := fun _ st _ => match st with
  | [] => a_re none
  | _ => none
/-! arithmetic by name -/
def f_add (x y : Int32) : Int32 := x + y
def f_sub (x y : Int32) : Int32 := x - y
def f_mul (x y : Int32) : Int32 := x * y
def f_and (x y : Int32) : Int32 := x &&& y
def f_or (x y : Int32) : Int32 := x ||| y
def f_xor (x y : Int32) : Int32 := x ^^^ y
def f_div (x y : Int32) : Int32 := x / y
def f_rem (x y : Int32) : Int32 := x - x / y * y
def f_shl (x y : Int32) : Int32 := x <<< (y &&& 31)
def f_shr (x y : Int32) : Int32 := x >>> (y &&& 31)
def f_ush (x y : Int32) : Int32 := (x.toUInt32 >>> (y.toUInt32 &&& Int32.toUInt32 31)).toInt32
def g_add (x y : Int64) : Int64 := x + y
def g_sub (x y : Int64) : Int64 := x - y
def g_mul (x y : Int64) : Int64 := x * y
def g_div (x y : Int64) : Int64 := x / y
def g_rem (x y : Int64) : Int64 := x - x / y * y
