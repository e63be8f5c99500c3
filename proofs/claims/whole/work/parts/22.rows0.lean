/-! a row an instruction: what a run from there is. By program. -/
/-! 0: NetLaw$Fraction.become(JJ)V -/
theorem cl_0 (x0 : Nat) (x1 : Int64) (x2 : Int64) (σ : a_HP) (Q : Option Value → a_HP → Prop) : Cl 0 [.ref x0, .long x1, .long x2] σ Q = Rn 0 0 [some (.ref x0), some (.long x1), none, some (.long x2), none, none, none] [] σ Q := cl_of (Nat.le_of_ble_eq_true rfl) rfl σ Q
theorem r_0_0 (ls : a_LS) (st : List Value) (σ : a_HP) (Q : Option Value → a_HP → Prop) : Rn 0 0 ls st σ Q = acR 0 (o_ldl 1 1 ls st σ) ls σ Q := rn_row rfl ls st σ Q
theorem r_0_1 (ls : a_LS) (st : List Value) (σ : a_HP) (Q : Option Value → a_HP → Prop) : Rn 0 1 ls st σ Q = acR 0 (o_ldl 3 2 ls st σ) ls σ Q := rn_row rfl ls st σ Q
theorem r_0_2 (ls : a_LS) (st : List Value) (σ : a_HP) (Q : Option Value → a_HP → Prop) : Rn 0 2 ls st σ Q = acR 0 (o_ivs 1 2 5 ls st σ) ls σ Q := rn_row rfl ls st σ Q
theorem r_0_5 (ls : a_LS) (st : List Value) (σ : a_HP) (Q : Option Value → a_HP → Prop) : Rn 0 5 ls st σ Q = acR 0 (o_stl 5 7 ls st σ) ls σ Q := rn_row rfl ls st σ Q
theorem r_0_7 (ls : a_LS) (st : List Value) (σ : a_HP) (Q : Option Value → a_HP → Prop) : Rn 0 7 ls st σ Q = acR 0 (o_ldl 5 9 ls st σ) ls σ Q := rn_row rfl ls st σ Q
theorem r_0_9 (ls : a_LS) (st : List Value) (σ : a_HP) (Q : Option Value → a_HP → Prop) : Rn 0 9 ls st σ Q = acR 0 (o_pl (lN 0) 10 ls st σ) ls σ Q := rn_row rfl ls st σ Q
theorem r_0_10 (ls : a_LS) (st : List Value) (σ : a_HP) (Q : Option Value → a_HP → Prop) : Rn 0 10 ls st σ Q = acR 0 (o_lcmp 11 ls st σ) ls σ Q := rn_row rfl ls st σ Q
theorem r_0_11 (ls : a_LS) (st : List Value) (σ : a_HP) (Q : Option Value → a_HP → Prop) : Rn 0 11 ls st σ Q = acR 0 (o_le 30 14 ls st σ) ls σ Q := rn_row rfl ls st σ Q
theorem r_0_14 (ls : a_LS) (st : List Value) (σ : a_HP) (Q : Option Value → a_HP → Prop) : Rn 0 14 ls st σ Q = acR 0 (o_lda 0 15 ls st σ) ls σ Q := rn_row rfl ls st σ Q
theorem r_0_15 (ls : a_LS) (st : List Value) (σ : a_HP) (Q : Option Value → a_HP → Prop) : Rn 0 15 ls st σ Q = acR 0 (o_ldl 1 16 ls st σ) ls σ Q := rn_row rfl ls st σ Q
theorem r_0_16 (ls : a_LS) (st : List Value) (σ : a_HP) (Q : Option Value → a_HP → Prop) : Rn 0 16 ls st σ Q = acR 0 (o_ldl 5 18 ls st σ) ls σ Q := rn_row rfl ls st σ Q
theorem r_0_18 (ls : a_LS) (st : List Value) (σ : a_HP) (Q : Option Value → a_HP → Prop) : Rn 0 18 ls st σ Q = acR 0 (o_bm g_div 19 ls st σ) ls σ Q := rn_row rfl ls st σ Q
theorem r_0_19 (ls : a_LS) (st : List Value) (σ : a_HP) (Q : Option Value → a_HP → Prop) : Rn 0 19 ls st σ Q = acR 0 (o_putl 0 0 22 ls st σ) ls σ Q := rn_row rfl ls st σ Q
theorem r_0_22 (ls : a_LS) (st : List Value) (σ : a_HP) (Q : Option Value → a_HP → Prop) : Rn 0 22 ls st σ Q = acR 0 (o_lda 0 23 ls st σ) ls σ Q := rn_row rfl ls st σ Q
theorem r_0_23 (ls : a_LS) (st : List Value) (σ : a_HP) (Q : Option Value → a_HP → Prop) : Rn 0 23 ls st σ Q = acR 0 (o_ldl 3 24 ls st σ) ls σ Q := rn_row rfl ls st σ Q
theorem r_0_24 (ls : a_LS) (st : List Value) (σ : a_HP) (Q : Option Value → a_HP → Prop) : Rn 0 24 ls st σ Q = acR 0 (o_ldl 5 26 ls st σ) ls σ Q := rn_row rfl ls st σ Q
theorem r_0_26 (ls : a_LS) (st : List Value) (σ : a_HP) (Q : Option Value → a_HP → Prop) : Rn 0 26 ls st σ Q = acR 0 (o_bm g_div 27 ls st σ) ls σ Q := rn_row rfl ls st σ Q
theorem r_0_27 (ls : a_LS) (st : List Value) (σ : a_HP) (Q : Option Value → a_HP → Prop) : Rn 0 27 ls st σ Q = acR 0 (o_putl 0 1 30 ls st σ) ls σ Q := rn_row rfl ls st σ Q
theorem r_0_30 (ls : a_LS) (st : List Value) (σ : a_HP) (Q : Option Value → a_HP → Prop) : Rn 0 30 ls st σ Q = acR 0 (o_rv ls st σ) ls σ Q := rn_row rfl ls st σ Q
/-! 1: NetLaw$Fraction.commonDivisor(JJ)J -/
theorem cl_1 (x0 : Int64) (x1 : Int64) (σ : a_HP) (Q : Option Value → a_HP → Prop) : Cl 1 [.long x0, .long x1] σ Q = Rn 1 0 [some (.long x0), none, some (.long x1), none, none, none, none, none, none, none, none] [] σ Q := cl_of (Nat.le_of_ble_eq_true rfl) rfl σ Q
theorem r_1_0 (ls : a_LS) (st : List Value) (σ : a_HP) (Q : Option Value → a_HP → Prop) : Rn 1 0 ls st σ Q = acR 1 (o_ldl 0 1 ls st σ) ls σ Q := rn_row rfl ls st σ Q
theorem r_1_1 (ls : a_LS) (st : List Value) (σ : a_HP) (Q : Option Value → a_HP → Prop) : Rn 1 1 ls st σ Q = acR 1 (o_stl 4 3 ls st σ) ls σ Q := rn_row rfl ls st σ Q
theorem r_1_3 (ls : a_LS) (st : List Value) (σ : a_HP) (Q : Option Value → a_HP → Prop) : Rn 1 3 ls st σ Q = acR 1 (o_ldl 2 4 ls st σ) ls σ Q := rn_row rfl ls st σ Q
theorem r_1_4 (ls : a_LS) (st : List Value) (σ : a_HP) (Q : Option Value → a_HP → Prop) : Rn 1 4 ls st σ Q = acR 1 (o_stl 6 6 ls st σ) ls σ Q := rn_row rfl ls st σ Q
theorem r_1_6 (ls : a_LS) (st : List Value) (σ : a_HP) (Q : Option Value → a_HP → Prop) : Rn 1 6 ls st σ Q = acR 1 (o_pi (nI 0) 7 ls st σ) ls σ Q := rn_row rfl ls st σ Q
theorem r_1_7 (ls : a_LS) (st : List Value) (σ : a_HP) (Q : Option Value → a_HP → Prop) : Rn 1 7 ls st σ Q = acR 1 (o_sti 8 9 ls st σ) ls σ Q := rn_row rfl ls st σ Q
theorem r_1_9 (ls : a_LS) (st : List Value) (σ : a_HP) (Q : Option Value → a_HP → Prop) : Rn 1 9 ls st σ Q = acR 1 (o_ldi 8 11 ls st σ) ls σ Q := rn_row rfl ls st σ Q
theorem r_1_11 (ls : a_LS) (st : List Value) (σ : a_HP) (Q : Option Value → a_HP → Prop) : Rn 1 11 ls st σ Q = acR 1 (o_pi (nI 100) 13 ls st σ) ls σ Q := rn_row rfl ls st σ Q
theorem r_1_13 (ls : a_LS) (st : List Value) (σ : a_HP) (Q : Option Value → a_HP → Prop) : Rn 1 13 ls st σ Q = acR 1 (o_cge 44 16 ls st σ) ls σ Q := rn_row rfl ls st σ Q
theorem r_1_16 (ls : a_LS) (st : List Value) (σ : a_HP) (Q : Option Value → a_HP → Prop) : Rn 1 16 ls st σ Q = acR 1 (o_ldl 6 18 ls st σ) ls σ Q := rn_row rfl ls st σ Q
theorem r_1_18 (ls : a_LS) (st : List Value) (σ : a_HP) (Q : Option Value → a_HP → Prop) : Rn 1 18 ls st σ Q = acR 1 (o_pl (lN 0) 19 ls st σ) ls σ Q := rn_row rfl ls st σ Q
theorem r_1_19 (ls : a_LS) (st : List Value) (σ : a_HP) (Q : Option Value → a_HP → Prop) : Rn 1 19 ls st σ Q = acR 1 (o_lcmp 20 ls st σ) ls σ Q := rn_row rfl ls st σ Q
theorem r_1_20 (ls : a_LS) (st : List Value) (σ : a_HP) (Q : Option Value → a_HP → Prop) : Rn 1 20 ls st σ Q = acR 1 (o_eq 44 23 ls st σ) ls σ Q := rn_row rfl ls st σ Q
theorem r_1_23 (ls : a_LS) (st : List Value) (σ : a_HP) (Q : Option Value → a_HP → Prop) : Rn 1 23 ls st σ Q = acR 1 (o_ldl 4 25 ls st σ) ls σ Q := rn_row rfl ls st σ Q
theorem r_1_25 (ls : a_LS) (st : List Value) (σ : a_HP) (Q : Option Value → a_HP → Prop) : Rn 1 25 ls st σ Q = acR 1 (o_ldl 6 27 ls st σ) ls σ Q := rn_row rfl ls st σ Q
theorem r_1_27 (ls : a_LS) (st : List Value) (σ : a_HP) (Q : Option Value → a_HP → Prop) : Rn 1 27 ls st σ Q = acR 1 (o_bm g_rem 28 ls st σ) ls σ Q := rn_row rfl ls st σ Q
theorem r_1_28 (ls : a_LS) (st : List Value) (σ : a_HP) (Q : Option Value → a_HP → Prop) : Rn 1 28 ls st σ Q = acR 1 (o_stl 9 30 ls st σ) ls σ Q := rn_row rfl ls st σ Q
theorem r_1_30 (ls : a_LS) (st : List Value) (σ : a_HP) (Q : Option Value → a_HP → Prop) : Rn 1 30 ls st σ Q = acR 1 (o_ldl 6 32 ls st σ) ls σ Q := rn_row rfl ls st σ Q
theorem r_1_32 (ls : a_LS) (st : List Value) (σ : a_HP) (Q : Option Value → a_HP → Prop) : Rn 1 32 ls st σ Q = acR 1 (o_stl 4 34 ls st σ) ls σ Q := rn_row rfl ls st σ Q
theorem r_1_34 (ls : a_LS) (st : List Value) (σ : a_HP) (Q : Option Value → a_HP → Prop) : Rn 1 34 ls st σ Q = acR 1 (o_ldl 9 36 ls st σ) ls σ Q := rn_row rfl ls st σ Q
theorem r_1_36 (ls : a_LS) (st : List Value) (σ : a_HP) (Q : Option Value → a_HP → Prop) : Rn 1 36 ls st σ Q = acR 1 (o_stl 6 38 ls st σ) ls σ Q := rn_row rfl ls st σ Q
theorem r_1_38 (ls : a_LS) (st : List Value) (σ : a_HP) (Q : Option Value → a_HP → Prop) : Rn 1 38 ls st σ Q = acR 1 (o_inc 8 (nI 1) 41 ls st σ) ls σ Q := rn_row rfl ls st σ Q
theorem r_1_41 (ls : a_LS) (st : List Value) (σ : a_HP) (Q : Option Value → a_HP → Prop) : Rn 1 41 ls st σ Q = acR 1 (o_go 9 ls st σ) ls σ Q := rn_row rfl ls st σ Q
theorem r_1_44 (ls : a_LS) (st : List Value) (σ : a_HP) (Q : Option Value → a_HP → Prop) : Rn 1 44 ls st σ Q = acR 1 (o_ldl 4 46 ls st σ) ls σ Q := rn_row rfl ls st σ Q
theorem r_1_46 (ls : a_LS) (st : List Value) (σ : a_HP) (Q : Option Value → a_HP → Prop) : Rn 1 46 ls st σ Q = acR 1 (o_rl ls st σ) ls σ Q := rn_row rfl ls st σ Q
/-! 2: NetLaw$Mending.leastTwine(LNetLaw$Net;II)I -/
theorem cl_2 (x0 : Nat) (x1 : Nat) (x2 : Int32) (x3 : Int32) (σ : a_HP) (Q : Option Value → a_HP → Prop) : Cl 2 [.ref x0, .ref x1, .int x2, .int x3] σ Q = Rn 2 0 [some (.ref x0), some (.ref x1), some (.int x2), some (.int x3), none] [] σ Q := cl_of (Nat.le_of_ble_eq_true rfl) rfl σ Q
theorem r_2_0 (ls : a_LS) (st : List Value) (σ : a_HP) (Q : Option Value → a_HP → Prop) : Rn 2 0 ls st σ Q = acR 2 (o_lda 0 1 ls st σ) ls σ Q := rn_row rfl ls st σ Q
theorem r_2_1 (ls : a_LS) (st : List Value) (σ : a_HP) (Q : Option Value → a_HP → Prop) : Rn 2 1 ls st σ Q = acR 2 (o_get 2 4 4 ls st σ) ls σ Q := rn_row rfl ls st σ Q
theorem r_2_4 (ls : a_LS) (st : List Value) (σ : a_HP) (Q : Option Value → a_HP → Prop) : Rn 2 4 ls st σ Q = acR 2 (o_pi (nI 0) 5 ls st σ) ls σ Q := rn_row rfl ls st σ Q
theorem r_2_5 (ls : a_LS) (st : List Value) (σ : a_HP) (Q : Option Value → a_HP → Prop) : Rn 2 5 ls st σ Q = acR 2 (o_pi (nI 0) 6 ls st σ) ls σ Q := rn_row rfl ls st σ Q
theorem r_2_6 (ls : a_LS) (st : List Value) (σ : a_HP) (Q : Option Value → a_HP → Prop) : Rn 2 6 ls st σ Q = acR 2 (o_ias 7 ls st σ) ls σ Q := rn_row rfl ls st σ Q
theorem r_2_7 (ls : a_LS) (st : List Value) (σ : a_HP) (Q : Option Value → a_HP → Prop) : Rn 2 7 ls st σ Q = acR 2 (o_lda 0 8 ls st σ) ls σ Q := rn_row rfl ls st σ Q
theorem r_2_8 (ls : a_LS) (st : List Value) (σ : a_HP) (Q : Option Value → a_HP → Prop) : Rn 2 8 ls st σ Q = acR 2 (o_get 2 4 11 ls st σ) ls σ Q := rn_row rfl ls st σ Q
theorem r_2_11 (ls : a_LS) (st : List Value) (σ : a_HP) (Q : Option Value → a_HP → Prop) : Rn 2 11 ls st σ Q = acR 2 (o_pi (nI 1) 12 ls st σ) ls σ Q := rn_row rfl ls st σ Q
theorem r_2_12 (ls : a_LS) (st : List Value) (σ : a_HP) (Q : Option Value → a_HP → Prop) : Rn 2 12 ls st σ Q = acR 2 (o_pi (nI 0) 13 ls st σ) ls σ Q := rn_row rfl ls st σ Q
theorem r_2_13 (ls : a_LS) (st : List Value) (σ : a_HP) (Q : Option Value → a_HP → Prop) : Rn 2 13 ls st σ Q = acR 2 (o_ias 14 ls st σ) ls σ Q := rn_row rfl ls st σ Q
theorem r_2_14 (ls : a_LS) (st : List Value) (σ : a_HP) (Q : Option Value → a_HP → Prop) : Rn 2 14 ls st σ Q = acR 2 (o_lda 0 15 ls st σ) ls σ Q := rn_row rfl ls st σ Q
theorem r_2_15 (ls : a_LS) (st : List Value) (σ : a_HP) (Q : Option Value → a_HP → Prop) : Rn 2 15 ls st σ Q = acR 2 (o_pi (nI 0) 16 ls st σ) ls σ Q := rn_row rfl ls st σ Q
theorem r_2_16 (ls : a_LS) (st : List Value) (σ : a_HP) (Q : Option Value → a_HP → Prop) : Rn 2 16 ls st σ Q = acR 2 (o_put 2 6 19 ls st σ) ls σ Q := rn_row rfl ls st σ Q
theorem r_2_19 (ls : a_LS) (st : List Value) (σ : a_HP) (Q : Option Value → a_HP → Prop) : Rn 2 19 ls st σ Q = acR 2 (o_pi (nI 0) 20 ls st σ) ls σ Q := rn_row rfl ls st σ Q
theorem r_2_20 (ls : a_LS) (st : List Value) (σ : a_HP) (Q : Option Value → a_HP → Prop) : Rn 2 20 ls st σ Q = acR 2 (o_sti 4 22 ls st σ) ls σ Q := rn_row rfl ls st σ Q
theorem r_2_22 (ls : a_LS) (st : List Value) (σ : a_HP) (Q : Option Value → a_HP → Prop) : Rn 2 22 ls st σ Q = acR 2 (o_ldi 4 24 ls st σ) ls σ Q := rn_row rfl ls st σ Q
theorem r_2_24 (ls : a_LS) (st : List Value) (σ : a_HP) (Q : Option Value → a_HP → Prop) : Rn 2 24 ls st σ Q = acR 2 (o_pi (nI 4) 25 ls st σ) ls σ Q := rn_row rfl ls st σ Q
theorem r_2_25 (ls : a_LS) (st : List Value) (σ : a_HP) (Q : Option Value → a_HP → Prop) : Rn 2 25 ls st σ Q = acR 2 (o_cge 43 28 ls st σ) ls σ Q := rn_row rfl ls st σ Q
theorem r_2_28 (ls : a_LS) (st : List Value) (σ : a_HP) (Q : Option Value → a_HP → Prop) : Rn 2 28 ls st σ Q = acR 2 (o_lda 0 29 ls st σ) ls σ Q := rn_row rfl ls st σ Q
theorem r_2_29 (ls : a_LS) (st : List Value) (σ : a_HP) (Q : Option Value → a_HP → Prop) : Rn 2 29 ls st σ Q = acR 2 (o_lda 1 30 ls st σ) ls σ Q := rn_row rfl ls st σ Q
theorem r_2_30 (ls : a_LS) (st : List Value) (σ : a_HP) (Q : Option Value → a_HP → Prop) : Rn 2 30 ls st σ Q = acR 2 (o_ldi 2 31 ls st σ) ls σ Q := rn_row rfl ls st σ Q
theorem r_2_31 (ls : a_LS) (st : List Value) (σ : a_HP) (Q : Option Value → a_HP → Prop) : Rn 2 31 ls st σ Q = acR 2 (o_ldi 3 32 ls st σ) ls σ Q := rn_row rfl ls st σ Q
theorem r_2_32 (ls : a_LS) (st : List Value) (σ : a_HP) (Q : Option Value → a_HP → Prop) : Rn 2 32 ls st σ Q = acR 2 (o_ldi 4 34 ls st σ) ls σ Q := rn_row rfl ls st σ Q
theorem r_2_34 (ls : a_LS) (st : List Value) (σ : a_HP) (Q : Option Value → a_HP → Prop) : Rn 2 34 ls st σ Q = acR 2 (o_ivv 2 3 4 37 ls st σ) ls σ Q := rn_row rfl ls st σ Q
theorem r_2_37 (ls : a_LS) (st : List Value) (σ : a_HP) (Q : Option Value → a_HP → Prop) : Rn 2 37 ls st σ Q = acR 2 (o_inc 4 (nI 1) 40 ls st σ) ls σ Q := rn_row rfl ls st σ Q
theorem r_2_40 (ls : a_LS) (st : List Value) (σ : a_HP) (Q : Option Value → a_HP → Prop) : Rn 2 40 ls st σ Q = acR 2 (o_go 22 ls st σ) ls σ Q := rn_row rfl ls st σ Q
theorem r_2_43 (ls : a_LS) (st : List Value) (σ : a_HP) (Q : Option Value → a_HP → Prop) : Rn 2 43 ls st σ Q = acR 2 (o_lda 0 44 ls st σ) ls σ Q := rn_row rfl ls st σ Q
theorem r_2_44 (ls : a_LS) (st : List Value) (σ : a_HP) (Q : Option Value → a_HP → Prop) : Rn 2 44 ls st σ Q = acR 2 (o_get 2 2 47 ls st σ) ls σ Q := rn_row rfl ls st σ Q
theorem r_2_47 (ls : a_LS) (st : List Value) (σ : a_HP) (Q : Option Value → a_HP → Prop) : Rn 2 47 ls st σ Q = acR 2 (o_pi (nI 0) 48 ls st σ) ls σ Q := rn_row rfl ls st σ Q
theorem r_2_48 (ls : a_LS) (st : List Value) (σ : a_HP) (Q : Option Value → a_HP → Prop) : Rn 2 48 ls st σ Q = acR 2 (o_lda 1 49 ls st σ) ls σ Q := rn_row rfl ls st σ Q
theorem r_2_49 (ls : a_LS) (st : List Value) (σ : a_HP) (Q : Option Value → a_HP → Prop) : Rn 2 49 ls st σ Q = acR 2 (o_get 3 7 52 ls st σ) ls σ Q := rn_row rfl ls st σ Q
theorem r_2_52 (ls : a_LS) (st : List Value) (σ : a_HP) (Q : Option Value → a_HP → Prop) : Rn 2 52 ls st σ Q = acR 2 (o_ldi 2 53 ls st σ) ls σ Q := rn_row rfl ls st σ Q
theorem r_2_53 (ls : a_LS) (st : List Value) (σ : a_HP) (Q : Option Value → a_HP → Prop) : Rn 2 53 ls st σ Q = acR 2 (o_ial 54 ls st σ) ls σ Q := rn_row rfl ls st σ Q
theorem r_2_54 (ls : a_LS) (st : List Value) (σ : a_HP) (Q : Option Value → a_HP → Prop) : Rn 2 54 ls st σ Q = acR 2 (o_lda 1 55 ls st σ) ls σ Q := rn_row rfl ls st σ Q
theorem r_2_55 (ls : a_LS) (st : List Value) (σ : a_HP) (Q : Option Value → a_HP → Prop) : Rn 2 55 ls st σ Q = acR 2 (o_ldi 2 56 ls st σ) ls σ Q := rn_row rfl ls st σ Q
theorem r_2_56 (ls : a_LS) (st : List Value) (σ : a_HP) (Q : Option Value → a_HP → Prop) : Rn 2 56 ls st σ Q = acR 2 (o_ivv 3 24 1 59 ls st σ) ls σ Q := rn_row rfl ls st σ Q
theorem r_2_59 (ls : a_LS) (st : List Value) (σ : a_HP) (Q : Option Value → a_HP → Prop) : Rn 2 59 ls st σ Q = acR 2 (o_bi f_sub 60 ls st σ) ls σ Q := rn_row rfl ls st σ Q
theorem r_2_60 (ls : a_LS) (st : List Value) (σ : a_HP) (Q : Option Value → a_HP → Prop) : Rn 2 60 ls st σ Q = acR 2 (o_ias 61 ls st σ) ls σ Q := rn_row rfl ls st σ Q
theorem r_2_61 (ls : a_LS) (st : List Value) (σ : a_HP) (Q : Option Value → a_HP → Prop) : Rn 2 61 ls st σ Q = acR 2 (o_lda 0 62 ls st σ) ls σ Q := rn_row rfl ls st σ Q
theorem r_2_62 (ls : a_LS) (st : List Value) (σ : a_HP) (Q : Option Value → a_HP → Prop) : Rn 2 62 ls st σ Q = acR 2 (o_get 2 2 65 ls st σ) ls σ Q := rn_row rfl ls st σ Q
theorem r_2_65 (ls : a_LS) (st : List Value) (σ : a_HP) (Q : Option Value → a_HP → Prop) : Rn 2 65 ls st σ Q = acR 2 (o_pi (nI 1) 66 ls st σ) ls σ Q := rn_row rfl ls st σ Q
theorem r_2_66 (ls : a_LS) (st : List Value) (σ : a_HP) (Q : Option Value → a_HP → Prop) : Rn 2 66 ls st σ Q = acR 2 (o_lda 1 67 ls st σ) ls σ Q := rn_row rfl ls st σ Q
theorem r_2_67 (ls : a_LS) (st : List Value) (σ : a_HP) (Q : Option Value → a_HP → Prop) : Rn 2 67 ls st σ Q = acR 2 (o_get 3 7 70 ls st σ) ls σ Q := rn_row rfl ls st σ Q
theorem r_2_70 (ls : a_LS) (st : List Value) (σ : a_HP) (Q : Option Value → a_HP → Prop) : Rn 2 70 ls st σ Q = acR 2 (o_ldi 3 71 ls st σ) ls σ Q := rn_row rfl ls st σ Q
theorem r_2_71 (ls : a_LS) (st : List Value) (σ : a_HP) (Q : Option Value → a_HP → Prop) : Rn 2 71 ls st σ Q = acR 2 (o_ial 72 ls st σ) ls σ Q := rn_row rfl ls st σ Q
theorem r_2_72 (ls : a_LS) (st : List Value) (σ : a_HP) (Q : Option Value → a_HP → Prop) : Rn 2 72 ls st σ Q = acR 2 (o_lda 1 73 ls st σ) ls σ Q := rn_row rfl ls st σ Q
theorem r_2_73 (ls : a_LS) (st : List Value) (σ : a_HP) (Q : Option Value → a_HP → Prop) : Rn 2 73 ls st σ Q = acR 2 (o_ldi 3 74 ls st σ) ls σ Q := rn_row rfl ls st σ Q
theorem r_2_74 (ls : a_LS) (st : List Value) (σ : a_HP) (Q : Option Value → a_HP → Prop) : Rn 2 74 ls st σ Q = acR 2 (o_ivv 3 24 1 77 ls st σ) ls σ Q := rn_row rfl ls st σ Q
theorem r_2_77 (ls : a_LS) (st : List Value) (σ : a_HP) (Q : Option Value → a_HP → Prop) : Rn 2 77 ls st σ Q = acR 2 (o_bi f_sub 78 ls st σ) ls σ Q := rn_row rfl ls st σ Q
theorem r_2_78 (ls : a_LS) (st : List Value) (σ : a_HP) (Q : Option Value → a_HP → Prop) : Rn 2 78 ls st σ Q = acR 2 (o_ias 79 ls st σ) ls σ Q := rn_row rfl ls st σ Q
theorem r_2_79 (ls : a_LS) (st : List Value) (σ : a_HP) (Q : Option Value → a_HP → Prop) : Rn 2 79 ls st σ Q = acR 2 (o_ldi 2 80 ls st σ) ls σ Q := rn_row rfl ls st σ Q
theorem r_2_80 (ls : a_LS) (st : List Value) (σ : a_HP) (Q : Option Value → a_HP → Prop) : Rn 2 80 ls st σ Q = acR 2 (o_ldi 3 81 ls st σ) ls σ Q := rn_row rfl ls st σ Q
theorem r_2_81 (ls : a_LS) (st : List Value) (σ : a_HP) (Q : Option Value → a_HP → Prop) : Rn 2 81 ls st σ Q = acR 2 (o_cne 91 84 ls st σ) ls σ Q := rn_row rfl ls st σ Q
theorem r_2_84 (ls : a_LS) (st : List Value) (σ : a_HP) (Q : Option Value → a_HP → Prop) : Rn 2 84 ls st σ Q = acR 2 (o_lda 0 85 ls st σ) ls σ Q := rn_row rfl ls st σ Q
theorem r_2_85 (ls : a_LS) (st : List Value) (σ : a_HP) (Q : Option Value → a_HP → Prop) : Rn 2 85 ls st σ Q = acR 2 (o_get 2 2 88 ls st σ) ls σ Q := rn_row rfl ls st σ Q
theorem r_2_88 (ls : a_LS) (st : List Value) (σ : a_HP) (Q : Option Value → a_HP → Prop) : Rn 2 88 ls st σ Q = acR 2 (o_pi (nI 1) 89 ls st σ) ls σ Q := rn_row rfl ls st σ Q
theorem r_2_89 (ls : a_LS) (st : List Value) (σ : a_HP) (Q : Option Value → a_HP → Prop) : Rn 2 89 ls st σ Q = acR 2 (o_pi (nI 0) 90 ls st σ) ls σ Q := rn_row rfl ls st σ Q
theorem r_2_90 (ls : a_LS) (st : List Value) (σ : a_HP) (Q : Option Value → a_HP → Prop) : Rn 2 90 ls st σ Q = acR 2 (o_ias 91 ls st σ) ls σ Q := rn_row rfl ls st σ Q
theorem r_2_91 (ls : a_LS) (st : List Value) (σ : a_HP) (Q : Option Value → a_HP → Prop) : Rn 2 91 ls st σ Q = acR 2 (o_lda 0 92 ls st σ) ls σ Q := rn_row rfl ls st σ Q
theorem r_2_92 (ls : a_LS) (st : List Value) (σ : a_HP) (Q : Option Value → a_HP → Prop) : Rn 2 92 ls st σ Q = acR 2 (o_pi (nI 0) 93 ls st σ) ls σ Q := rn_row rfl ls st σ Q
theorem r_2_93 (ls : a_LS) (st : List Value) (σ : a_HP) (Q : Option Value → a_HP → Prop) : Rn 2 93 ls st σ Q = acR 2 (o_ivv 2 7 1 96 ls st σ) ls σ Q := rn_row rfl ls st σ Q
theorem r_2_96 (ls : a_LS) (st : List Value) (σ : a_HP) (Q : Option Value → a_HP → Prop) : Rn 2 96 ls st σ Q = acR 2 (o_lda 0 97 ls st σ) ls σ Q := rn_row rfl ls st σ Q
theorem r_2_97 (ls : a_LS) (st : List Value) (σ : a_HP) (Q : Option Value → a_HP → Prop) : Rn 2 97 ls st σ Q = acR 2 (o_pi (nI 1) 98 ls st σ) ls σ Q := rn_row rfl ls st σ Q
theorem r_2_98 (ls : a_LS) (st : List Value) (σ : a_HP) (Q : Option Value → a_HP → Prop) : Rn 2 98 ls st σ Q = acR 2 (o_ivv 2 7 1 101 ls st σ) ls σ Q := rn_row rfl ls st σ Q
theorem r_2_101 (ls : a_LS) (st : List Value) (σ : a_HP) (Q : Option Value → a_HP → Prop) : Rn 2 101 ls st σ Q = acR 2 (o_lda 0 102 ls st σ) ls σ Q := rn_row rfl ls st σ Q
theorem r_2_102 (ls : a_LS) (st : List Value) (σ : a_HP) (Q : Option Value → a_HP → Prop) : Rn 2 102 ls st σ Q = acR 2 (o_ivv 2 11 0 105 ls st σ) ls σ Q := rn_row rfl ls st σ Q
theorem r_2_105 (ls : a_LS) (st : List Value) (σ : a_HP) (Q : Option Value → a_HP → Prop) : Rn 2 105 ls st σ Q = acR 2 (o_ri ls st σ) ls σ Q := rn_row rfl ls st σ Q
/-! 3: NetLaw$Mending.listCorners(LNetLaw$Net;III)V -/
theorem cl_3 (x0 : Nat) (x1 : Nat) (x2 : Int32) (x3 : Int32) (x4 : Int32) (σ : a_HP) (Q : Option Value → a_HP → Prop) : Cl 3 [.ref x0, .ref x1, .int x2, .int x3, .int x4] σ Q = Rn 3 0 [some (.ref x0), some (.ref x1), some (.int x2), some (.int x3), some (.int x4), none, none] [] σ Q := cl_of (Nat.le_of_ble_eq_true rfl) rfl σ Q
theorem r_3_0 (ls : a_LS) (st : List Value) (σ : a_HP) (Q : Option Value → a_HP → Prop) : Rn 3 0 ls st σ Q = acR 3 (o_ldi 2 1 ls st σ) ls σ Q := rn_row rfl ls st σ Q
theorem r_3_1 (ls : a_LS) (st : List Value) (σ : a_HP) (Q : Option Value → a_HP → Prop) : Rn 3 1 ls st σ Q = acR 3 (o_ldi 4 3 ls st σ) ls σ Q := rn_row rfl ls st σ Q
theorem r_3_3 (ls : a_LS) (st : List Value) (σ : a_HP) (Q : Option Value → a_HP → Prop) : Rn 3 3 ls st σ Q = acR 3 (o_ivs 103 2 6 ls st σ) ls σ Q := rn_row rfl ls st σ Q
theorem r_3_6 (ls : a_LS) (st : List Value) (σ : a_HP) (Q : Option Value → a_HP → Prop) : Rn 3 6 ls st σ Q = acR 3 (o_sti 5 8 ls st σ) ls σ Q := rn_row rfl ls st σ Q
theorem r_3_8 (ls : a_LS) (st : List Value) (σ : a_HP) (Q : Option Value → a_HP → Prop) : Rn 3 8 ls st σ Q = acR 3 (o_ldi 3 9 ls st σ) ls σ Q := rn_row rfl ls st σ Q
theorem r_3_9 (ls : a_LS) (st : List Value) (σ : a_HP) (Q : Option Value → a_HP → Prop) : Rn 3 9 ls st σ Q = acR 3 (o_ldi 4 11 ls st σ) ls σ Q := rn_row rfl ls st σ Q
theorem r_3_11 (ls : a_LS) (st : List Value) (σ : a_HP) (Q : Option Value → a_HP → Prop) : Rn 3 11 ls st σ Q = acR 3 (o_ivs 103 2 14 ls st σ) ls σ Q := rn_row rfl ls st σ Q
theorem r_3_14 (ls : a_LS) (st : List Value) (σ : a_HP) (Q : Option Value → a_HP → Prop) : Rn 3 14 ls st σ Q = acR 3 (o_sti 6 16 ls st σ) ls σ Q := rn_row rfl ls st σ Q
theorem r_3_16 (ls : a_LS) (st : List Value) (σ : a_HP) (Q : Option Value → a_HP → Prop) : Rn 3 16 ls st σ Q = acR 3 (o_lda 0 17 ls st σ) ls σ Q := rn_row rfl ls st σ Q
theorem r_3_17 (ls : a_LS) (st : List Value) (σ : a_HP) (Q : Option Value → a_HP → Prop) : Rn 3 17 ls st σ Q = acR 3 (o_lda 1 18 ls st σ) ls σ Q := rn_row rfl ls st σ Q
theorem r_3_18 (ls : a_LS) (st : List Value) (σ : a_HP) (Q : Option Value → a_HP → Prop) : Rn 3 18 ls st σ Q = acR 3 (o_ldi 5 20 ls st σ) ls σ Q := rn_row rfl ls st σ Q
theorem r_3_20 (ls : a_LS) (st : List Value) (σ : a_HP) (Q : Option Value → a_HP → Prop) : Rn 3 20 ls st σ Q = acR 3 (o_ivv 2 5 2 23 ls st σ) ls σ Q := rn_row rfl ls st σ Q
theorem r_3_23 (ls : a_LS) (st : List Value) (σ : a_HP) (Q : Option Value → a_HP → Prop) : Rn 3 23 ls st σ Q = acR 3 (o_lda 0 24 ls st σ) ls σ Q := rn_row rfl ls st σ Q
theorem r_3_24 (ls : a_LS) (st : List Value) (σ : a_HP) (Q : Option Value → a_HP → Prop) : Rn 3 24 ls st σ Q = acR 3 (o_lda 1 25 ls st σ) ls σ Q := rn_row rfl ls st σ Q
theorem r_3_25 (ls : a_LS) (st : List Value) (σ : a_HP) (Q : Option Value → a_HP → Prop) : Rn 3 25 ls st σ Q = acR 3 (o_ldi 6 27 ls st σ) ls σ Q := rn_row rfl ls st σ Q
theorem r_3_27 (ls : a_LS) (st : List Value) (σ : a_HP) (Q : Option Value → a_HP → Prop) : Rn 3 27 ls st σ Q = acR 3 (o_ivv 2 5 2 30 ls st σ) ls σ Q := rn_row rfl ls st σ Q
theorem r_3_30 (ls : a_LS) (st : List Value) (σ : a_HP) (Q : Option Value → a_HP → Prop) : Rn 3 30 ls st σ Q = acR 3 (o_ldi 2 31 ls st σ) ls σ Q := rn_row rfl ls st σ Q
theorem r_3_31 (ls : a_LS) (st : List Value) (σ : a_HP) (Q : Option Value → a_HP → Prop) : Rn 3 31 ls st σ Q = acR 3 (o_ldi 3 32 ls st σ) ls σ Q := rn_row rfl ls st σ Q
theorem r_3_32 (ls : a_LS) (st : List Value) (σ : a_HP) (Q : Option Value → a_HP → Prop) : Rn 3 32 ls st σ Q = acR 3 (o_ceq 44 35 ls st σ) ls σ Q := rn_row rfl ls st σ Q
theorem r_3_35 (ls : a_LS) (st : List Value) (σ : a_HP) (Q : Option Value → a_HP → Prop) : Rn 3 35 ls st σ Q = acR 3 (o_ldi 3 36 ls st σ) ls σ Q := rn_row rfl ls st σ Q
theorem r_3_36 (ls : a_LS) (st : List Value) (σ : a_HP) (Q : Option Value → a_HP → Prop) : Rn 3 36 ls st σ Q = acR 3 (o_ldi 5 38 ls st σ) ls σ Q := rn_row rfl ls st σ Q
theorem r_3_38 (ls : a_LS) (st : List Value) (σ : a_HP) (Q : Option Value → a_HP → Prop) : Rn 3 38 ls st σ Q = acR 3 (o_ivs 104 2 41 ls st σ) ls σ Q := rn_row rfl ls st σ Q
theorem r_3_41 (ls : a_LS) (st : List Value) (σ : a_HP) (Q : Option Value → a_HP → Prop) : Rn 3 41 ls st σ Q = acR 3 (o_ne 54 44 ls st σ) ls σ Q := rn_row rfl ls st σ Q
theorem r_3_44 (ls : a_LS) (st : List Value) (σ : a_HP) (Q : Option Value → a_HP → Prop) : Rn 3 44 ls st σ Q = acR 3 (o_lda 0 45 ls st σ) ls σ Q := rn_row rfl ls st σ Q
theorem r_3_45 (ls : a_LS) (st : List Value) (σ : a_HP) (Q : Option Value → a_HP → Prop) : Rn 3 45 ls st σ Q = acR 3 (o_pi (nI 0) 46 ls st σ) ls σ Q := rn_row rfl ls st σ Q
theorem r_3_46 (ls : a_LS) (st : List Value) (σ : a_HP) (Q : Option Value → a_HP → Prop) : Rn 3 46 ls st σ Q = acR 3 (o_ldi 5 48 ls st σ) ls σ Q := rn_row rfl ls st σ Q
theorem r_3_48 (ls : a_LS) (st : List Value) (σ : a_HP) (Q : Option Value → a_HP → Prop) : Rn 3 48 ls st σ Q = acR 3 (o_ivv 2 4 2 51 ls st σ) ls σ Q := rn_row rfl ls st σ Q
theorem r_3_51 (ls : a_LS) (st : List Value) (σ : a_HP) (Q : Option Value → a_HP → Prop) : Rn 3 51 ls st σ Q = acR 3 (o_go 83 ls st σ) ls σ Q := rn_row rfl ls st σ Q
theorem r_3_54 (ls : a_LS) (st : List Value) (σ : a_HP) (Q : Option Value → a_HP → Prop) : Rn 3 54 ls st σ Q = acR 3 (o_lda 0 55 ls st σ) ls σ Q := rn_row rfl ls st σ Q
theorem r_3_55 (ls : a_LS) (st : List Value) (σ : a_HP) (Q : Option Value → a_HP → Prop) : Rn 3 55 ls st σ Q = acR 3 (o_get 2 6 58 ls st σ) ls σ Q := rn_row rfl ls st σ Q
theorem r_3_58 (ls : a_LS) (st : List Value) (σ : a_HP) (Q : Option Value → a_HP → Prop) : Rn 3 58 ls st σ Q = acR 3 (o_pi (nI 2) 59 ls st σ) ls σ Q := rn_row rfl ls st σ Q
theorem r_3_59 (ls : a_LS) (st : List Value) (σ : a_HP) (Q : Option Value → a_HP → Prop) : Rn 3 59 ls st σ Q = acR 3 (o_cge 83 62 ls st σ) ls σ Q := rn_row rfl ls st σ Q
theorem r_3_62 (ls : a_LS) (st : List Value) (σ : a_HP) (Q : Option Value → a_HP → Prop) : Rn 3 62 ls st σ Q = acR 3 (o_lda 0 63 ls st σ) ls σ Q := rn_row rfl ls st σ Q
theorem r_3_63 (ls : a_LS) (st : List Value) (σ : a_HP) (Q : Option Value → a_HP → Prop) : Rn 3 63 ls st σ Q = acR 3 (o_get 2 5 66 ls st σ) ls σ Q := rn_row rfl ls st σ Q
theorem r_3_66 (ls : a_LS) (st : List Value) (σ : a_HP) (Q : Option Value → a_HP → Prop) : Rn 3 66 ls st σ Q = acR 3 (o_lda 0 67 ls st σ) ls σ Q := rn_row rfl ls st σ Q
theorem r_3_67 (ls : a_LS) (st : List Value) (σ : a_HP) (Q : Option Value → a_HP → Prop) : Rn 3 67 ls st σ Q = acR 3 (o_get 2 6 70 ls st σ) ls σ Q := rn_row rfl ls st σ Q
theorem r_3_70 (ls : a_LS) (st : List Value) (σ : a_HP) (Q : Option Value → a_HP → Prop) : Rn 3 70 ls st σ Q = acR 3 (o_ldi 5 72 ls st σ) ls σ Q := rn_row rfl ls st σ Q
theorem r_3_72 (ls : a_LS) (st : List Value) (σ : a_HP) (Q : Option Value → a_HP → Prop) : Rn 3 72 ls st σ Q = acR 3 (o_ias 73 ls st σ) ls σ Q := rn_row rfl ls st σ Q
theorem r_3_73 (ls : a_LS) (st : List Value) (σ : a_HP) (Q : Option Value → a_HP → Prop) : Rn 3 73 ls st σ Q = acR 3 (o_lda 0 74 ls st σ) ls σ Q := rn_row rfl ls st σ Q
theorem r_3_74 (ls : a_LS) (st : List Value) (σ : a_HP) (Q : Option Value → a_HP → Prop) : Rn 3 74 ls st σ Q = acR 3 (o_dup 75 ls st σ) ls σ Q := rn_row rfl ls st σ Q
theorem r_3_75 (ls : a_LS) (st : List Value) (σ : a_HP) (Q : Option Value → a_HP → Prop) : Rn 3 75 ls st σ Q = acR 3 (o_get 2 6 78 ls st σ) ls σ Q := rn_row rfl ls st σ Q
theorem r_3_78 (ls : a_LS) (st : List Value) (σ : a_HP) (Q : Option Value → a_HP → Prop) : Rn 3 78 ls st σ Q = acR 3 (o_pi (nI 1) 79 ls st σ) ls σ Q := rn_row rfl ls st σ Q
theorem r_3_79 (ls : a_LS) (st : List Value) (σ : a_HP) (Q : Option Value → a_HP → Prop) : Rn 3 79 ls st σ Q = acR 3 (o_bi f_add 80 ls st σ) ls σ Q := rn_row rfl ls st σ Q
theorem r_3_80 (ls : a_LS) (st : List Value) (σ : a_HP) (Q : Option Value → a_HP → Prop) : Rn 3 80 ls st σ Q = acR 3 (o_put 2 6 83 ls st σ) ls σ Q := rn_row rfl ls st σ Q
theorem r_3_83 (ls : a_LS) (st : List Value) (σ : a_HP) (Q : Option Value → a_HP → Prop) : Rn 3 83 ls st σ Q = acR 3 (o_ldi 2 84 ls st σ) ls σ Q := rn_row rfl ls st σ Q
theorem r_3_84 (ls : a_LS) (st : List Value) (σ : a_HP) (Q : Option Value → a_HP → Prop) : Rn 3 84 ls st σ Q = acR 3 (o_ldi 6 86 ls st σ) ls σ Q := rn_row rfl ls st σ Q
theorem r_3_86 (ls : a_LS) (st : List Value) (σ : a_HP) (Q : Option Value → a_HP → Prop) : Rn 3 86 ls st σ Q = acR 3 (o_ivs 104 2 89 ls st σ) ls σ Q := rn_row rfl ls st σ Q
theorem r_3_89 (ls : a_LS) (st : List Value) (σ : a_HP) (Q : Option Value → a_HP → Prop) : Rn 3 89 ls st σ Q = acR 3 (o_ne 99 92 ls st σ) ls σ Q := rn_row rfl ls st σ Q
theorem r_3_92 (ls : a_LS) (st : List Value) (σ : a_HP) (Q : Option Value → a_HP → Prop) : Rn 3 92 ls st σ Q = acR 3 (o_lda 0 93 ls st σ) ls σ Q := rn_row rfl ls st σ Q
theorem r_3_93 (ls : a_LS) (st : List Value) (σ : a_HP) (Q : Option Value → a_HP → Prop) : Rn 3 93 ls st σ Q = acR 3 (o_pi (nI 1) 94 ls st σ) ls σ Q := rn_row rfl ls st σ Q
theorem r_3_94 (ls : a_LS) (st : List Value) (σ : a_HP) (Q : Option Value → a_HP → Prop) : Rn 3 94 ls st σ Q = acR 3 (o_ldi 6 96 ls st σ) ls σ Q := rn_row rfl ls st σ Q
theorem r_3_96 (ls : a_LS) (st : List Value) (σ : a_HP) (Q : Option Value → a_HP → Prop) : Rn 3 96 ls st σ Q = acR 3 (o_ivv 2 4 2 99 ls st σ) ls σ Q := rn_row rfl ls st σ Q
theorem r_3_99 (ls : a_LS) (st : List Value) (σ : a_HP) (Q : Option Value → a_HP → Prop) : Rn 3 99 ls st σ Q = acR 3 (o_rv ls st σ) ls σ Q := rn_row rfl ls st σ Q
/-! 4: NetLaw$Mending.listOwn(II)V -/
theorem cl_4 (x0 : Nat) (x1 : Int32) (x2 : Int32) (σ : a_HP) (Q : Option Value → a_HP → Prop) : Cl 4 [.ref x0, .int x1, .int x2] σ Q = Rn 4 0 [some (.ref x0), some (.int x1), some (.int x2)] [] σ Q := cl_of (Nat.le_of_ble_eq_true rfl) rfl σ Q
theorem r_4_0 (ls : a_LS) (st : List Value) (σ : a_HP) (Q : Option Value → a_HP → Prop) : Rn 4 0 ls st σ Q = acR 4 (o_lda 0 1 ls st σ) ls σ Q := rn_row rfl ls st σ Q
theorem r_4_1 (ls : a_LS) (st : List Value) (σ : a_HP) (Q : Option Value → a_HP → Prop) : Rn 4 1 ls st σ Q = acR 4 (o_get 2 3 4 ls st σ) ls σ Q := rn_row rfl ls st σ Q
theorem r_4_4 (ls : a_LS) (st : List Value) (σ : a_HP) (Q : Option Value → a_HP → Prop) : Rn 4 4 ls st σ Q = acR 4 (o_ldi 1 5 ls st σ) ls σ Q := rn_row rfl ls st σ Q
theorem r_4_5 (ls : a_LS) (st : List Value) (σ : a_HP) (Q : Option Value → a_HP → Prop) : Rn 4 5 ls st σ Q = acR 4 (o_pi (nI 4) 6 ls st σ) ls σ Q := rn_row rfl ls st σ Q
theorem r_4_6 (ls : a_LS) (st : List Value) (σ : a_HP) (Q : Option Value → a_HP → Prop) : Rn 4 6 ls st σ Q = acR 4 (o_bi f_mul 7 ls st σ) ls σ Q := rn_row rfl ls st σ Q
theorem r_4_7 (ls : a_LS) (st : List Value) (σ : a_HP) (Q : Option Value → a_HP → Prop) : Rn 4 7 ls st σ Q = acR 4 (o_lda 0 8 ls st σ) ls σ Q := rn_row rfl ls st σ Q
theorem r_4_8 (ls : a_LS) (st : List Value) (σ : a_HP) (Q : Option Value → a_HP → Prop) : Rn 4 8 ls st σ Q = acR 4 (o_get 2 4 11 ls st σ) ls σ Q := rn_row rfl ls st σ Q
theorem r_4_11 (ls : a_LS) (st : List Value) (σ : a_HP) (Q : Option Value → a_HP → Prop) : Rn 4 11 ls st σ Q = acR 4 (o_ldi 1 12 ls st σ) ls σ Q := rn_row rfl ls st σ Q
theorem r_4_12 (ls : a_LS) (st : List Value) (σ : a_HP) (Q : Option Value → a_HP → Prop) : Rn 4 12 ls st σ Q = acR 4 (o_ial 13 ls st σ) ls σ Q := rn_row rfl ls st σ Q
theorem r_4_13 (ls : a_LS) (st : List Value) (σ : a_HP) (Q : Option Value → a_HP → Prop) : Rn 4 13 ls st σ Q = acR 4 (o_bi f_add 14 ls st σ) ls σ Q := rn_row rfl ls st σ Q
theorem r_4_14 (ls : a_LS) (st : List Value) (σ : a_HP) (Q : Option Value → a_HP → Prop) : Rn 4 14 ls st σ Q = acR 4 (o_ldi 2 15 ls st σ) ls σ Q := rn_row rfl ls st σ Q
theorem r_4_15 (ls : a_LS) (st : List Value) (σ : a_HP) (Q : Option Value → a_HP → Prop) : Rn 4 15 ls st σ Q = acR 4 (o_ias 16 ls st σ) ls σ Q := rn_row rfl ls st σ Q
theorem r_4_16 (ls : a_LS) (st : List Value) (σ : a_HP) (Q : Option Value → a_HP → Prop) : Rn 4 16 ls st σ Q = acR 4 (o_lda 0 17 ls st σ) ls σ Q := rn_row rfl ls st σ Q
theorem r_4_17 (ls : a_LS) (st : List Value) (σ : a_HP) (Q : Option Value → a_HP → Prop) : Rn 4 17 ls st σ Q = acR 4 (o_get 2 4 20 ls st σ) ls σ Q := rn_row rfl ls st σ Q
theorem r_4_20 (ls : a_LS) (st : List Value) (σ : a_HP) (Q : Option Value → a_HP → Prop) : Rn 4 20 ls st σ Q = acR 4 (o_ldi 1 21 ls st σ) ls σ Q := rn_row rfl ls st σ Q
theorem r_4_21 (ls : a_LS) (st : List Value) (σ : a_HP) (Q : Option Value → a_HP → Prop) : Rn 4 21 ls st σ Q = acR 4 (o_dup2 22 ls st σ) ls σ Q := rn_row rfl ls st σ Q
theorem r_4_22 (ls : a_LS) (st : List Value) (σ : a_HP) (Q : Option Value → a_HP → Prop) : Rn 4 22 ls st σ Q = acR 4 (o_ial 23 ls st σ) ls σ Q := rn_row rfl ls st σ Q
theorem r_4_23 (ls : a_LS) (st : List Value) (σ : a_HP) (Q : Option Value → a_HP → Prop) : Rn 4 23 ls st σ Q = acR 4 (o_pi (nI 1) 24 ls st σ) ls σ Q := rn_row rfl ls st σ Q
theorem r_4_24 (ls : a_LS) (st : List Value) (σ : a_HP) (Q : Option Value → a_HP → Prop) : Rn 4 24 ls st σ Q = acR 4 (o_bi f_add 25 ls st σ) ls σ Q := rn_row rfl ls st σ Q
theorem r_4_25 (ls : a_LS) (st : List Value) (σ : a_HP) (Q : Option Value → a_HP → Prop) : Rn 4 25 ls st σ Q = acR 4 (o_ias 26 ls st σ) ls σ Q := rn_row rfl ls st σ Q
theorem r_4_26 (ls : a_LS) (st : List Value) (σ : a_HP) (Q : Option Value → a_HP → Prop) : Rn 4 26 ls st σ Q = acR 4 (o_rv ls st σ) ls σ Q := rn_row rfl ls st σ Q
/-! 5: NetLaw$Mending.fillGains(LNetLaw$Net;I)V -/
theorem cl_5 (x0 : Nat) (x1 : Nat) (x2 : Int32) (σ : a_HP) (Q : Option Value → a_HP → Prop) : Cl 5 [.ref x0, .ref x1, .int x2] σ Q = Rn 5 0 [some (.ref x0), some (.ref x1), some (.int x2), none, none, none, none, none] [] σ Q := cl_of (Nat.le_of_ble_eq_true rfl) rfl σ Q
theorem r_5_0 (ls : a_LS) (st : List Value) (σ : a_HP) (Q : Option Value → a_HP → Prop) : Rn 5 0 ls st σ Q = acR 5 (o_lda 1 1 ls st σ) ls σ Q := rn_row rfl ls st σ Q
theorem r_5_1 (ls : a_LS) (st : List Value) (σ : a_HP) (Q : Option Value → a_HP → Prop) : Rn 5 1 ls st σ Q = acR 5 (o_get 3 5 4 ls st σ) ls σ Q := rn_row rfl ls st σ Q
theorem r_5_4 (ls : a_LS) (st : List Value) (σ : a_HP) (Q : Option Value → a_HP → Prop) : Rn 5 4 ls st σ Q = acR 5 (o_ldi 2 5 ls st σ) ls σ Q := rn_row rfl ls st σ Q
theorem r_5_5 (ls : a_LS) (st : List Value) (σ : a_HP) (Q : Option Value → a_HP → Prop) : Rn 5 5 ls st σ Q = acR 5 (o_ial 6 ls st σ) ls σ Q := rn_row rfl ls st σ Q
theorem r_5_6 (ls : a_LS) (st : List Value) (σ : a_HP) (Q : Option Value → a_HP → Prop) : Rn 5 6 ls st σ Q = acR 5 (o_sti 3 7 ls st σ) ls σ Q := rn_row rfl ls st σ Q
theorem r_5_7 (ls : a_LS) (st : List Value) (σ : a_HP) (Q : Option Value → a_HP → Prop) : Rn 5 7 ls st σ Q = acR 5 (o_lda 1 8 ls st σ) ls σ Q := rn_row rfl ls st σ Q
theorem r_5_8 (ls : a_LS) (st : List Value) (σ : a_HP) (Q : Option Value → a_HP → Prop) : Rn 5 8 ls st σ Q = acR 5 (o_ldi 2 9 ls st σ) ls σ Q := rn_row rfl ls st σ Q
theorem r_5_9 (ls : a_LS) (st : List Value) (σ : a_HP) (Q : Option Value → a_HP → Prop) : Rn 5 9 ls st σ Q = acR 5 (o_ivv 3 21 1 12 ls st σ) ls σ Q := rn_row rfl ls st σ Q
theorem r_5_12 (ls : a_LS) (st : List Value) (σ : a_HP) (Q : Option Value → a_HP → Prop) : Rn 5 12 ls st σ Q = acR 5 (o_sti 4 14 ls st σ) ls σ Q := rn_row rfl ls st σ Q
theorem r_5_14 (ls : a_LS) (st : List Value) (σ : a_HP) (Q : Option Value → a_HP → Prop) : Rn 5 14 ls st σ Q = acR 5 (o_lda 1 15 ls st σ) ls σ Q := rn_row rfl ls st σ Q
theorem r_5_15 (ls : a_LS) (st : List Value) (σ : a_HP) (Q : Option Value → a_HP → Prop) : Rn 5 15 ls st σ Q = acR 5 (o_ldi 2 16 ls st σ) ls σ Q := rn_row rfl ls st σ Q
theorem r_5_16 (ls : a_LS) (st : List Value) (σ : a_HP) (Q : Option Value → a_HP → Prop) : Rn 5 16 ls st σ Q = acR 5 (o_ivv 3 22 1 19 ls st σ) ls σ Q := rn_row rfl ls st σ Q
theorem r_5_19 (ls : a_LS) (st : List Value) (σ : a_HP) (Q : Option Value → a_HP → Prop) : Rn 5 19 ls st σ Q = acR 5 (o_sti 5 21 ls st σ) ls σ Q := rn_row rfl ls st σ Q
theorem r_5_21 (ls : a_LS) (st : List Value) (σ : a_HP) (Q : Option Value → a_HP → Prop) : Rn 5 21 ls st σ Q = acR 5 (o_lda 0 22 ls st σ) ls σ Q := rn_row rfl ls st σ Q
theorem r_5_22 (ls : a_LS) (st : List Value) (σ : a_HP) (Q : Option Value → a_HP → Prop) : Rn 5 22 ls st σ Q = acR 5 (o_get 2 7 25 ls st σ) ls σ Q := rn_row rfl ls st σ Q
theorem r_5_25 (ls : a_LS) (st : List Value) (σ : a_HP) (Q : Option Value → a_HP → Prop) : Rn 5 25 ls st σ Q = acR 5 (o_ldi 2 26 ls st σ) ls σ Q := rn_row rfl ls st σ Q
theorem r_5_26 (ls : a_LS) (st : List Value) (σ : a_HP) (Q : Option Value → a_HP → Prop) : Rn 5 26 ls st σ Q = acR 5 (o_ldi 3 27 ls st σ) ls σ Q := rn_row rfl ls st σ Q
theorem r_5_27 (ls : a_LS) (st : List Value) (σ : a_HP) (Q : Option Value → a_HP → Prop) : Rn 5 27 ls st σ Q = acR 5 (o_ne 34 30 ls st σ) ls σ Q := rn_row rfl ls st σ Q
theorem r_5_30 (ls : a_LS) (st : List Value) (σ : a_HP) (Q : Option Value → a_HP → Prop) : Rn 5 30 ls st σ Q = acR 5 (o_pi (nI 0) 31 ls st σ) ls σ Q := rn_row rfl ls st σ Q
theorem r_5_31 (ls : a_LS) (st : List Value) (σ : a_HP) (Q : Option Value → a_HP → Prop) : Rn 5 31 ls st σ Q = acR 5 (o_go 38 ls st σ) ls σ Q := rn_row rfl ls st σ Q
theorem r_5_34 (ls : a_LS) (st : List Value) (σ : a_HP) (Q : Option Value → a_HP → Prop) : Rn 5 34 ls st σ Q = acR 5 (o_pi (nI 9) 36 ls st σ) ls σ Q := rn_row rfl ls st σ Q
theorem r_5_36 (ls : a_LS) (st : List Value) (σ : a_HP) (Q : Option Value → a_HP → Prop) : Rn 5 36 ls st σ Q = acR 5 (o_ldi 3 37 ls st σ) ls σ Q := rn_row rfl ls st σ Q
theorem r_5_37 (ls : a_LS) (st : List Value) (σ : a_HP) (Q : Option Value → a_HP → Prop) : Rn 5 37 ls st σ Q = acR 5 (o_bi f_sub 38 ls st σ) ls σ Q := rn_row rfl ls st σ Q
theorem r_5_38 (ls : a_LS) (st : List Value) (σ : a_HP) (Q : Option Value → a_HP → Prop) : Rn 5 38 ls st σ Q = acR 5 (o_ias 39 ls st σ) ls σ Q := rn_row rfl ls st σ Q
theorem r_5_39 (ls : a_LS) (st : List Value) (σ : a_HP) (Q : Option Value → a_HP → Prop) : Rn 5 39 ls st σ Q = acR 5 (o_pi (nI 0) 40 ls st σ) ls σ Q := rn_row rfl ls st σ Q
theorem r_5_40 (ls : a_LS) (st : List Value) (σ : a_HP) (Q : Option Value → a_HP → Prop) : Rn 5 40 ls st σ Q = acR 5 (o_sti 6 42 ls st σ) ls σ Q := rn_row rfl ls st σ Q
theorem r_5_42 (ls : a_LS) (st : List Value) (σ : a_HP) (Q : Option Value → a_HP → Prop) : Rn 5 42 ls st σ Q = acR 5 (o_ldi 6 44 ls st σ) ls σ Q := rn_row rfl ls st σ Q
theorem r_5_44 (ls : a_LS) (st : List Value) (σ : a_HP) (Q : Option Value → a_HP → Prop) : Rn 5 44 ls st σ Q = acR 5 (o_lda 0 45 ls st σ) ls σ Q := rn_row rfl ls st σ Q
theorem r_5_45 (ls : a_LS) (st : List Value) (σ : a_HP) (Q : Option Value → a_HP → Prop) : Rn 5 45 ls st σ Q = acR 5 (o_get 2 7 48 ls st σ) ls σ Q := rn_row rfl ls st σ Q
theorem r_5_48 (ls : a_LS) (st : List Value) (σ : a_HP) (Q : Option Value → a_HP → Prop) : Rn 5 48 ls st σ Q = acR 5 (o_ldi 2 49 ls st σ) ls σ Q := rn_row rfl ls st σ Q
theorem r_5_49 (ls : a_LS) (st : List Value) (σ : a_HP) (Q : Option Value → a_HP → Prop) : Rn 5 49 ls st σ Q = acR 5 (o_ial 50 ls st σ) ls σ Q := rn_row rfl ls st σ Q
theorem r_5_50 (ls : a_LS) (st : List Value) (σ : a_HP) (Q : Option Value → a_HP → Prop) : Rn 5 50 ls st σ Q = acR 5 (o_cgt 97 53 ls st σ) ls σ Q := rn_row rfl ls st σ Q
theorem r_5_53 (ls : a_LS) (st : List Value) (σ : a_HP) (Q : Option Value → a_HP → Prop) : Rn 5 53 ls st σ Q = acR 5 (o_lda 1 54 ls st σ) ls σ Q := rn_row rfl ls st σ Q
theorem r_5_54 (ls : a_LS) (st : List Value) (σ : a_HP) (Q : Option Value → a_HP → Prop) : Rn 5 54 ls st σ Q = acR 5 (o_get 3 4 57 ls st σ) ls σ Q := rn_row rfl ls st σ Q
theorem r_5_57 (ls : a_LS) (st : List Value) (σ : a_HP) (Q : Option Value → a_HP → Prop) : Rn 5 57 ls st σ Q = acR 5 (o_ldi 2 58 ls st σ) ls σ Q := rn_row rfl ls st σ Q
theorem r_5_58 (ls : a_LS) (st : List Value) (σ : a_HP) (Q : Option Value → a_HP → Prop) : Rn 5 58 ls st σ Q = acR 5 (o_ial 59 ls st σ) ls σ Q := rn_row rfl ls st σ Q
theorem r_5_59 (ls : a_LS) (st : List Value) (σ : a_HP) (Q : Option Value → a_HP → Prop) : Rn 5 59 ls st σ Q = acR 5 (o_ldi 3 60 ls st σ) ls σ Q := rn_row rfl ls st σ Q
theorem r_5_60 (ls : a_LS) (st : List Value) (σ : a_HP) (Q : Option Value → a_HP → Prop) : Rn 5 60 ls st σ Q = acR 5 (o_ldi 6 62 ls st σ) ls σ Q := rn_row rfl ls st σ Q
theorem r_5_62 (ls : a_LS) (st : List Value) (σ : a_HP) (Q : Option Value → a_HP → Prop) : Rn 5 62 ls st σ Q = acR 5 (o_bi f_add 63 ls st σ) ls σ Q := rn_row rfl ls st σ Q
theorem r_5_63 (ls : a_LS) (st : List Value) (σ : a_HP) (Q : Option Value → a_HP → Prop) : Rn 5 63 ls st σ Q = acR 5 (o_lda 1 64 ls st σ) ls σ Q := rn_row rfl ls st σ Q
theorem r_5_64 (ls : a_LS) (st : List Value) (σ : a_HP) (Q : Option Value → a_HP → Prop) : Rn 5 64 ls st σ Q = acR 5 (o_get 3 0 67 ls st σ) ls σ Q := rn_row rfl ls st σ Q
theorem r_5_67 (ls : a_LS) (st : List Value) (σ : a_HP) (Q : Option Value → a_HP → Prop) : Rn 5 67 ls st σ Q = acR 5 (o_ldi 4 69 ls st σ) ls σ Q := rn_row rfl ls st σ Q
theorem r_5_69 (ls : a_LS) (st : List Value) (σ : a_HP) (Q : Option Value → a_HP → Prop) : Rn 5 69 ls st σ Q = acR 5 (o_ivs 120 4 72 ls st σ) ls σ Q := rn_row rfl ls st σ Q
theorem r_5_72 (ls : a_LS) (st : List Value) (σ : a_HP) (Q : Option Value → a_HP → Prop) : Rn 5 72 ls st σ Q = acR 5 (o_sti 7 74 ls st σ) ls σ Q := rn_row rfl ls st σ Q
theorem r_5_74 (ls : a_LS) (st : List Value) (σ : a_HP) (Q : Option Value → a_HP → Prop) : Rn 5 74 ls st σ Q = acR 5 (o_lda 0 75 ls st σ) ls σ Q := rn_row rfl ls st σ Q
theorem r_5_75 (ls : a_LS) (st : List Value) (σ : a_HP) (Q : Option Value → a_HP → Prop) : Rn 5 75 ls st σ Q = acR 5 (o_get 2 8 78 ls st σ) ls σ Q := rn_row rfl ls st σ Q
theorem r_5_78 (ls : a_LS) (st : List Value) (σ : a_HP) (Q : Option Value → a_HP → Prop) : Rn 5 78 ls st σ Q = acR 5 (o_ldi 2 79 ls st σ) ls σ Q := rn_row rfl ls st σ Q
theorem r_5_79 (ls : a_LS) (st : List Value) (σ : a_HP) (Q : Option Value → a_HP → Prop) : Rn 5 79 ls st σ Q = acR 5 (o_pi (nI 10) 81 ls st σ) ls σ Q := rn_row rfl ls st σ Q
theorem r_5_81 (ls : a_LS) (st : List Value) (σ : a_HP) (Q : Option Value → a_HP → Prop) : Rn 5 81 ls st σ Q = acR 5 (o_bi f_mul 82 ls st σ) ls σ Q := rn_row rfl ls st σ Q
theorem r_5_82 (ls : a_LS) (st : List Value) (σ : a_HP) (Q : Option Value → a_HP → Prop) : Rn 5 82 ls st σ Q = acR 5 (o_ldi 6 84 ls st σ) ls σ Q := rn_row rfl ls st σ Q
theorem r_5_84 (ls : a_LS) (st : List Value) (σ : a_HP) (Q : Option Value → a_HP → Prop) : Rn 5 84 ls st σ Q = acR 5 (o_bi f_add 85 ls st σ) ls σ Q := rn_row rfl ls st σ Q
theorem r_5_85 (ls : a_LS) (st : List Value) (σ : a_HP) (Q : Option Value → a_HP → Prop) : Rn 5 85 ls st σ Q = acR 5 (o_ldi 7 87 ls st σ) ls σ Q := rn_row rfl ls st σ Q
theorem r_5_87 (ls : a_LS) (st : List Value) (σ : a_HP) (Q : Option Value → a_HP → Prop) : Rn 5 87 ls st σ Q = acR 5 (o_ldi 5 89 ls st σ) ls σ Q := rn_row rfl ls st σ Q
theorem r_5_89 (ls : a_LS) (st : List Value) (σ : a_HP) (Q : Option Value → a_HP → Prop) : Rn 5 89 ls st σ Q = acR 5 (o_bi f_sub 90 ls st σ) ls σ Q := rn_row rfl ls st σ Q
theorem r_5_90 (ls : a_LS) (st : List Value) (σ : a_HP) (Q : Option Value → a_HP → Prop) : Rn 5 90 ls st σ Q = acR 5 (o_ias 91 ls st σ) ls σ Q := rn_row rfl ls st σ Q
theorem r_5_91 (ls : a_LS) (st : List Value) (σ : a_HP) (Q : Option Value → a_HP → Prop) : Rn 5 91 ls st σ Q = acR 5 (o_inc 6 (nI 1) 94 ls st σ) ls σ Q := rn_row rfl ls st σ Q
theorem r_5_94 (ls : a_LS) (st : List Value) (σ : a_HP) (Q : Option Value → a_HP → Prop) : Rn 5 94 ls st σ Q = acR 5 (o_go 42 ls st σ) ls σ Q := rn_row rfl ls st σ Q
theorem r_5_97 (ls : a_LS) (st : List Value) (σ : a_HP) (Q : Option Value → a_HP → Prop) : Rn 5 97 ls st σ Q = acR 5 (o_rv ls st σ) ls σ Q := rn_row rfl ls st σ Q
/-! 6: NetLaw$Mending.gained(II)I -/
theorem cl_6 (x0 : Nat) (x1 : Int32) (x2 : Int32) (σ : a_HP) (Q : Option Value → a_HP → Prop) : Cl 6 [.ref x0, .int x1, .int x2] σ Q = Rn 6 0 [some (.ref x0), some (.int x1), some (.int x2)] [] σ Q := cl_of (Nat.le_of_ble_eq_true rfl) rfl σ Q
theorem r_6_0 (ls : a_LS) (st : List Value) (σ : a_HP) (Q : Option Value → a_HP → Prop) : Rn 6 0 ls st σ Q = acR 6 (o_lda 0 1 ls st σ) ls σ Q := rn_row rfl ls st σ Q
theorem r_6_1 (ls : a_LS) (st : List Value) (σ : a_HP) (Q : Option Value → a_HP → Prop) : Rn 6 1 ls st σ Q = acR 6 (o_get 2 8 4 ls st σ) ls σ Q := rn_row rfl ls st σ Q
theorem r_6_4 (ls : a_LS) (st : List Value) (σ : a_HP) (Q : Option Value → a_HP → Prop) : Rn 6 4 ls st σ Q = acR 6 (o_ldi 1 5 ls st σ) ls σ Q := rn_row rfl ls st σ Q
theorem r_6_5 (ls : a_LS) (st : List Value) (σ : a_HP) (Q : Option Value → a_HP → Prop) : Rn 6 5 ls st σ Q = acR 6 (o_pi (nI 10) 7 ls st σ) ls σ Q := rn_row rfl ls st σ Q
theorem r_6_7 (ls : a_LS) (st : List Value) (σ : a_HP) (Q : Option Value → a_HP → Prop) : Rn 6 7 ls st σ Q = acR 6 (o_bi f_mul 8 ls st σ) ls σ Q := rn_row rfl ls st σ Q
theorem r_6_8 (ls : a_LS) (st : List Value) (σ : a_HP) (Q : Option Value → a_HP → Prop) : Rn 6 8 ls st σ Q = acR 6 (o_ldi 2 9 ls st σ) ls σ Q := rn_row rfl ls st σ Q
theorem r_6_9 (ls : a_LS) (st : List Value) (σ : a_HP) (Q : Option Value → a_HP → Prop) : Rn 6 9 ls st σ Q = acR 6 (o_bi f_add 10 ls st σ) ls σ Q := rn_row rfl ls st σ Q
theorem r_6_10 (ls : a_LS) (st : List Value) (σ : a_HP) (Q : Option Value → a_HP → Prop) : Rn 6 10 ls st σ Q = acR 6 (o_ial 11 ls st σ) ls σ Q := rn_row rfl ls st σ Q
theorem r_6_11 (ls : a_LS) (st : List Value) (σ : a_HP) (Q : Option Value → a_HP → Prop) : Rn 6 11 ls st σ Q = acR 6 (o_ri ls st σ) ls σ Q := rn_row rfl ls st σ Q
/-! 7: NetLaw$Mending.fillCosts(I)V -/
theorem cl_7 (x0 : Nat) (x1 : Int32) (σ : a_HP) (Q : Option Value → a_HP → Prop) : Cl 7 [.ref x0, .int x1] σ Q = Rn 7 0 [some (.ref x0), some (.int x1), none, none, none] [] σ Q := cl_of (Nat.le_of_ble_eq_true rfl) rfl σ Q
theorem r_7_0 (ls : a_LS) (st : List Value) (σ : a_HP) (Q : Option Value → a_HP → Prop) : Rn 7 0 ls st σ Q = acR 7 (o_lda 0 1 ls st σ) ls σ Q := rn_row rfl ls st σ Q
theorem r_7_1 (ls : a_LS) (st : List Value) (σ : a_HP) (Q : Option Value → a_HP → Prop) : Rn 7 1 ls st σ Q = acR 7 (o_ldi 1 2 ls st σ) ls σ Q := rn_row rfl ls st σ Q
theorem r_7_2 (ls : a_LS) (st : List Value) (σ : a_HP) (Q : Option Value → a_HP → Prop) : Rn 7 2 ls st σ Q = acR 7 (o_lda 0 3 ls st σ) ls σ Q := rn_row rfl ls st σ Q
theorem r_7_3 (ls : a_LS) (st : List Value) (σ : a_HP) (Q : Option Value → a_HP → Prop) : Rn 7 3 ls st σ Q = acR 7 (o_get 2 4 6 ls st σ) ls σ Q := rn_row rfl ls st σ Q
theorem r_7_6 (ls : a_LS) (st : List Value) (σ : a_HP) (Q : Option Value → a_HP → Prop) : Rn 7 6 ls st σ Q = acR 7 (o_ldi 1 7 ls st σ) ls σ Q := rn_row rfl ls st σ Q
theorem r_7_7 (ls : a_LS) (st : List Value) (σ : a_HP) (Q : Option Value → a_HP → Prop) : Rn 7 7 ls st σ Q = acR 7 (o_ial 8 ls st σ) ls σ Q := rn_row rfl ls st σ Q
theorem r_7_8 (ls : a_LS) (st : List Value) (σ : a_HP) (Q : Option Value → a_HP → Prop) : Rn 7 8 ls st σ Q = acR 7 (o_ivv 2 8 2 11 ls st σ) ls σ Q := rn_row rfl ls st σ Q
theorem r_7_11 (ls : a_LS) (st : List Value) (σ : a_HP) (Q : Option Value → a_HP → Prop) : Rn 7 11 ls st σ Q = acR 7 (o_lda 0 12 ls st σ) ls σ Q := rn_row rfl ls st σ Q
theorem r_7_12 (ls : a_LS) (st : List Value) (σ : a_HP) (Q : Option Value → a_HP → Prop) : Rn 7 12 ls st σ Q = acR 7 (o_get 2 9 15 ls st σ) ls σ Q := rn_row rfl ls st σ Q
theorem r_7_15 (ls : a_LS) (st : List Value) (σ : a_HP) (Q : Option Value → a_HP → Prop) : Rn 7 15 ls st σ Q = acR 7 (o_ldi 1 16 ls st σ) ls σ Q := rn_row rfl ls st σ Q
theorem r_7_16 (ls : a_LS) (st : List Value) (σ : a_HP) (Q : Option Value → a_HP → Prop) : Rn 7 16 ls st σ Q = acR 7 (o_pi (nI 5) 17 ls st σ) ls σ Q := rn_row rfl ls st σ Q
theorem r_7_17 (ls : a_LS) (st : List Value) (σ : a_HP) (Q : Option Value → a_HP → Prop) : Rn 7 17 ls st σ Q = acR 7 (o_bi f_mul 18 ls st σ) ls σ Q := rn_row rfl ls st σ Q
theorem r_7_18 (ls : a_LS) (st : List Value) (σ : a_HP) (Q : Option Value → a_HP → Prop) : Rn 7 18 ls st σ Q = acR 7 (o_lda 0 19 ls st σ) ls σ Q := rn_row rfl ls st σ Q
theorem r_7_19 (ls : a_LS) (st : List Value) (σ : a_HP) (Q : Option Value → a_HP → Prop) : Rn 7 19 ls st σ Q = acR 7 (o_get 2 4 22 ls st σ) ls σ Q := rn_row rfl ls st σ Q
theorem r_7_22 (ls : a_LS) (st : List Value) (σ : a_HP) (Q : Option Value → a_HP → Prop) : Rn 7 22 ls st σ Q = acR 7 (o_ldi 1 23 ls st σ) ls σ Q := rn_row rfl ls st σ Q
theorem r_7_23 (ls : a_LS) (st : List Value) (σ : a_HP) (Q : Option Value → a_HP → Prop) : Rn 7 23 ls st σ Q = acR 7 (o_ial 24 ls st σ) ls σ Q := rn_row rfl ls st σ Q
theorem r_7_24 (ls : a_LS) (st : List Value) (σ : a_HP) (Q : Option Value → a_HP → Prop) : Rn 7 24 ls st σ Q = acR 7 (o_bi f_add 25 ls st σ) ls σ Q := rn_row rfl ls st σ Q
theorem r_7_25 (ls : a_LS) (st : List Value) (σ : a_HP) (Q : Option Value → a_HP → Prop) : Rn 7 25 ls st σ Q = acR 7 (o_pi (nI 31) 27 ls st σ) ls σ Q := rn_row rfl ls st σ Q
theorem r_7_27 (ls : a_LS) (st : List Value) (σ : a_HP) (Q : Option Value → a_HP → Prop) : Rn 7 27 ls st σ Q = acR 7 (o_bi f_mul 28 ls st σ) ls σ Q := rn_row rfl ls st σ Q
theorem r_7_28 (ls : a_LS) (st : List Value) (σ : a_HP) (Q : Option Value → a_HP → Prop) : Rn 7 28 ls st σ Q = acR 7 (o_pi (nI 0) 29 ls st σ) ls σ Q := rn_row rfl ls st σ Q
theorem r_7_29 (ls : a_LS) (st : List Value) (σ : a_HP) (Q : Option Value → a_HP → Prop) : Rn 7 29 ls st σ Q = acR 7 (o_ias 30 ls st σ) ls σ Q := rn_row rfl ls st σ Q
theorem r_7_30 (ls : a_LS) (st : List Value) (σ : a_HP) (Q : Option Value → a_HP → Prop) : Rn 7 30 ls st σ Q = acR 7 (o_lda 0 31 ls st σ) ls σ Q := rn_row rfl ls st σ Q
theorem r_7_31 (ls : a_LS) (st : List Value) (σ : a_HP) (Q : Option Value → a_HP → Prop) : Rn 7 31 ls st σ Q = acR 7 (o_get 2 4 34 ls st σ) ls σ Q := rn_row rfl ls st σ Q
theorem r_7_34 (ls : a_LS) (st : List Value) (σ : a_HP) (Q : Option Value → a_HP → Prop) : Rn 7 34 ls st σ Q = acR 7 (o_ldi 1 35 ls st σ) ls σ Q := rn_row rfl ls st σ Q
theorem r_7_35 (ls : a_LS) (st : List Value) (σ : a_HP) (Q : Option Value → a_HP → Prop) : Rn 7 35 ls st σ Q = acR 7 (o_ial 36 ls st σ) ls σ Q := rn_row rfl ls st σ Q
theorem r_7_36 (ls : a_LS) (st : List Value) (σ : a_HP) (Q : Option Value → a_HP → Prop) : Rn 7 36 ls st σ Q = acR 7 (o_pi (nI 1) 37 ls st σ) ls σ Q := rn_row rfl ls st σ Q
theorem r_7_37 (ls : a_LS) (st : List Value) (σ : a_HP) (Q : Option Value → a_HP → Prop) : Rn 7 37 ls st σ Q = acR 7 (o_bi f_sub 38 ls st σ) ls σ Q := rn_row rfl ls st σ Q
theorem r_7_38 (ls : a_LS) (st : List Value) (σ : a_HP) (Q : Option Value → a_HP → Prop) : Rn 7 38 ls st σ Q = acR 7 (o_sti 2 39 ls st σ) ls σ Q := rn_row rfl ls st σ Q
theorem r_7_39 (ls : a_LS) (st : List Value) (σ : a_HP) (Q : Option Value → a_HP → Prop) : Rn 7 39 ls st σ Q = acR 7 (o_ldi 2 40 ls st σ) ls σ Q := rn_row rfl ls st σ Q
theorem r_7_40 (ls : a_LS) (st : List Value) (σ : a_HP) (Q : Option Value → a_HP → Prop) : Rn 7 40 ls st σ Q = acR 7 (o_lt 101 43 ls st σ) ls σ Q := rn_row rfl ls st σ Q
theorem r_7_43 (ls : a_LS) (st : List Value) (σ : a_HP) (Q : Option Value → a_HP → Prop) : Rn 7 43 ls st σ Q = acR 7 (o_lda 0 44 ls st σ) ls σ Q := rn_row rfl ls st σ Q
theorem r_7_44 (ls : a_LS) (st : List Value) (σ : a_HP) (Q : Option Value → a_HP → Prop) : Rn 7 44 ls st σ Q = acR 7 (o_get 2 3 47 ls st σ) ls σ Q := rn_row rfl ls st σ Q
theorem r_7_47 (ls : a_LS) (st : List Value) (σ : a_HP) (Q : Option Value → a_HP → Prop) : Rn 7 47 ls st σ Q = acR 7 (o_ldi 1 48 ls st σ) ls σ Q := rn_row rfl ls st σ Q
theorem r_7_48 (ls : a_LS) (st : List Value) (σ : a_HP) (Q : Option Value → a_HP → Prop) : Rn 7 48 ls st σ Q = acR 7 (o_pi (nI 4) 49 ls st σ) ls σ Q := rn_row rfl ls st σ Q
theorem r_7_49 (ls : a_LS) (st : List Value) (σ : a_HP) (Q : Option Value → a_HP → Prop) : Rn 7 49 ls st σ Q = acR 7 (o_bi f_mul 50 ls st σ) ls σ Q := rn_row rfl ls st σ Q
theorem r_7_50 (ls : a_LS) (st : List Value) (σ : a_HP) (Q : Option Value → a_HP → Prop) : Rn 7 50 ls st σ Q = acR 7 (o_ldi 2 51 ls st σ) ls σ Q := rn_row rfl ls st σ Q
theorem r_7_51 (ls : a_LS) (st : List Value) (σ : a_HP) (Q : Option Value → a_HP → Prop) : Rn 7 51 ls st σ Q = acR 7 (o_bi f_add 52 ls st σ) ls σ Q := rn_row rfl ls st σ Q
theorem r_7_52 (ls : a_LS) (st : List Value) (σ : a_HP) (Q : Option Value → a_HP → Prop) : Rn 7 52 ls st σ Q = acR 7 (o_ial 53 ls st σ) ls σ Q := rn_row rfl ls st σ Q
theorem r_7_53 (ls : a_LS) (st : List Value) (σ : a_HP) (Q : Option Value → a_HP → Prop) : Rn 7 53 ls st σ Q = acR 7 (o_sti 3 54 ls st σ) ls σ Q := rn_row rfl ls st σ Q
theorem r_7_54 (ls : a_LS) (st : List Value) (σ : a_HP) (Q : Option Value → a_HP → Prop) : Rn 7 54 ls st σ Q = acR 7 (o_lda 0 55 ls st σ) ls σ Q := rn_row rfl ls st σ Q
theorem r_7_55 (ls : a_LS) (st : List Value) (σ : a_HP) (Q : Option Value → a_HP → Prop) : Rn 7 55 ls st σ Q = acR 7 (o_ldi 1 56 ls st σ) ls σ Q := rn_row rfl ls st σ Q
theorem r_7_56 (ls : a_LS) (st : List Value) (σ : a_HP) (Q : Option Value → a_HP → Prop) : Rn 7 56 ls st σ Q = acR 7 (o_ldi 2 57 ls st σ) ls σ Q := rn_row rfl ls st σ Q
theorem r_7_57 (ls : a_LS) (st : List Value) (σ : a_HP) (Q : Option Value → a_HP → Prop) : Rn 7 57 ls st σ Q = acR 7 (o_ivv 2 8 2 60 ls st σ) ls σ Q := rn_row rfl ls st σ Q
theorem r_7_60 (ls : a_LS) (st : List Value) (σ : a_HP) (Q : Option Value → a_HP → Prop) : Rn 7 60 ls st σ Q = acR 7 (o_pi (nI 0) 61 ls st σ) ls σ Q := rn_row rfl ls st σ Q
theorem r_7_61 (ls : a_LS) (st : List Value) (σ : a_HP) (Q : Option Value → a_HP → Prop) : Rn 7 61 ls st σ Q = acR 7 (o_sti 4 63 ls st σ) ls σ Q := rn_row rfl ls st σ Q
theorem r_7_63 (ls : a_LS) (st : List Value) (σ : a_HP) (Q : Option Value → a_HP → Prop) : Rn 7 63 ls st σ Q = acR 7 (o_ldi 4 65 ls st σ) ls σ Q := rn_row rfl ls st σ Q
theorem r_7_65 (ls : a_LS) (st : List Value) (σ : a_HP) (Q : Option Value → a_HP → Prop) : Rn 7 65 ls st σ Q = acR 7 (o_lda 0 66 ls st σ) ls σ Q := rn_row rfl ls st σ Q
theorem r_7_66 (ls : a_LS) (st : List Value) (σ : a_HP) (Q : Option Value → a_HP → Prop) : Rn 7 66 ls st σ Q = acR 7 (o_get 2 7 69 ls st σ) ls σ Q := rn_row rfl ls st σ Q
theorem r_7_69 (ls : a_LS) (st : List Value) (σ : a_HP) (Q : Option Value → a_HP → Prop) : Rn 7 69 ls st σ Q = acR 7 (o_ldi 3 70 ls st σ) ls σ Q := rn_row rfl ls st σ Q
theorem r_7_70 (ls : a_LS) (st : List Value) (σ : a_HP) (Q : Option Value → a_HP → Prop) : Rn 7 70 ls st σ Q = acR 7 (o_ial 71 ls st σ) ls σ Q := rn_row rfl ls st σ Q
theorem r_7_71 (ls : a_LS) (st : List Value) (σ : a_HP) (Q : Option Value → a_HP → Prop) : Rn 7 71 ls st σ Q = acR 7 (o_cgt 95 74 ls st σ) ls σ Q := rn_row rfl ls st σ Q
theorem r_7_74 (ls : a_LS) (st : List Value) (σ : a_HP) (Q : Option Value → a_HP → Prop) : Rn 7 74 ls st σ Q = acR 7 (o_lda 0 75 ls st σ) ls σ Q := rn_row rfl ls st σ Q
theorem r_7_75 (ls : a_LS) (st : List Value) (σ : a_HP) (Q : Option Value → a_HP → Prop) : Rn 7 75 ls st σ Q = acR 7 (o_ldi 1 76 ls st σ) ls σ Q := rn_row rfl ls st σ Q
theorem r_7_76 (ls : a_LS) (st : List Value) (σ : a_HP) (Q : Option Value → a_HP → Prop) : Rn 7 76 ls st σ Q = acR 7 (o_ldi 2 77 ls st σ) ls σ Q := rn_row rfl ls st σ Q
theorem r_7_77 (ls : a_LS) (st : List Value) (σ : a_HP) (Q : Option Value → a_HP → Prop) : Rn 7 77 ls st σ Q = acR 7 (o_ldi 4 79 ls st σ) ls σ Q := rn_row rfl ls st σ Q
theorem r_7_79 (ls : a_LS) (st : List Value) (σ : a_HP) (Q : Option Value → a_HP → Prop) : Rn 7 79 ls st σ Q = acR 7 (o_lda 0 80 ls st σ) ls σ Q := rn_row rfl ls st σ Q
theorem r_7_80 (ls : a_LS) (st : List Value) (σ : a_HP) (Q : Option Value → a_HP → Prop) : Rn 7 80 ls st σ Q = acR 7 (o_ldi 3 81 ls st σ) ls σ Q := rn_row rfl ls st σ Q
theorem r_7_81 (ls : a_LS) (st : List Value) (σ : a_HP) (Q : Option Value → a_HP → Prop) : Rn 7 81 ls st σ Q = acR 7 (o_ldi 4 83 ls st σ) ls σ Q := rn_row rfl ls st σ Q
theorem r_7_83 (ls : a_LS) (st : List Value) (σ : a_HP) (Q : Option Value → a_HP → Prop) : Rn 7 83 ls st σ Q = acR 7 (o_ivv 2 6 2 86 ls st σ) ls σ Q := rn_row rfl ls st σ Q
theorem r_7_86 (ls : a_LS) (st : List Value) (σ : a_HP) (Q : Option Value → a_HP → Prop) : Rn 7 86 ls st σ Q = acR 7 (o_ivv 2 9 4 89 ls st σ) ls σ Q := rn_row rfl ls st σ Q
theorem r_7_89 (ls : a_LS) (st : List Value) (σ : a_HP) (Q : Option Value → a_HP → Prop) : Rn 7 89 ls st σ Q = acR 7 (o_inc 4 (nI 1) 92 ls st σ) ls σ Q := rn_row rfl ls st σ Q
theorem r_7_92 (ls : a_LS) (st : List Value) (σ : a_HP) (Q : Option Value → a_HP → Prop) : Rn 7 92 ls st σ Q = acR 7 (o_go 63 ls st σ) ls σ Q := rn_row rfl ls st σ Q
theorem r_7_95 (ls : a_LS) (st : List Value) (σ : a_HP) (Q : Option Value → a_HP → Prop) : Rn 7 95 ls st σ Q = acR 7 (o_inc 2 (-1) 98 ls st σ) ls σ Q := rn_row rfl ls st σ Q
theorem r_7_98 (ls : a_LS) (st : List Value) (σ : a_HP) (Q : Option Value → a_HP → Prop) : Rn 7 98 ls st σ Q = acR 7 (o_go 39 ls st σ) ls σ Q := rn_row rfl ls st σ Q
theorem r_7_101 (ls : a_LS) (st : List Value) (σ : a_HP) (Q : Option Value → a_HP → Prop) : Rn 7 101 ls st σ Q = acR 7 (o_rv ls st σ) ls σ Q := rn_row rfl ls st σ Q
/-! 8: NetLaw$Mending.clearCosts(II)V -/
theorem cl_8 (x0 : Nat) (x1 : Int32) (x2 : Int32) (σ : a_HP) (Q : Option Value → a_HP → Prop) : Cl 8 [.ref x0, .int x1, .int x2] σ Q = Rn 8 0 [some (.ref x0), some (.int x1), some (.int x2), none, none] [] σ Q := cl_of (Nat.le_of_ble_eq_true rfl) rfl σ Q
theorem r_8_0 (ls : a_LS) (st : List Value) (σ : a_HP) (Q : Option Value → a_HP → Prop) : Rn 8 0 ls st σ Q = acR 8 (o_ldi 1 1 ls st σ) ls σ Q := rn_row rfl ls st σ Q
theorem r_8_1 (ls : a_LS) (st : List Value) (σ : a_HP) (Q : Option Value → a_HP → Prop) : Rn 8 1 ls st σ Q = acR 8 (o_pi (nI 5) 2 ls st σ) ls σ Q := rn_row rfl ls st σ Q
theorem r_8_2 (ls : a_LS) (st : List Value) (σ : a_HP) (Q : Option Value → a_HP → Prop) : Rn 8 2 ls st σ Q = acR 8 (o_bi f_mul 3 ls st σ) ls σ Q := rn_row rfl ls st σ Q
theorem r_8_3 (ls : a_LS) (st : List Value) (σ : a_HP) (Q : Option Value → a_HP → Prop) : Rn 8 3 ls st σ Q = acR 8 (o_ldi 2 4 ls st σ) ls σ Q := rn_row rfl ls st σ Q
theorem r_8_4 (ls : a_LS) (st : List Value) (σ : a_HP) (Q : Option Value → a_HP → Prop) : Rn 8 4 ls st σ Q = acR 8 (o_bi f_add 5 ls st σ) ls σ Q := rn_row rfl ls st σ Q
theorem r_8_5 (ls : a_LS) (st : List Value) (σ : a_HP) (Q : Option Value → a_HP → Prop) : Rn 8 5 ls st σ Q = acR 8 (o_pi (nI 31) 7 ls st σ) ls σ Q := rn_row rfl ls st σ Q
theorem r_8_7 (ls : a_LS) (st : List Value) (σ : a_HP) (Q : Option Value → a_HP → Prop) : Rn 8 7 ls st σ Q = acR 8 (o_bi f_mul 8 ls st σ) ls σ Q := rn_row rfl ls st σ Q
theorem r_8_8 (ls : a_LS) (st : List Value) (σ : a_HP) (Q : Option Value → a_HP → Prop) : Rn 8 8 ls st σ Q = acR 8 (o_sti 3 9 ls st σ) ls σ Q := rn_row rfl ls st σ Q
theorem r_8_9 (ls : a_LS) (st : List Value) (σ : a_HP) (Q : Option Value → a_HP → Prop) : Rn 8 9 ls st σ Q = acR 8 (o_pi (nI 0) 10 ls st σ) ls σ Q := rn_row rfl ls st σ Q
theorem r_8_10 (ls : a_LS) (st : List Value) (σ : a_HP) (Q : Option Value → a_HP → Prop) : Rn 8 10 ls st σ Q = acR 8 (o_sti 4 12 ls st σ) ls σ Q := rn_row rfl ls st σ Q
theorem r_8_12 (ls : a_LS) (st : List Value) (σ : a_HP) (Q : Option Value → a_HP → Prop) : Rn 8 12 ls st σ Q = acR 8 (o_ldi 4 14 ls st σ) ls σ Q := rn_row rfl ls st σ Q
theorem r_8_14 (ls : a_LS) (st : List Value) (σ : a_HP) (Q : Option Value → a_HP → Prop) : Rn 8 14 ls st σ Q = acR 8 (o_pi (nI 31) 16 ls st σ) ls σ Q := rn_row rfl ls st σ Q
theorem r_8_16 (ls : a_LS) (st : List Value) (σ : a_HP) (Q : Option Value → a_HP → Prop) : Rn 8 16 ls st σ Q = acR 8 (o_cge 37 19 ls st σ) ls σ Q := rn_row rfl ls st σ Q
theorem r_8_19 (ls : a_LS) (st : List Value) (σ : a_HP) (Q : Option Value → a_HP → Prop) : Rn 8 19 ls st σ Q = acR 8 (o_lda 0 20 ls st σ) ls σ Q := rn_row rfl ls st σ Q
theorem r_8_20 (ls : a_LS) (st : List Value) (σ : a_HP) (Q : Option Value → a_HP → Prop) : Rn 8 20 ls st σ Q = acR 8 (o_get 2 9 23 ls st σ) ls σ Q := rn_row rfl ls st σ Q
theorem r_8_23 (ls : a_LS) (st : List Value) (σ : a_HP) (Q : Option Value → a_HP → Prop) : Rn 8 23 ls st σ Q = acR 8 (o_ldi 3 24 ls st σ) ls σ Q := rn_row rfl ls st σ Q
theorem r_8_24 (ls : a_LS) (st : List Value) (σ : a_HP) (Q : Option Value → a_HP → Prop) : Rn 8 24 ls st σ Q = acR 8 (o_ldi 4 26 ls st σ) ls σ Q := rn_row rfl ls st σ Q
theorem r_8_26 (ls : a_LS) (st : List Value) (σ : a_HP) (Q : Option Value → a_HP → Prop) : Rn 8 26 ls st σ Q = acR 8 (o_bi f_add 27 ls st σ) ls σ Q := rn_row rfl ls st σ Q
theorem r_8_27 (ls : a_LS) (st : List Value) (σ : a_HP) (Q : Option Value → a_HP → Prop) : Rn 8 27 ls st σ Q = acR 8 (o_pi (nI 1000) 30 ls st σ) ls σ Q := rn_row rfl ls st σ Q
theorem r_8_30 (ls : a_LS) (st : List Value) (σ : a_HP) (Q : Option Value → a_HP → Prop) : Rn 8 30 ls st σ Q = acR 8 (o_ias 31 ls st σ) ls σ Q := rn_row rfl ls st σ Q
theorem r_8_31 (ls : a_LS) (st : List Value) (σ : a_HP) (Q : Option Value → a_HP → Prop) : Rn 8 31 ls st σ Q = acR 8 (o_inc 4 (nI 1) 34 ls st σ) ls σ Q := rn_row rfl ls st σ Q
theorem r_8_34 (ls : a_LS) (st : List Value) (σ : a_HP) (Q : Option Value → a_HP → Prop) : Rn 8 34 ls st σ Q = acR 8 (o_go 12 ls st σ) ls σ Q := rn_row rfl ls st σ Q
theorem r_8_37 (ls : a_LS) (st : List Value) (σ : a_HP) (Q : Option Value → a_HP → Prop) : Rn 8 37 ls st σ Q = acR 8 (o_rv ls st σ) ls σ Q := rn_row rfl ls st σ Q
/-! 9: NetLaw$Mending.lowerCosts(IIII)V -/
theorem cl_9 (x0 : Nat) (x1 : Int32) (x2 : Int32) (x3 : Int32) (x4 : Int32) (σ : a_HP) (Q : Option Value → a_HP → Prop) : Cl 9 [.ref x0, .int x1, .int x2, .int x3, .int x4] σ Q = Rn 9 0 [some (.ref x0), some (.int x1), some (.int x2), some (.int x3), some (.int x4), none, none, none] [] σ Q := cl_of (Nat.le_of_ble_eq_true rfl) rfl σ Q
theorem r_9_0 (ls : a_LS) (st : List Value) (σ : a_HP) (Q : Option Value → a_HP → Prop) : Rn 9 0 ls st σ Q = acR 9 (o_ldi 1 1 ls st σ) ls σ Q := rn_row rfl ls st σ Q
theorem r_9_1 (ls : a_LS) (st : List Value) (σ : a_HP) (Q : Option Value → a_HP → Prop) : Rn 9 1 ls st σ Q = acR 9 (o_pi (nI 5) 2 ls st σ) ls σ Q := rn_row rfl ls st σ Q
theorem r_9_2 (ls : a_LS) (st : List Value) (σ : a_HP) (Q : Option Value → a_HP → Prop) : Rn 9 2 ls st σ Q = acR 9 (o_bi f_mul 3 ls st σ) ls σ Q := rn_row rfl ls st σ Q
theorem r_9_3 (ls : a_LS) (st : List Value) (σ : a_HP) (Q : Option Value → a_HP → Prop) : Rn 9 3 ls st σ Q = acR 9 (o_ldi 2 4 ls st σ) ls σ Q := rn_row rfl ls st σ Q
theorem r_9_4 (ls : a_LS) (st : List Value) (σ : a_HP) (Q : Option Value → a_HP → Prop) : Rn 9 4 ls st σ Q = acR 9 (o_bi f_add 5 ls st σ) ls σ Q := rn_row rfl ls st σ Q
theorem r_9_5 (ls : a_LS) (st : List Value) (σ : a_HP) (Q : Option Value → a_HP → Prop) : Rn 9 5 ls st σ Q = acR 9 (o_pi (nI 31) 7 ls st σ) ls σ Q := rn_row rfl ls st σ Q
theorem r_9_7 (ls : a_LS) (st : List Value) (σ : a_HP) (Q : Option Value → a_HP → Prop) : Rn 9 7 ls st σ Q = acR 9 (o_bi f_mul 8 ls st σ) ls σ Q := rn_row rfl ls st σ Q
theorem r_9_8 (ls : a_LS) (st : List Value) (σ : a_HP) (Q : Option Value → a_HP → Prop) : Rn 9 8 ls st σ Q = acR 9 (o_sti 5 10 ls st σ) ls σ Q := rn_row rfl ls st σ Q
theorem r_9_10 (ls : a_LS) (st : List Value) (σ : a_HP) (Q : Option Value → a_HP → Prop) : Rn 9 10 ls st σ Q = acR 9 (o_pi (nI 0) 11 ls st σ) ls σ Q := rn_row rfl ls st σ Q
theorem r_9_11 (ls : a_LS) (st : List Value) (σ : a_HP) (Q : Option Value → a_HP → Prop) : Rn 9 11 ls st σ Q = acR 9 (o_sti 6 13 ls st σ) ls σ Q := rn_row rfl ls st σ Q
theorem r_9_13 (ls : a_LS) (st : List Value) (σ : a_HP) (Q : Option Value → a_HP → Prop) : Rn 9 13 ls st σ Q = acR 9 (o_ldi 6 15 ls st σ) ls σ Q := rn_row rfl ls st σ Q
theorem r_9_15 (ls : a_LS) (st : List Value) (σ : a_HP) (Q : Option Value → a_HP → Prop) : Rn 9 15 ls st σ Q = acR 9 (o_pi (nI 31) 17 ls st σ) ls σ Q := rn_row rfl ls st σ Q
theorem r_9_17 (ls : a_LS) (st : List Value) (σ : a_HP) (Q : Option Value → a_HP → Prop) : Rn 9 17 ls st σ Q = acR 9 (o_cge 68 20 ls st σ) ls σ Q := rn_row rfl ls st σ Q
theorem r_9_20 (ls : a_LS) (st : List Value) (σ : a_HP) (Q : Option Value → a_HP → Prop) : Rn 9 20 ls st σ Q = acR 9 (o_ldi 3 21 ls st σ) ls σ Q := rn_row rfl ls st σ Q
theorem r_9_21 (ls : a_LS) (st : List Value) (σ : a_HP) (Q : Option Value → a_HP → Prop) : Rn 9 21 ls st σ Q = acR 9 (o_lda 0 22 ls st σ) ls σ Q := rn_row rfl ls st σ Q
theorem r_9_22 (ls : a_LS) (st : List Value) (σ : a_HP) (Q : Option Value → a_HP → Prop) : Rn 9 22 ls st σ Q = acR 9 (o_ldi 1 23 ls st σ) ls σ Q := rn_row rfl ls st σ Q
theorem r_9_23 (ls : a_LS) (st : List Value) (σ : a_HP) (Q : Option Value → a_HP → Prop) : Rn 9 23 ls st σ Q = acR 9 (o_ldi 2 24 ls st σ) ls σ Q := rn_row rfl ls st σ Q
theorem r_9_24 (ls : a_LS) (st : List Value) (σ : a_HP) (Q : Option Value → a_HP → Prop) : Rn 9 24 ls st σ Q = acR 9 (o_pi (nI 1) 25 ls st σ) ls σ Q := rn_row rfl ls st σ Q
theorem r_9_25 (ls : a_LS) (st : List Value) (σ : a_HP) (Q : Option Value → a_HP → Prop) : Rn 9 25 ls st σ Q = acR 9 (o_bi f_add 26 ls st σ) ls σ Q := rn_row rfl ls st σ Q
theorem r_9_26 (ls : a_LS) (st : List Value) (σ : a_HP) (Q : Option Value → a_HP → Prop) : Rn 9 26 ls st σ Q = acR 9 (o_ldi 6 28 ls st σ) ls σ Q := rn_row rfl ls st σ Q
theorem r_9_28 (ls : a_LS) (st : List Value) (σ : a_HP) (Q : Option Value → a_HP → Prop) : Rn 9 28 ls st σ Q = acR 9 (o_ldi 4 30 ls st σ) ls σ Q := rn_row rfl ls st σ Q
theorem r_9_30 (ls : a_LS) (st : List Value) (σ : a_HP) (Q : Option Value → a_HP → Prop) : Rn 9 30 ls st σ Q = acR 9 (o_bi f_sub 31 ls st σ) ls σ Q := rn_row rfl ls st σ Q
theorem r_9_31 (ls : a_LS) (st : List Value) (σ : a_HP) (Q : Option Value → a_HP → Prop) : Rn 9 31 ls st σ Q = acR 9 (o_ivv 2 10 3 34 ls st σ) ls σ Q := rn_row rfl ls st σ Q
theorem r_9_34 (ls : a_LS) (st : List Value) (σ : a_HP) (Q : Option Value → a_HP → Prop) : Rn 9 34 ls st σ Q = acR 9 (o_bi f_add 35 ls st σ) ls σ Q := rn_row rfl ls st σ Q
theorem r_9_35 (ls : a_LS) (st : List Value) (σ : a_HP) (Q : Option Value → a_HP → Prop) : Rn 9 35 ls st σ Q = acR 9 (o_sti 7 37 ls st σ) ls σ Q := rn_row rfl ls st σ Q
theorem r_9_37 (ls : a_LS) (st : List Value) (σ : a_HP) (Q : Option Value → a_HP → Prop) : Rn 9 37 ls st σ Q = acR 9 (o_lda 0 38 ls st σ) ls σ Q := rn_row rfl ls st σ Q
theorem r_9_38 (ls : a_LS) (st : List Value) (σ : a_HP) (Q : Option Value → a_HP → Prop) : Rn 9 38 ls st σ Q = acR 9 (o_get 2 9 41 ls st σ) ls σ Q := rn_row rfl ls st σ Q
theorem r_9_41 (ls : a_LS) (st : List Value) (σ : a_HP) (Q : Option Value → a_HP → Prop) : Rn 9 41 ls st σ Q = acR 9 (o_ldi 5 43 ls st σ) ls σ Q := rn_row rfl ls st σ Q
theorem r_9_43 (ls : a_LS) (st : List Value) (σ : a_HP) (Q : Option Value → a_HP → Prop) : Rn 9 43 ls st σ Q = acR 9 (o_ldi 6 45 ls st σ) ls σ Q := rn_row rfl ls st σ Q
theorem r_9_45 (ls : a_LS) (st : List Value) (σ : a_HP) (Q : Option Value → a_HP → Prop) : Rn 9 45 ls st σ Q = acR 9 (o_bi f_add 46 ls st σ) ls σ Q := rn_row rfl ls st σ Q
theorem r_9_46 (ls : a_LS) (st : List Value) (σ : a_HP) (Q : Option Value → a_HP → Prop) : Rn 9 46 ls st σ Q = acR 9 (o_lda 0 47 ls st σ) ls σ Q := rn_row rfl ls st σ Q
theorem r_9_47 (ls : a_LS) (st : List Value) (σ : a_HP) (Q : Option Value → a_HP → Prop) : Rn 9 47 ls st σ Q = acR 9 (o_get 2 9 50 ls st σ) ls σ Q := rn_row rfl ls st σ Q
theorem r_9_50 (ls : a_LS) (st : List Value) (σ : a_HP) (Q : Option Value → a_HP → Prop) : Rn 9 50 ls st σ Q = acR 9 (o_ldi 5 52 ls st σ) ls σ Q := rn_row rfl ls st σ Q
theorem r_9_52 (ls : a_LS) (st : List Value) (σ : a_HP) (Q : Option Value → a_HP → Prop) : Rn 9 52 ls st σ Q = acR 9 (o_ldi 6 54 ls st σ) ls σ Q := rn_row rfl ls st σ Q
theorem r_9_54 (ls : a_LS) (st : List Value) (σ : a_HP) (Q : Option Value → a_HP → Prop) : Rn 9 54 ls st σ Q = acR 9 (o_bi f_add 55 ls st σ) ls σ Q := rn_row rfl ls st σ Q
theorem r_9_55 (ls : a_LS) (st : List Value) (σ : a_HP) (Q : Option Value → a_HP → Prop) : Rn 9 55 ls st σ Q = acR 9 (o_ial 56 ls st σ) ls σ Q := rn_row rfl ls st σ Q
theorem r_9_56 (ls : a_LS) (st : List Value) (σ : a_HP) (Q : Option Value → a_HP → Prop) : Rn 9 56 ls st σ Q = acR 9 (o_ldi 7 58 ls st σ) ls σ Q := rn_row rfl ls st σ Q
theorem r_9_58 (ls : a_LS) (st : List Value) (σ : a_HP) (Q : Option Value → a_HP → Prop) : Rn 9 58 ls st σ Q = acR 9 (o_ivs 208 2 61 ls st σ) ls σ Q := rn_row rfl ls st σ Q
theorem r_9_61 (ls : a_LS) (st : List Value) (σ : a_HP) (Q : Option Value → a_HP → Prop) : Rn 9 61 ls st σ Q = acR 9 (o_ias 62 ls st σ) ls σ Q := rn_row rfl ls st σ Q
theorem r_9_62 (ls : a_LS) (st : List Value) (σ : a_HP) (Q : Option Value → a_HP → Prop) : Rn 9 62 ls st σ Q = acR 9 (o_inc 6 (nI 1) 65 ls st σ) ls σ Q := rn_row rfl ls st σ Q
theorem r_9_65 (ls : a_LS) (st : List Value) (σ : a_HP) (Q : Option Value → a_HP → Prop) : Rn 9 65 ls st σ Q = acR 9 (o_go 13 ls st σ) ls σ Q := rn_row rfl ls st σ Q
theorem r_9_68 (ls : a_LS) (st : List Value) (σ : a_HP) (Q : Option Value → a_HP → Prop) : Rn 9 68 ls st σ Q = acR 9 (o_rv ls st σ) ls σ Q := rn_row rfl ls st σ Q
/-! 10: NetLaw$Mending.costOf(III)I -/
theorem cl_10 (x0 : Nat) (x1 : Int32) (x2 : Int32) (x3 : Int32) (σ : a_HP) (Q : Option Value → a_HP → Prop) : Cl 10 [.ref x0, .int x1, .int x2, .int x3] σ Q = Rn 10 0 [some (.ref x0), some (.int x1), some (.int x2), some (.int x3)] [] σ Q := cl_of (Nat.le_of_ble_eq_true rfl) rfl σ Q
theorem r_10_0 (ls : a_LS) (st : List Value) (σ : a_HP) (Q : Option Value → a_HP → Prop) : Rn 10 0 ls st σ Q = acR 10 (o_lda 0 1 ls st σ) ls σ Q := rn_row rfl ls st σ Q
theorem r_10_1 (ls : a_LS) (st : List Value) (σ : a_HP) (Q : Option Value → a_HP → Prop) : Rn 10 1 ls st σ Q = acR 10 (o_get 2 9 4 ls st σ) ls σ Q := rn_row rfl ls st σ Q
theorem r_10_4 (ls : a_LS) (st : List Value) (σ : a_HP) (Q : Option Value → a_HP → Prop) : Rn 10 4 ls st σ Q = acR 10 (o_ldi 1 5 ls st σ) ls σ Q := rn_row rfl ls st σ Q
theorem r_10_5 (ls : a_LS) (st : List Value) (σ : a_HP) (Q : Option Value → a_HP → Prop) : Rn 10 5 ls st σ Q = acR 10 (o_pi (nI 5) 6 ls st σ) ls σ Q := rn_row rfl ls st σ Q
theorem r_10_6 (ls : a_LS) (st : List Value) (σ : a_HP) (Q : Option Value → a_HP → Prop) : Rn 10 6 ls st σ Q = acR 10 (o_bi f_mul 7 ls st σ) ls σ Q := rn_row rfl ls st σ Q
theorem r_10_7 (ls : a_LS) (st : List Value) (σ : a_HP) (Q : Option Value → a_HP → Prop) : Rn 10 7 ls st σ Q = acR 10 (o_ldi 2 8 ls st σ) ls σ Q := rn_row rfl ls st σ Q
theorem r_10_8 (ls : a_LS) (st : List Value) (σ : a_HP) (Q : Option Value → a_HP → Prop) : Rn 10 8 ls st σ Q = acR 10 (o_bi f_add 9 ls st σ) ls σ Q := rn_row rfl ls st σ Q
theorem r_10_9 (ls : a_LS) (st : List Value) (σ : a_HP) (Q : Option Value → a_HP → Prop) : Rn 10 9 ls st σ Q = acR 10 (o_pi (nI 31) 11 ls st σ) ls σ Q := rn_row rfl ls st σ Q
theorem r_10_11 (ls : a_LS) (st : List Value) (σ : a_HP) (Q : Option Value → a_HP → Prop) : Rn 10 11 ls st σ Q = acR 10 (o_bi f_mul 12 ls st σ) ls σ Q := rn_row rfl ls st σ Q
theorem r_10_12 (ls : a_LS) (st : List Value) (σ : a_HP) (Q : Option Value → a_HP → Prop) : Rn 10 12 ls st σ Q = acR 10 (o_pi (nI 0) 13 ls st σ) ls σ Q := rn_row rfl ls st σ Q
theorem r_10_13 (ls : a_LS) (st : List Value) (σ : a_HP) (Q : Option Value → a_HP → Prop) : Rn 10 13 ls st σ Q = acR 10 (o_ldi 3 14 ls st σ) ls σ Q := rn_row rfl ls st σ Q
theorem r_10_14 (ls : a_LS) (st : List Value) (σ : a_HP) (Q : Option Value → a_HP → Prop) : Rn 10 14 ls st σ Q = acR 10 (o_ivs 207 2 17 ls st σ) ls σ Q := rn_row rfl ls st σ Q
theorem r_10_17 (ls : a_LS) (st : List Value) (σ : a_HP) (Q : Option Value → a_HP → Prop) : Rn 10 17 ls st σ Q = acR 10 (o_bi f_add 18 ls st σ) ls σ Q := rn_row rfl ls st σ Q
theorem r_10_18 (ls : a_LS) (st : List Value) (σ : a_HP) (Q : Option Value → a_HP → Prop) : Rn 10 18 ls st σ Q = acR 10 (o_ial 19 ls st σ) ls σ Q := rn_row rfl ls st σ Q
theorem r_10_19 (ls : a_LS) (st : List Value) (σ : a_HP) (Q : Option Value → a_HP → Prop) : Rn 10 19 ls st σ Q = acR 10 (o_ri ls st σ) ls σ Q := rn_row rfl ls st σ Q
/-! 11: NetLaw$Mending.leastOverShared()I -/
theorem cl_11 (x0 : Nat) (σ : a_HP) (Q : Option Value → a_HP → Prop) : Cl 11 [.ref x0] σ Q = Rn 11 0 [some (.ref x0), none, none, none, none, none] [] σ Q := cl_of (Nat.le_of_ble_eq_true rfl) rfl σ Q
theorem r_11_0 (ls : a_LS) (st : List Value) (σ : a_HP) (Q : Option Value → a_HP → Prop) : Rn 11 0 ls st σ Q = acR 11 (o_lda 0 1 ls st σ) ls σ Q := rn_row rfl ls st σ Q
theorem r_11_1 (ls : a_LS) (st : List Value) (σ : a_HP) (Q : Option Value → a_HP → Prop) : Rn 11 1 ls st σ Q = acR 11 (o_get 2 6 4 ls st σ) ls σ Q := rn_row rfl ls st σ Q
theorem r_11_4 (ls : a_LS) (st : List Value) (σ : a_HP) (Q : Option Value → a_HP → Prop) : Rn 11 4 ls st σ Q = acR 11 (o_le 21 7 ls st σ) ls σ Q := rn_row rfl ls st σ Q
theorem r_11_7 (ls : a_LS) (st : List Value) (σ : a_HP) (Q : Option Value → a_HP → Prop) : Rn 11 7 ls st σ Q = acR 11 (o_lda 0 8 ls st σ) ls σ Q := rn_row rfl ls st σ Q
theorem r_11_8 (ls : a_LS) (st : List Value) (σ : a_HP) (Q : Option Value → a_HP → Prop) : Rn 11 8 ls st σ Q = acR 11 (o_get 2 7 11 ls st σ) ls σ Q := rn_row rfl ls st σ Q
theorem r_11_11 (ls : a_LS) (st : List Value) (σ : a_HP) (Q : Option Value → a_HP → Prop) : Rn 11 11 ls st σ Q = acR 11 (o_lda 0 12 ls st σ) ls σ Q := rn_row rfl ls st σ Q
theorem r_11_12 (ls : a_LS) (st : List Value) (σ : a_HP) (Q : Option Value → a_HP → Prop) : Rn 11 12 ls st σ Q = acR 11 (o_get 2 5 15 ls st σ) ls σ Q := rn_row rfl ls st σ Q
theorem r_11_15 (ls : a_LS) (st : List Value) (σ : a_HP) (Q : Option Value → a_HP → Prop) : Rn 11 15 ls st σ Q = acR 11 (o_pi (nI 0) 16 ls st σ) ls σ Q := rn_row rfl ls st σ Q
theorem r_11_16 (ls : a_LS) (st : List Value) (σ : a_HP) (Q : Option Value → a_HP → Prop) : Rn 11 16 ls st σ Q = acR 11 (o_ial 17 ls st σ) ls σ Q := rn_row rfl ls st σ Q
theorem r_11_17 (ls : a_LS) (st : List Value) (σ : a_HP) (Q : Option Value → a_HP → Prop) : Rn 11 17 ls st σ Q = acR 11 (o_ial 18 ls st σ) ls σ Q := rn_row rfl ls st σ Q
theorem r_11_18 (ls : a_LS) (st : List Value) (σ : a_HP) (Q : Option Value → a_HP → Prop) : Rn 11 18 ls st σ Q = acR 11 (o_go 22 ls st σ) ls σ Q := rn_row rfl ls st σ Q
theorem r_11_21 (ls : a_LS) (st : List Value) (σ : a_HP) (Q : Option Value → a_HP → Prop) : Rn 11 21 ls st σ Q = acR 11 (o_pi (nI 0) 22 ls st σ) ls σ Q := rn_row rfl ls st σ Q
theorem r_11_22 (ls : a_LS) (st : List Value) (σ : a_HP) (Q : Option Value → a_HP → Prop) : Rn 11 22 ls st σ Q = acR 11 (o_sti 1 23 ls st σ) ls σ Q := rn_row rfl ls st σ Q
theorem r_11_23 (ls : a_LS) (st : List Value) (σ : a_HP) (Q : Option Value → a_HP → Prop) : Rn 11 23 ls st σ Q = acR 11 (o_lda 0 24 ls st σ) ls σ Q := rn_row rfl ls st σ Q
theorem r_11_24 (ls : a_LS) (st : List Value) (σ : a_HP) (Q : Option Value → a_HP → Prop) : Rn 11 24 ls st σ Q = acR 11 (o_get 2 6 27 ls st σ) ls σ Q := rn_row rfl ls st σ Q
theorem r_11_27 (ls : a_LS) (st : List Value) (σ : a_HP) (Q : Option Value → a_HP → Prop) : Rn 11 27 ls st σ Q = acR 11 (o_pi (nI 1) 28 ls st σ) ls σ Q := rn_row rfl ls st σ Q
theorem r_11_28 (ls : a_LS) (st : List Value) (σ : a_HP) (Q : Option Value → a_HP → Prop) : Rn 11 28 ls st σ Q = acR 11 (o_cle 45 31 ls st σ) ls σ Q := rn_row rfl ls st σ Q
theorem r_11_31 (ls : a_LS) (st : List Value) (σ : a_HP) (Q : Option Value → a_HP → Prop) : Rn 11 31 ls st σ Q = acR 11 (o_lda 0 32 ls st σ) ls σ Q := rn_row rfl ls st σ Q
theorem r_11_32 (ls : a_LS) (st : List Value) (σ : a_HP) (Q : Option Value → a_HP → Prop) : Rn 11 32 ls st σ Q = acR 11 (o_get 2 7 35 ls st σ) ls σ Q := rn_row rfl ls st σ Q
theorem r_11_35 (ls : a_LS) (st : List Value) (σ : a_HP) (Q : Option Value → a_HP → Prop) : Rn 11 35 ls st σ Q = acR 11 (o_lda 0 36 ls st σ) ls σ Q := rn_row rfl ls st σ Q
theorem r_11_36 (ls : a_LS) (st : List Value) (σ : a_HP) (Q : Option Value → a_HP → Prop) : Rn 11 36 ls st σ Q = acR 11 (o_get 2 5 39 ls st σ) ls σ Q := rn_row rfl ls st σ Q
theorem r_11_39 (ls : a_LS) (st : List Value) (σ : a_HP) (Q : Option Value → a_HP → Prop) : Rn 11 39 ls st σ Q = acR 11 (o_pi (nI 1) 40 ls st σ) ls σ Q := rn_row rfl ls st σ Q
theorem r_11_40 (ls : a_LS) (st : List Value) (σ : a_HP) (Q : Option Value → a_HP → Prop) : Rn 11 40 ls st σ Q = acR 11 (o_ial 41 ls st σ) ls σ Q := rn_row rfl ls st σ Q
theorem r_11_41 (ls : a_LS) (st : List Value) (σ : a_HP) (Q : Option Value → a_HP → Prop) : Rn 11 41 ls st σ Q = acR 11 (o_ial 42 ls st σ) ls σ Q := rn_row rfl ls st σ Q
theorem r_11_42 (ls : a_LS) (st : List Value) (σ : a_HP) (Q : Option Value → a_HP → Prop) : Rn 11 42 ls st σ Q = acR 11 (o_go 46 ls st σ) ls σ Q := rn_row rfl ls st σ Q
theorem r_11_45 (ls : a_LS) (st : List Value) (σ : a_HP) (Q : Option Value → a_HP → Prop) : Rn 11 45 ls st σ Q = acR 11 (o_pi (nI 0) 46 ls st σ) ls σ Q := rn_row rfl ls st σ Q
theorem r_11_46 (ls : a_LS) (st : List Value) (σ : a_HP) (Q : Option Value → a_HP → Prop) : Rn 11 46 ls st σ Q = acR 11 (o_sti 2 47 ls st σ) ls σ Q := rn_row rfl ls st σ Q
theorem r_11_47 (ls : a_LS) (st : List Value) (σ : a_HP) (Q : Option Value → a_HP → Prop) : Rn 11 47 ls st σ Q = acR 11 (o_pi (nI 1000) 50 ls st σ) ls σ Q := rn_row rfl ls st σ Q
theorem r_11_50 (ls : a_LS) (st : List Value) (σ : a_HP) (Q : Option Value → a_HP → Prop) : Rn 11 50 ls st σ Q = acR 11 (o_sti 3 51 ls st σ) ls σ Q := rn_row rfl ls st σ Q
theorem r_11_51 (ls : a_LS) (st : List Value) (σ : a_HP) (Q : Option Value → a_HP → Prop) : Rn 11 51 ls st σ Q = acR 11 (o_pi (nI 0) 52 ls st σ) ls σ Q := rn_row rfl ls st σ Q
theorem r_11_52 (ls : a_LS) (st : List Value) (σ : a_HP) (Q : Option Value → a_HP → Prop) : Rn 11 52 ls st σ Q = acR 11 (o_sti 4 54 ls st σ) ls σ Q := rn_row rfl ls st σ Q
theorem r_11_54 (ls : a_LS) (st : List Value) (σ : a_HP) (Q : Option Value → a_HP → Prop) : Rn 11 54 ls st σ Q = acR 11 (o_ldi 4 56 ls st σ) ls σ Q := rn_row rfl ls st σ Q
theorem r_11_56 (ls : a_LS) (st : List Value) (σ : a_HP) (Q : Option Value → a_HP → Prop) : Rn 11 56 ls st σ Q = acR 11 (o_ldi 1 57 ls st σ) ls σ Q := rn_row rfl ls st σ Q
theorem r_11_57 (ls : a_LS) (st : List Value) (σ : a_HP) (Q : Option Value → a_HP → Prop) : Rn 11 57 ls st σ Q = acR 11 (o_cgt 91 60 ls st σ) ls σ Q := rn_row rfl ls st σ Q
theorem r_11_60 (ls : a_LS) (st : List Value) (σ : a_HP) (Q : Option Value → a_HP → Prop) : Rn 11 60 ls st σ Q = acR 11 (o_pi (nI 0) 61 ls st σ) ls σ Q := rn_row rfl ls st σ Q
theorem r_11_61 (ls : a_LS) (st : List Value) (σ : a_HP) (Q : Option Value → a_HP → Prop) : Rn 11 61 ls st σ Q = acR 11 (o_sti 5 63 ls st σ) ls σ Q := rn_row rfl ls st σ Q
theorem r_11_63 (ls : a_LS) (st : List Value) (σ : a_HP) (Q : Option Value → a_HP → Prop) : Rn 11 63 ls st σ Q = acR 11 (o_ldi 5 65 ls st σ) ls σ Q := rn_row rfl ls st σ Q
theorem r_11_65 (ls : a_LS) (st : List Value) (σ : a_HP) (Q : Option Value → a_HP → Prop) : Rn 11 65 ls st σ Q = acR 11 (o_ldi 2 66 ls st σ) ls σ Q := rn_row rfl ls st σ Q
theorem r_11_66 (ls : a_LS) (st : List Value) (σ : a_HP) (Q : Option Value → a_HP → Prop) : Rn 11 66 ls st σ Q = acR 11 (o_cgt 85 69 ls st σ) ls σ Q := rn_row rfl ls st σ Q
theorem r_11_69 (ls : a_LS) (st : List Value) (σ : a_HP) (Q : Option Value → a_HP → Prop) : Rn 11 69 ls st σ Q = acR 11 (o_lda 0 70 ls st σ) ls σ Q := rn_row rfl ls st σ Q
theorem r_11_70 (ls : a_LS) (st : List Value) (σ : a_HP) (Q : Option Value → a_HP → Prop) : Rn 11 70 ls st σ Q = acR 11 (o_ldi 4 72 ls st σ) ls σ Q := rn_row rfl ls st σ Q
theorem r_11_72 (ls : a_LS) (st : List Value) (σ : a_HP) (Q : Option Value → a_HP → Prop) : Rn 11 72 ls st σ Q = acR 11 (o_ldi 5 74 ls st σ) ls σ Q := rn_row rfl ls st σ Q
theorem r_11_74 (ls : a_LS) (st : List Value) (σ : a_HP) (Q : Option Value → a_HP → Prop) : Rn 11 74 ls st σ Q = acR 11 (o_ldi 3 75 ls st σ) ls σ Q := rn_row rfl ls st σ Q
theorem r_11_75 (ls : a_LS) (st : List Value) (σ : a_HP) (Q : Option Value → a_HP → Prop) : Rn 11 75 ls st σ Q = acR 11 (o_ivv 2 12 3 78 ls st σ) ls σ Q := rn_row rfl ls st σ Q
theorem r_11_78 (ls : a_LS) (st : List Value) (σ : a_HP) (Q : Option Value → a_HP → Prop) : Rn 11 78 ls st σ Q = acR 11 (o_sti 3 79 ls st σ) ls σ Q := rn_row rfl ls st σ Q
theorem r_11_79 (ls : a_LS) (st : List Value) (σ : a_HP) (Q : Option Value → a_HP → Prop) : Rn 11 79 ls st σ Q = acR 11 (o_inc 5 (nI 1) 82 ls st σ) ls σ Q := rn_row rfl ls st σ Q
theorem r_11_82 (ls : a_LS) (st : List Value) (σ : a_HP) (Q : Option Value → a_HP → Prop) : Rn 11 82 ls st σ Q = acR 11 (o_go 63 ls st σ) ls σ Q := rn_row rfl ls st σ Q
theorem r_11_85 (ls : a_LS) (st : List Value) (σ : a_HP) (Q : Option Value → a_HP → Prop) : Rn 11 85 ls st σ Q = acR 11 (o_inc 4 (nI 1) 88 ls st σ) ls σ Q := rn_row rfl ls st σ Q
theorem r_11_88 (ls : a_LS) (st : List Value) (σ : a_HP) (Q : Option Value → a_HP → Prop) : Rn 11 88 ls st σ Q = acR 11 (o_go 54 ls st σ) ls σ Q := rn_row rfl ls st σ Q
theorem r_11_91 (ls : a_LS) (st : List Value) (σ : a_HP) (Q : Option Value → a_HP → Prop) : Rn 11 91 ls st σ Q = acR 11 (o_ldi 3 92 ls st σ) ls σ Q := rn_row rfl ls st σ Q
theorem r_11_92 (ls : a_LS) (st : List Value) (σ : a_HP) (Q : Option Value → a_HP → Prop) : Rn 11 92 ls st σ Q = acR 11 (o_pi (nI 1000) 95 ls st σ) ls σ Q := rn_row rfl ls st σ Q
theorem r_11_95 (ls : a_LS) (st : List Value) (σ : a_HP) (Q : Option Value → a_HP → Prop) : Rn 11 95 ls st σ Q = acR 11 (o_cge 102 98 ls st σ) ls σ Q := rn_row rfl ls st σ Q
theorem r_11_98 (ls : a_LS) (st : List Value) (σ : a_HP) (Q : Option Value → a_HP → Prop) : Rn 11 98 ls st σ Q = acR 11 (o_ldi 3 99 ls st σ) ls σ Q := rn_row rfl ls st σ Q
theorem r_11_99 (ls : a_LS) (st : List Value) (σ : a_HP) (Q : Option Value → a_HP → Prop) : Rn 11 99 ls st σ Q = acR 11 (o_go 103 ls st σ) ls σ Q := rn_row rfl ls st σ Q
theorem r_11_102 (ls : a_LS) (st : List Value) (σ : a_HP) (Q : Option Value → a_HP → Prop) : Rn 11 102 ls st σ Q = acR 11 (o_pi (-1) 103 ls st σ) ls σ Q := rn_row rfl ls st σ Q
theorem r_11_103 (ls : a_LS) (st : List Value) (σ : a_HP) (Q : Option Value → a_HP → Prop) : Rn 11 103 ls st σ Q = acR 11 (o_ri ls st σ) ls σ Q := rn_row rfl ls st σ Q
/-! 12: NetLaw$Mending.tryShared(III)I -/
theorem cl_12 (x0 : Nat) (x1 : Int32) (x2 : Int32) (x3 : Int32) (σ : a_HP) (Q : Option Value → a_HP → Prop) : Cl 12 [.ref x0, .int x1, .int x2, .int x3] σ Q = Rn 12 0 [some (.ref x0), some (.int x1), some (.int x2), some (.int x3), none, none] [] σ Q := cl_of (Nat.le_of_ble_eq_true rfl) rfl σ Q
theorem r_12_0 (ls : a_LS) (st : List Value) (σ : a_HP) (Q : Option Value → a_HP → Prop) : Rn 12 0 ls st σ Q = acR 12 (o_pi (nI 0) 1 ls st σ) ls σ Q := rn_row rfl ls st σ Q
theorem r_12_1 (ls : a_LS) (st : List Value) (σ : a_HP) (Q : Option Value → a_HP → Prop) : Rn 12 1 ls st σ Q = acR 12 (o_sti 4 3 ls st σ) ls σ Q := rn_row rfl ls st σ Q
theorem r_12_3 (ls : a_LS) (st : List Value) (σ : a_HP) (Q : Option Value → a_HP → Prop) : Rn 12 3 ls st σ Q = acR 12 (o_lda 0 4 ls st σ) ls σ Q := rn_row rfl ls st σ Q
theorem r_12_4 (ls : a_LS) (st : List Value) (σ : a_HP) (Q : Option Value → a_HP → Prop) : Rn 12 4 ls st σ Q = acR 12 (o_get 2 6 7 ls st σ) ls σ Q := rn_row rfl ls st σ Q
theorem r_12_7 (ls : a_LS) (st : List Value) (σ : a_HP) (Q : Option Value → a_HP → Prop) : Rn 12 7 ls st σ Q = acR 12 (o_le 26 10 ls st σ) ls σ Q := rn_row rfl ls st σ Q
theorem r_12_10 (ls : a_LS) (st : List Value) (σ : a_HP) (Q : Option Value → a_HP → Prop) : Rn 12 10 ls st σ Q = acR 12 (o_ldi 4 12 ls st σ) ls σ Q := rn_row rfl ls st σ Q
theorem r_12_12 (ls : a_LS) (st : List Value) (σ : a_HP) (Q : Option Value → a_HP → Prop) : Rn 12 12 ls st σ Q = acR 12 (o_lda 0 13 ls st σ) ls σ Q := rn_row rfl ls st σ Q
theorem r_12_13 (ls : a_LS) (st : List Value) (σ : a_HP) (Q : Option Value → a_HP → Prop) : Rn 12 13 ls st σ Q = acR 12 (o_lda 0 14 ls st σ) ls σ Q := rn_row rfl ls st σ Q
theorem r_12_14 (ls : a_LS) (st : List Value) (σ : a_HP) (Q : Option Value → a_HP → Prop) : Rn 12 14 ls st σ Q = acR 12 (o_get 2 5 17 ls st σ) ls σ Q := rn_row rfl ls st σ Q
theorem r_12_17 (ls : a_LS) (st : List Value) (σ : a_HP) (Q : Option Value → a_HP → Prop) : Rn 12 17 ls st σ Q = acR 12 (o_pi (nI 0) 18 ls st σ) ls σ Q := rn_row rfl ls st σ Q
theorem r_12_18 (ls : a_LS) (st : List Value) (σ : a_HP) (Q : Option Value → a_HP → Prop) : Rn 12 18 ls st σ Q = acR 12 (o_ial 19 ls st σ) ls σ Q := rn_row rfl ls st σ Q
theorem r_12_19 (ls : a_LS) (st : List Value) (σ : a_HP) (Q : Option Value → a_HP → Prop) : Rn 12 19 ls st σ Q = acR 12 (o_ldi 1 20 ls st σ) ls σ Q := rn_row rfl ls st σ Q
theorem r_12_20 (ls : a_LS) (st : List Value) (σ : a_HP) (Q : Option Value → a_HP → Prop) : Rn 12 20 ls st σ Q = acR 12 (o_ivv 2 6 2 23 ls st σ) ls σ Q := rn_row rfl ls st σ Q
theorem r_12_23 (ls : a_LS) (st : List Value) (σ : a_HP) (Q : Option Value → a_HP → Prop) : Rn 12 23 ls st σ Q = acR 12 (o_bi f_add 24 ls st σ) ls σ Q := rn_row rfl ls st σ Q
theorem r_12_24 (ls : a_LS) (st : List Value) (σ : a_HP) (Q : Option Value → a_HP → Prop) : Rn 12 24 ls st σ Q = acR 12 (o_sti 4 26 ls st σ) ls σ Q := rn_row rfl ls st σ Q
theorem r_12_26 (ls : a_LS) (st : List Value) (σ : a_HP) (Q : Option Value → a_HP → Prop) : Rn 12 26 ls st σ Q = acR 12 (o_lda 0 27 ls st σ) ls σ Q := rn_row rfl ls st σ Q
theorem r_12_27 (ls : a_LS) (st : List Value) (σ : a_HP) (Q : Option Value → a_HP → Prop) : Rn 12 27 ls st σ Q = acR 12 (o_get 2 6 30 ls st σ) ls σ Q := rn_row rfl ls st σ Q
theorem r_12_30 (ls : a_LS) (st : List Value) (σ : a_HP) (Q : Option Value → a_HP → Prop) : Rn 12 30 ls st σ Q = acR 12 (o_pi (nI 1) 31 ls st σ) ls σ Q := rn_row rfl ls st σ Q
theorem r_12_31 (ls : a_LS) (st : List Value) (σ : a_HP) (Q : Option Value → a_HP → Prop) : Rn 12 31 ls st σ Q = acR 12 (o_cle 50 34 ls st σ) ls σ Q := rn_row rfl ls st σ Q
theorem r_12_34 (ls : a_LS) (st : List Value) (σ : a_HP) (Q : Option Value → a_HP → Prop) : Rn 12 34 ls st σ Q = acR 12 (o_ldi 4 36 ls st σ) ls σ Q := rn_row rfl ls st σ Q
theorem r_12_36 (ls : a_LS) (st : List Value) (σ : a_HP) (Q : Option Value → a_HP → Prop) : Rn 12 36 ls st σ Q = acR 12 (o_lda 0 37 ls st σ) ls σ Q := rn_row rfl ls st σ Q
theorem r_12_37 (ls : a_LS) (st : List Value) (σ : a_HP) (Q : Option Value → a_HP → Prop) : Rn 12 37 ls st σ Q = acR 12 (o_lda 0 38 ls st σ) ls σ Q := rn_row rfl ls st σ Q
theorem r_12_38 (ls : a_LS) (st : List Value) (σ : a_HP) (Q : Option Value → a_HP → Prop) : Rn 12 38 ls st σ Q = acR 12 (o_get 2 5 41 ls st σ) ls σ Q := rn_row rfl ls st σ Q
theorem r_12_41 (ls : a_LS) (st : List Value) (σ : a_HP) (Q : Option Value → a_HP → Prop) : Rn 12 41 ls st σ Q = acR 12 (o_pi (nI 1) 42 ls st σ) ls σ Q := rn_row rfl ls st σ Q
theorem r_12_42 (ls : a_LS) (st : List Value) (σ : a_HP) (Q : Option Value → a_HP → Prop) : Rn 12 42 ls st σ Q = acR 12 (o_ial 43 ls st σ) ls σ Q := rn_row rfl ls st σ Q
theorem r_12_43 (ls : a_LS) (st : List Value) (σ : a_HP) (Q : Option Value → a_HP → Prop) : Rn 12 43 ls st σ Q = acR 12 (o_ldi 2 44 ls st σ) ls σ Q := rn_row rfl ls st σ Q
theorem r_12_44 (ls : a_LS) (st : List Value) (σ : a_HP) (Q : Option Value → a_HP → Prop) : Rn 12 44 ls st σ Q = acR 12 (o_ivv 2 6 2 47 ls st σ) ls σ Q := rn_row rfl ls st σ Q
theorem r_12_47 (ls : a_LS) (st : List Value) (σ : a_HP) (Q : Option Value → a_HP → Prop) : Rn 12 47 ls st σ Q = acR 12 (o_bi f_add 48 ls st σ) ls σ Q := rn_row rfl ls st σ Q
theorem r_12_48 (ls : a_LS) (st : List Value) (σ : a_HP) (Q : Option Value → a_HP → Prop) : Rn 12 48 ls st σ Q = acR 12 (o_sti 4 50 ls st σ) ls σ Q := rn_row rfl ls st σ Q
theorem r_12_50 (ls : a_LS) (st : List Value) (σ : a_HP) (Q : Option Value → a_HP → Prop) : Rn 12 50 ls st σ Q = acR 12 (o_ldi 1 51 ls st σ) ls σ Q := rn_row rfl ls st σ Q
theorem r_12_51 (ls : a_LS) (st : List Value) (σ : a_HP) (Q : Option Value → a_HP → Prop) : Rn 12 51 ls st σ Q = acR 12 (o_ldi 2 52 ls st σ) ls σ Q := rn_row rfl ls st σ Q
theorem r_12_52 (ls : a_LS) (st : List Value) (σ : a_HP) (Q : Option Value → a_HP → Prop) : Rn 12 52 ls st σ Q = acR 12 (o_bi f_add 53 ls st σ) ls σ Q := rn_row rfl ls st σ Q
theorem r_12_53 (ls : a_LS) (st : List Value) (σ : a_HP) (Q : Option Value → a_HP → Prop) : Rn 12 53 ls st σ Q = acR 12 (o_lda 0 54 ls st σ) ls σ Q := rn_row rfl ls st σ Q
theorem r_12_54 (ls : a_LS) (st : List Value) (σ : a_HP) (Q : Option Value → a_HP → Prop) : Rn 12 54 ls st σ Q = acR 12 (o_pi (nI 0) 55 ls st σ) ls σ Q := rn_row rfl ls st σ Q
theorem r_12_55 (ls : a_LS) (st : List Value) (σ : a_HP) (Q : Option Value → a_HP → Prop) : Rn 12 55 ls st σ Q = acR 12 (o_pi (nI 0) 56 ls st σ) ls σ Q := rn_row rfl ls st σ Q
theorem r_12_56 (ls : a_LS) (st : List Value) (σ : a_HP) (Q : Option Value → a_HP → Prop) : Rn 12 56 ls st σ Q = acR 12 (o_lda 0 57 ls st σ) ls σ Q := rn_row rfl ls st σ Q
theorem r_12_57 (ls : a_LS) (st : List Value) (σ : a_HP) (Q : Option Value → a_HP → Prop) : Rn 12 57 ls st σ Q = acR 12 (o_get 2 2 60 ls st σ) ls σ Q := rn_row rfl ls st σ Q
theorem r_12_60 (ls : a_LS) (st : List Value) (σ : a_HP) (Q : Option Value → a_HP → Prop) : Rn 12 60 ls st σ Q = acR 12 (o_pi (nI 0) 61 ls st σ) ls σ Q := rn_row rfl ls st σ Q
theorem r_12_61 (ls : a_LS) (st : List Value) (σ : a_HP) (Q : Option Value → a_HP → Prop) : Rn 12 61 ls st σ Q = acR 12 (o_ial 62 ls st σ) ls σ Q := rn_row rfl ls st σ Q
theorem r_12_62 (ls : a_LS) (st : List Value) (σ : a_HP) (Q : Option Value → a_HP → Prop) : Rn 12 62 ls st σ Q = acR 12 (o_ldi 4 64 ls st σ) ls σ Q := rn_row rfl ls st σ Q
theorem r_12_64 (ls : a_LS) (st : List Value) (σ : a_HP) (Q : Option Value → a_HP → Prop) : Rn 12 64 ls st σ Q = acR 12 (o_bi f_sub 65 ls st σ) ls σ Q := rn_row rfl ls st σ Q
theorem r_12_65 (ls : a_LS) (st : List Value) (σ : a_HP) (Q : Option Value → a_HP → Prop) : Rn 12 65 ls st σ Q = acR 12 (o_ivv 2 10 3 68 ls st σ) ls σ Q := rn_row rfl ls st σ Q
theorem r_12_68 (ls : a_LS) (st : List Value) (σ : a_HP) (Q : Option Value → a_HP → Prop) : Rn 12 68 ls st σ Q = acR 12 (o_bi f_add 69 ls st σ) ls σ Q := rn_row rfl ls st σ Q
theorem r_12_69 (ls : a_LS) (st : List Value) (σ : a_HP) (Q : Option Value → a_HP → Prop) : Rn 12 69 ls st σ Q = acR 12 (o_lda 0 70 ls st σ) ls σ Q := rn_row rfl ls st σ Q
theorem r_12_70 (ls : a_LS) (st : List Value) (σ : a_HP) (Q : Option Value → a_HP → Prop) : Rn 12 70 ls st σ Q = acR 12 (o_pi (nI 1) 71 ls st σ) ls σ Q := rn_row rfl ls st σ Q
theorem r_12_71 (ls : a_LS) (st : List Value) (σ : a_HP) (Q : Option Value → a_HP → Prop) : Rn 12 71 ls st σ Q = acR 12 (o_pi (nI 0) 72 ls st σ) ls σ Q := rn_row rfl ls st σ Q
theorem r_12_72 (ls : a_LS) (st : List Value) (σ : a_HP) (Q : Option Value → a_HP → Prop) : Rn 12 72 ls st σ Q = acR 12 (o_lda 0 73 ls st σ) ls σ Q := rn_row rfl ls st σ Q
theorem r_12_73 (ls : a_LS) (st : List Value) (σ : a_HP) (Q : Option Value → a_HP → Prop) : Rn 12 73 ls st σ Q = acR 12 (o_get 2 2 76 ls st σ) ls σ Q := rn_row rfl ls st σ Q
theorem r_12_76 (ls : a_LS) (st : List Value) (σ : a_HP) (Q : Option Value → a_HP → Prop) : Rn 12 76 ls st σ Q = acR 12 (o_pi (nI 1) 77 ls st σ) ls σ Q := rn_row rfl ls st σ Q
theorem r_12_77 (ls : a_LS) (st : List Value) (σ : a_HP) (Q : Option Value → a_HP → Prop) : Rn 12 77 ls st σ Q = acR 12 (o_ial 78 ls st σ) ls σ Q := rn_row rfl ls st σ Q
theorem r_12_78 (ls : a_LS) (st : List Value) (σ : a_HP) (Q : Option Value → a_HP → Prop) : Rn 12 78 ls st σ Q = acR 12 (o_ldi 4 80 ls st σ) ls σ Q := rn_row rfl ls st σ Q
theorem r_12_80 (ls : a_LS) (st : List Value) (σ : a_HP) (Q : Option Value → a_HP → Prop) : Rn 12 80 ls st σ Q = acR 12 (o_bi f_sub 81 ls st σ) ls σ Q := rn_row rfl ls st σ Q
theorem r_12_81 (ls : a_LS) (st : List Value) (σ : a_HP) (Q : Option Value → a_HP → Prop) : Rn 12 81 ls st σ Q = acR 12 (o_ivv 2 10 3 84 ls st σ) ls σ Q := rn_row rfl ls st σ Q
theorem r_12_84 (ls : a_LS) (st : List Value) (σ : a_HP) (Q : Option Value → a_HP → Prop) : Rn 12 84 ls st σ Q = acR 12 (o_bi f_add 85 ls st σ) ls σ Q := rn_row rfl ls st σ Q
theorem r_12_85 (ls : a_LS) (st : List Value) (σ : a_HP) (Q : Option Value → a_HP → Prop) : Rn 12 85 ls st σ Q = acR 12 (o_sti 5 87 ls st σ) ls σ Q := rn_row rfl ls st σ Q
theorem r_12_87 (ls : a_LS) (st : List Value) (σ : a_HP) (Q : Option Value → a_HP → Prop) : Rn 12 87 ls st σ Q = acR 12 (o_ldi 5 89 ls st σ) ls σ Q := rn_row rfl ls st σ Q
theorem r_12_89 (ls : a_LS) (st : List Value) (σ : a_HP) (Q : Option Value → a_HP → Prop) : Rn 12 89 ls st σ Q = acR 12 (o_pi (nI 1000) 92 ls st σ) ls σ Q := rn_row rfl ls st σ Q
theorem r_12_92 (ls : a_LS) (st : List Value) (σ : a_HP) (Q : Option Value → a_HP → Prop) : Rn 12 92 ls st σ Q = acR 12 (o_cge 101 95 ls st σ) ls σ Q := rn_row rfl ls st σ Q
theorem r_12_95 (ls : a_LS) (st : List Value) (σ : a_HP) (Q : Option Value → a_HP → Prop) : Rn 12 95 ls st σ Q = acR 12 (o_ldi 5 97 ls st σ) ls σ Q := rn_row rfl ls st σ Q
theorem r_12_97 (ls : a_LS) (st : List Value) (σ : a_HP) (Q : Option Value → a_HP → Prop) : Rn 12 97 ls st σ Q = acR 12 (o_ldi 3 98 ls st σ) ls σ Q := rn_row rfl ls st σ Q
theorem r_12_98 (ls : a_LS) (st : List Value) (σ : a_HP) (Q : Option Value → a_HP → Prop) : Rn 12 98 ls st σ Q = acR 12 (o_cle 103 101 ls st σ) ls σ Q := rn_row rfl ls st σ Q
theorem r_12_101 (ls : a_LS) (st : List Value) (σ : a_HP) (Q : Option Value → a_HP → Prop) : Rn 12 101 ls st σ Q = acR 12 (o_ldi 3 102 ls st σ) ls σ Q := rn_row rfl ls st σ Q
theorem r_12_102 (ls : a_LS) (st : List Value) (σ : a_HP) (Q : Option Value → a_HP → Prop) : Rn 12 102 ls st σ Q = acR 12 (o_ri ls st σ) ls σ Q := rn_row rfl ls st σ Q
theorem r_12_103 (ls : a_LS) (st : List Value) (σ : a_HP) (Q : Option Value → a_HP → Prop) : Rn 12 103 ls st σ Q = acR 12 (o_lda 0 104 ls st σ) ls σ Q := rn_row rfl ls st σ Q
theorem r_12_104 (ls : a_LS) (st : List Value) (σ : a_HP) (Q : Option Value → a_HP → Prop) : Rn 12 104 ls st σ Q = acR 12 (o_ldi 1 105 ls st σ) ls σ Q := rn_row rfl ls st σ Q
theorem r_12_105 (ls : a_LS) (st : List Value) (σ : a_HP) (Q : Option Value → a_HP → Prop) : Rn 12 105 ls st σ Q = acR 12 (o_ldi 2 106 ls st σ) ls σ Q := rn_row rfl ls st σ Q
theorem r_12_106 (ls : a_LS) (st : List Value) (σ : a_HP) (Q : Option Value → a_HP → Prop) : Rn 12 106 ls st σ Q = acR 12 (o_ldi 4 108 ls st σ) ls σ Q := rn_row rfl ls st σ Q
theorem r_12_108 (ls : a_LS) (st : List Value) (σ : a_HP) (Q : Option Value → a_HP → Prop) : Rn 12 108 ls st σ Q = acR 12 (o_ivv 2 13 3 111 ls st σ) ls σ Q := rn_row rfl ls st σ Q
theorem r_12_111 (ls : a_LS) (st : List Value) (σ : a_HP) (Q : Option Value → a_HP → Prop) : Rn 12 111 ls st σ Q = acR 12 (o_ldi 5 113 ls st σ) ls σ Q := rn_row rfl ls st σ Q
theorem r_12_113 (ls : a_LS) (st : List Value) (σ : a_HP) (Q : Option Value → a_HP → Prop) : Rn 12 113 ls st σ Q = acR 12 (o_ldi 3 114 ls st σ) ls σ Q := rn_row rfl ls st σ Q
theorem r_12_114 (ls : a_LS) (st : List Value) (σ : a_HP) (Q : Option Value → a_HP → Prop) : Rn 12 114 ls st σ Q = acR 12 (o_cne 126 117 ls st σ) ls σ Q := rn_row rfl ls st σ Q
theorem r_12_117 (ls : a_LS) (st : List Value) (σ : a_HP) (Q : Option Value → a_HP → Prop) : Rn 12 117 ls st σ Q = acR 12 (o_lda 0 118 ls st σ) ls σ Q := rn_row rfl ls st σ Q
theorem r_12_118 (ls : a_LS) (st : List Value) (σ : a_HP) (Q : Option Value → a_HP → Prop) : Rn 12 118 ls st σ Q = acR 12 (o_ivv 2 15 0 121 ls st σ) ls σ Q := rn_row rfl ls st σ Q
theorem r_12_121 (ls : a_LS) (st : List Value) (σ : a_HP) (Q : Option Value → a_HP → Prop) : Rn 12 121 ls st σ Q = acR 12 (o_ne 126 124 ls st σ) ls σ Q := rn_row rfl ls st σ Q
theorem r_12_124 (ls : a_LS) (st : List Value) (σ : a_HP) (Q : Option Value → a_HP → Prop) : Rn 12 124 ls st σ Q = acR 12 (o_ldi 3 125 ls st σ) ls σ Q := rn_row rfl ls st σ Q
theorem r_12_125 (ls : a_LS) (st : List Value) (σ : a_HP) (Q : Option Value → a_HP → Prop) : Rn 12 125 ls st σ Q = acR 12 (o_ri ls st σ) ls σ Q := rn_row rfl ls st σ Q
theorem r_12_126 (ls : a_LS) (st : List Value) (σ : a_HP) (Q : Option Value → a_HP → Prop) : Rn 12 126 ls st σ Q = acR 12 (o_lda 0 127 ls st σ) ls σ Q := rn_row rfl ls st σ Q
theorem r_12_127 (ls : a_LS) (st : List Value) (σ : a_HP) (Q : Option Value → a_HP → Prop) : Rn 12 127 ls st σ Q = acR 12 (o_get 2 1 130 ls st σ) ls σ Q := rn_row rfl ls st σ Q
theorem r_12_130 (ls : a_LS) (st : List Value) (σ : a_HP) (Q : Option Value → a_HP → Prop) : Rn 12 130 ls st σ Q = acR 12 (o_pi (nI 0) 131 ls st σ) ls σ Q := rn_row rfl ls st σ Q
theorem r_12_131 (ls : a_LS) (st : List Value) (σ : a_HP) (Q : Option Value → a_HP → Prop) : Rn 12 131 ls st σ Q = acR 12 (o_lda 0 132 ls st σ) ls σ Q := rn_row rfl ls st σ Q
theorem r_12_132 (ls : a_LS) (st : List Value) (σ : a_HP) (Q : Option Value → a_HP → Prop) : Rn 12 132 ls st σ Q = acR 12 (o_get 2 0 135 ls st σ) ls σ Q := rn_row rfl ls st σ Q
theorem r_12_135 (ls : a_LS) (st : List Value) (σ : a_HP) (Q : Option Value → a_HP → Prop) : Rn 12 135 ls st σ Q = acR 12 (o_pi (nI 0) 136 ls st σ) ls σ Q := rn_row rfl ls st σ Q
theorem r_12_136 (ls : a_LS) (st : List Value) (σ : a_HP) (Q : Option Value → a_HP → Prop) : Rn 12 136 ls st σ Q = acR 12 (o_pi (nI 16) 138 ls st σ) ls σ Q := rn_row rfl ls st σ Q
theorem r_12_138 (ls : a_LS) (st : List Value) (σ : a_HP) (Q : Option Value → a_HP → Prop) : Rn 12 138 ls st σ Q = acR 12 (o_cpy 141 ls st σ) ls σ Q := rn_row rfl ls st σ Q
theorem r_12_141 (ls : a_LS) (st : List Value) (σ : a_HP) (Q : Option Value → a_HP → Prop) : Rn 12 141 ls st σ Q = acR 12 (o_ldi 5 143 ls st σ) ls σ Q := rn_row rfl ls st σ Q
theorem r_12_143 (ls : a_LS) (st : List Value) (σ : a_HP) (Q : Option Value → a_HP → Prop) : Rn 12 143 ls st σ Q = acR 12 (o_ri ls st σ) ls σ Q := rn_row rfl ls st σ Q
/-! 13: NetLaw$Mending.fillRow(III)V -/
theorem cl_13 (x0 : Nat) (x1 : Int32) (x2 : Int32) (x3 : Int32) (σ : a_HP) (Q : Option Value → a_HP → Prop) : Cl 13 [.ref x0, .int x1, .int x2, .int x3] σ Q = Rn 13 0 [some (.ref x0), some (.int x1), some (.int x2), some (.int x3)] [] σ Q := cl_of (Nat.le_of_ble_eq_true rfl) rfl σ Q
theorem r_13_0 (ls : a_LS) (st : List Value) (σ : a_HP) (Q : Option Value → a_HP → Prop) : Rn 13 0 ls st σ Q = acR 13 (o_lda 0 1 ls st σ) ls σ Q := rn_row rfl ls st σ Q
theorem r_13_1 (ls : a_LS) (st : List Value) (σ : a_HP) (Q : Option Value → a_HP → Prop) : Rn 13 1 ls st σ Q = acR 13 (o_get 2 1 4 ls st σ) ls σ Q := rn_row rfl ls st σ Q
theorem r_13_4 (ls : a_LS) (st : List Value) (σ : a_HP) (Q : Option Value → a_HP → Prop) : Rn 13 4 ls st σ Q = acR 13 (o_pi (nI 0) 5 ls st σ) ls σ Q := rn_row rfl ls st σ Q
theorem r_13_5 (ls : a_LS) (st : List Value) (σ : a_HP) (Q : Option Value → a_HP → Prop) : Rn 13 5 ls st σ Q = acR 13 (o_ivs 209 2 8 ls st σ) ls σ Q := rn_row rfl ls st σ Q
theorem r_13_8 (ls : a_LS) (st : List Value) (σ : a_HP) (Q : Option Value → a_HP → Prop) : Rn 13 8 ls st σ Q = acR 13 (o_lda 0 9 ls st σ) ls σ Q := rn_row rfl ls st σ Q
theorem r_13_9 (ls : a_LS) (st : List Value) (σ : a_HP) (Q : Option Value → a_HP → Prop) : Rn 13 9 ls st σ Q = acR 13 (o_get 2 6 12 ls st σ) ls σ Q := rn_row rfl ls st σ Q
theorem r_13_12 (ls : a_LS) (st : List Value) (σ : a_HP) (Q : Option Value → a_HP → Prop) : Rn 13 12 ls st σ Q = acR 13 (o_le 27 15 ls st σ) ls σ Q := rn_row rfl ls st σ Q
theorem r_13_15 (ls : a_LS) (st : List Value) (σ : a_HP) (Q : Option Value → a_HP → Prop) : Rn 13 15 ls st σ Q = acR 13 (o_lda 0 16 ls st σ) ls σ Q := rn_row rfl ls st σ Q
theorem r_13_16 (ls : a_LS) (st : List Value) (σ : a_HP) (Q : Option Value → a_HP → Prop) : Rn 13 16 ls st σ Q = acR 13 (o_get 2 1 19 ls st σ) ls σ Q := rn_row rfl ls st σ Q
theorem r_13_19 (ls : a_LS) (st : List Value) (σ : a_HP) (Q : Option Value → a_HP → Prop) : Rn 13 19 ls st σ Q = acR 13 (o_lda 0 20 ls st σ) ls σ Q := rn_row rfl ls st σ Q
theorem r_13_20 (ls : a_LS) (st : List Value) (σ : a_HP) (Q : Option Value → a_HP → Prop) : Rn 13 20 ls st σ Q = acR 13 (o_get 2 5 23 ls st σ) ls σ Q := rn_row rfl ls st σ Q
theorem r_13_23 (ls : a_LS) (st : List Value) (σ : a_HP) (Q : Option Value → a_HP → Prop) : Rn 13 23 ls st σ Q = acR 13 (o_pi (nI 0) 24 ls st σ) ls σ Q := rn_row rfl ls st σ Q
theorem r_13_24 (ls : a_LS) (st : List Value) (σ : a_HP) (Q : Option Value → a_HP → Prop) : Rn 13 24 ls st σ Q = acR 13 (o_ial 25 ls st σ) ls σ Q := rn_row rfl ls st σ Q
theorem r_13_25 (ls : a_LS) (st : List Value) (σ : a_HP) (Q : Option Value → a_HP → Prop) : Rn 13 25 ls st σ Q = acR 13 (o_ldi 1 26 ls st σ) ls σ Q := rn_row rfl ls st σ Q
theorem r_13_26 (ls : a_LS) (st : List Value) (σ : a_HP) (Q : Option Value → a_HP → Prop) : Rn 13 26 ls st σ Q = acR 13 (o_ias 27 ls st σ) ls σ Q := rn_row rfl ls st σ Q
theorem r_13_27 (ls : a_LS) (st : List Value) (σ : a_HP) (Q : Option Value → a_HP → Prop) : Rn 13 27 ls st σ Q = acR 13 (o_lda 0 28 ls st σ) ls σ Q := rn_row rfl ls st σ Q
theorem r_13_28 (ls : a_LS) (st : List Value) (σ : a_HP) (Q : Option Value → a_HP → Prop) : Rn 13 28 ls st σ Q = acR 13 (o_get 2 6 31 ls st σ) ls σ Q := rn_row rfl ls st σ Q
theorem r_13_31 (ls : a_LS) (st : List Value) (σ : a_HP) (Q : Option Value → a_HP → Prop) : Rn 13 31 ls st σ Q = acR 13 (o_pi (nI 1) 32 ls st σ) ls σ Q := rn_row rfl ls st σ Q
theorem r_13_32 (ls : a_LS) (st : List Value) (σ : a_HP) (Q : Option Value → a_HP → Prop) : Rn 13 32 ls st σ Q = acR 13 (o_cle 47 35 ls st σ) ls σ Q := rn_row rfl ls st σ Q
theorem r_13_35 (ls : a_LS) (st : List Value) (σ : a_HP) (Q : Option Value → a_HP → Prop) : Rn 13 35 ls st σ Q = acR 13 (o_lda 0 36 ls st σ) ls σ Q := rn_row rfl ls st σ Q
theorem r_13_36 (ls : a_LS) (st : List Value) (σ : a_HP) (Q : Option Value → a_HP → Prop) : Rn 13 36 ls st σ Q = acR 13 (o_get 2 1 39 ls st σ) ls σ Q := rn_row rfl ls st σ Q
theorem r_13_39 (ls : a_LS) (st : List Value) (σ : a_HP) (Q : Option Value → a_HP → Prop) : Rn 13 39 ls st σ Q = acR 13 (o_lda 0 40 ls st σ) ls σ Q := rn_row rfl ls st σ Q
theorem r_13_40 (ls : a_LS) (st : List Value) (σ : a_HP) (Q : Option Value → a_HP → Prop) : Rn 13 40 ls st σ Q = acR 13 (o_get 2 5 43 ls st σ) ls σ Q := rn_row rfl ls st σ Q
theorem r_13_43 (ls : a_LS) (st : List Value) (σ : a_HP) (Q : Option Value → a_HP → Prop) : Rn 13 43 ls st σ Q = acR 13 (o_pi (nI 1) 44 ls st σ) ls σ Q := rn_row rfl ls st σ Q
theorem r_13_44 (ls : a_LS) (st : List Value) (σ : a_HP) (Q : Option Value → a_HP → Prop) : Rn 13 44 ls st σ Q = acR 13 (o_ial 45 ls st σ) ls σ Q := rn_row rfl ls st σ Q
theorem r_13_45 (ls : a_LS) (st : List Value) (σ : a_HP) (Q : Option Value → a_HP → Prop) : Rn 13 45 ls st σ Q = acR 13 (o_ldi 2 46 ls st σ) ls σ Q := rn_row rfl ls st σ Q
theorem r_13_46 (ls : a_LS) (st : List Value) (σ : a_HP) (Q : Option Value → a_HP → Prop) : Rn 13 46 ls st σ Q = acR 13 (o_ias 47 ls st σ) ls σ Q := rn_row rfl ls st σ Q
theorem r_13_47 (ls : a_LS) (st : List Value) (σ : a_HP) (Q : Option Value → a_HP → Prop) : Rn 13 47 ls st σ Q = acR 13 (o_lda 0 48 ls st σ) ls σ Q := rn_row rfl ls st σ Q
theorem r_13_48 (ls : a_LS) (st : List Value) (σ : a_HP) (Q : Option Value → a_HP → Prop) : Rn 13 48 ls st σ Q = acR 13 (o_pi (nI 0) 49 ls st σ) ls σ Q := rn_row rfl ls st σ Q
theorem r_13_49 (ls : a_LS) (st : List Value) (σ : a_HP) (Q : Option Value → a_HP → Prop) : Rn 13 49 ls st σ Q = acR 13 (o_lda 0 50 ls st σ) ls σ Q := rn_row rfl ls st σ Q
theorem r_13_50 (ls : a_LS) (st : List Value) (σ : a_HP) (Q : Option Value → a_HP → Prop) : Rn 13 50 ls st σ Q = acR 13 (o_get 2 2 53 ls st σ) ls σ Q := rn_row rfl ls st σ Q
theorem r_13_53 (ls : a_LS) (st : List Value) (σ : a_HP) (Q : Option Value → a_HP → Prop) : Rn 13 53 ls st σ Q = acR 13 (o_pi (nI 0) 54 ls st σ) ls σ Q := rn_row rfl ls st σ Q
theorem r_13_54 (ls : a_LS) (st : List Value) (σ : a_HP) (Q : Option Value → a_HP → Prop) : Rn 13 54 ls st σ Q = acR 13 (o_ial 55 ls st σ) ls σ Q := rn_row rfl ls st σ Q
theorem r_13_55 (ls : a_LS) (st : List Value) (σ : a_HP) (Q : Option Value → a_HP → Prop) : Rn 13 55 ls st σ Q = acR 13 (o_ldi 3 56 ls st σ) ls σ Q := rn_row rfl ls st σ Q
theorem r_13_56 (ls : a_LS) (st : List Value) (σ : a_HP) (Q : Option Value → a_HP → Prop) : Rn 13 56 ls st σ Q = acR 13 (o_bi f_sub 57 ls st σ) ls σ Q := rn_row rfl ls st σ Q
theorem r_13_57 (ls : a_LS) (st : List Value) (σ : a_HP) (Q : Option Value → a_HP → Prop) : Rn 13 57 ls st σ Q = acR 13 (o_ivv 2 14 2 60 ls st σ) ls σ Q := rn_row rfl ls st σ Q
theorem r_13_60 (ls : a_LS) (st : List Value) (σ : a_HP) (Q : Option Value → a_HP → Prop) : Rn 13 60 ls st σ Q = acR 13 (o_lda 0 61 ls st σ) ls σ Q := rn_row rfl ls st σ Q
theorem r_13_61 (ls : a_LS) (st : List Value) (σ : a_HP) (Q : Option Value → a_HP → Prop) : Rn 13 61 ls st σ Q = acR 13 (o_pi (nI 1) 62 ls st σ) ls σ Q := rn_row rfl ls st σ Q
theorem r_13_62 (ls : a_LS) (st : List Value) (σ : a_HP) (Q : Option Value → a_HP → Prop) : Rn 13 62 ls st σ Q = acR 13 (o_lda 0 63 ls st σ) ls σ Q := rn_row rfl ls st σ Q
theorem r_13_63 (ls : a_LS) (st : List Value) (σ : a_HP) (Q : Option Value → a_HP → Prop) : Rn 13 63 ls st σ Q = acR 13 (o_get 2 2 66 ls st σ) ls σ Q := rn_row rfl ls st σ Q
theorem r_13_66 (ls : a_LS) (st : List Value) (σ : a_HP) (Q : Option Value → a_HP → Prop) : Rn 13 66 ls st σ Q = acR 13 (o_pi (nI 1) 67 ls st σ) ls σ Q := rn_row rfl ls st σ Q
theorem r_13_67 (ls : a_LS) (st : List Value) (σ : a_HP) (Q : Option Value → a_HP → Prop) : Rn 13 67 ls st σ Q = acR 13 (o_ial 68 ls st σ) ls σ Q := rn_row rfl ls st σ Q
theorem r_13_68 (ls : a_LS) (st : List Value) (σ : a_HP) (Q : Option Value → a_HP → Prop) : Rn 13 68 ls st σ Q = acR 13 (o_ldi 3 69 ls st σ) ls σ Q := rn_row rfl ls st σ Q
theorem r_13_69 (ls : a_LS) (st : List Value) (σ : a_HP) (Q : Option Value → a_HP → Prop) : Rn 13 69 ls st σ Q = acR 13 (o_bi f_sub 70 ls st σ) ls σ Q := rn_row rfl ls st σ Q
theorem r_13_70 (ls : a_LS) (st : List Value) (σ : a_HP) (Q : Option Value → a_HP → Prop) : Rn 13 70 ls st σ Q = acR 13 (o_ivv 2 14 2 73 ls st σ) ls σ Q := rn_row rfl ls st σ Q
theorem r_13_73 (ls : a_LS) (st : List Value) (σ : a_HP) (Q : Option Value → a_HP → Prop) : Rn 13 73 ls st σ Q = acR 13 (o_rv ls st σ) ls σ Q := rn_row rfl ls st σ Q
/-! 14: NetLaw$Mending.fillOwn(II)V -/
theorem cl_14 (x0 : Nat) (x1 : Int32) (x2 : Int32) (σ : a_HP) (Q : Option Value → a_HP → Prop) : Cl 14 [.ref x0, .int x1, .int x2] σ Q = Rn 14 0 [some (.ref x0), some (.int x1), some (.int x2), none, none, none, none, none] [] σ Q := cl_of (Nat.le_of_ble_eq_true rfl) rfl σ Q
theorem r_14_0 (ls : a_LS) (st : List Value) (σ : a_HP) (Q : Option Value → a_HP → Prop) : Rn 14 0 ls st σ Q = acR 14 (o_ldi 2 1 ls st σ) ls σ Q := rn_row rfl ls st σ Q
theorem r_14_1 (ls : a_LS) (st : List Value) (σ : a_HP) (Q : Option Value → a_HP → Prop) : Rn 14 1 ls st σ Q = acR 14 (o_sti 3 2 ls st σ) ls σ Q := rn_row rfl ls st σ Q
theorem r_14_2 (ls : a_LS) (st : List Value) (σ : a_HP) (Q : Option Value → a_HP → Prop) : Rn 14 2 ls st σ Q = acR 14 (o_pi (nI 0) 3 ls st σ) ls σ Q := rn_row rfl ls st σ Q
theorem r_14_3 (ls : a_LS) (st : List Value) (σ : a_HP) (Q : Option Value → a_HP → Prop) : Rn 14 3 ls st σ Q = acR 14 (o_sti 4 5 ls st σ) ls σ Q := rn_row rfl ls st σ Q
theorem r_14_5 (ls : a_LS) (st : List Value) (σ : a_HP) (Q : Option Value → a_HP → Prop) : Rn 14 5 ls st σ Q = acR 14 (o_ldi 4 7 ls st σ) ls σ Q := rn_row rfl ls st σ Q
theorem r_14_7 (ls : a_LS) (st : List Value) (σ : a_HP) (Q : Option Value → a_HP → Prop) : Rn 14 7 ls st σ Q = acR 14 (o_lda 0 8 ls st σ) ls σ Q := rn_row rfl ls st σ Q
theorem r_14_8 (ls : a_LS) (st : List Value) (σ : a_HP) (Q : Option Value → a_HP → Prop) : Rn 14 8 ls st σ Q = acR 14 (o_get 2 4 11 ls st σ) ls σ Q := rn_row rfl ls st σ Q
theorem r_14_11 (ls : a_LS) (st : List Value) (σ : a_HP) (Q : Option Value → a_HP → Prop) : Rn 14 11 ls st σ Q = acR 14 (o_ldi 1 12 ls st σ) ls σ Q := rn_row rfl ls st σ Q
theorem r_14_12 (ls : a_LS) (st : List Value) (σ : a_HP) (Q : Option Value → a_HP → Prop) : Rn 14 12 ls st σ Q = acR 14 (o_ial 13 ls st σ) ls σ Q := rn_row rfl ls st σ Q
theorem r_14_13 (ls : a_LS) (st : List Value) (σ : a_HP) (Q : Option Value → a_HP → Prop) : Rn 14 13 ls st σ Q = acR 14 (o_cge 113 16 ls st σ) ls σ Q := rn_row rfl ls st σ Q
theorem r_14_16 (ls : a_LS) (st : List Value) (σ : a_HP) (Q : Option Value → a_HP → Prop) : Rn 14 16 ls st σ Q = acR 14 (o_lda 0 17 ls st σ) ls σ Q := rn_row rfl ls st σ Q
theorem r_14_17 (ls : a_LS) (st : List Value) (σ : a_HP) (Q : Option Value → a_HP → Prop) : Rn 14 17 ls st σ Q = acR 14 (o_get 2 3 20 ls st σ) ls σ Q := rn_row rfl ls st σ Q
theorem r_14_20 (ls : a_LS) (st : List Value) (σ : a_HP) (Q : Option Value → a_HP → Prop) : Rn 14 20 ls st σ Q = acR 14 (o_ldi 1 21 ls st σ) ls σ Q := rn_row rfl ls st σ Q
theorem r_14_21 (ls : a_LS) (st : List Value) (σ : a_HP) (Q : Option Value → a_HP → Prop) : Rn 14 21 ls st σ Q = acR 14 (o_pi (nI 4) 22 ls st σ) ls σ Q := rn_row rfl ls st σ Q
theorem r_14_22 (ls : a_LS) (st : List Value) (σ : a_HP) (Q : Option Value → a_HP → Prop) : Rn 14 22 ls st σ Q = acR 14 (o_bi f_mul 23 ls st σ) ls σ Q := rn_row rfl ls st σ Q
theorem r_14_23 (ls : a_LS) (st : List Value) (σ : a_HP) (Q : Option Value → a_HP → Prop) : Rn 14 23 ls st σ Q = acR 14 (o_ldi 4 25 ls st σ) ls σ Q := rn_row rfl ls st σ Q
theorem r_14_25 (ls : a_LS) (st : List Value) (σ : a_HP) (Q : Option Value → a_HP → Prop) : Rn 14 25 ls st σ Q = acR 14 (o_bi f_add 26 ls st σ) ls σ Q := rn_row rfl ls st σ Q
theorem r_14_26 (ls : a_LS) (st : List Value) (σ : a_HP) (Q : Option Value → a_HP → Prop) : Rn 14 26 ls st σ Q = acR 14 (o_ial 27 ls st σ) ls σ Q := rn_row rfl ls st σ Q
theorem r_14_27 (ls : a_LS) (st : List Value) (σ : a_HP) (Q : Option Value → a_HP → Prop) : Rn 14 27 ls st σ Q = acR 14 (o_sti 5 29 ls st σ) ls σ Q := rn_row rfl ls st σ Q
theorem r_14_29 (ls : a_LS) (st : List Value) (σ : a_HP) (Q : Option Value → a_HP → Prop) : Rn 14 29 ls st σ Q = acR 14 (o_lda 0 30 ls st σ) ls σ Q := rn_row rfl ls st σ Q
theorem r_14_30 (ls : a_LS) (st : List Value) (σ : a_HP) (Q : Option Value → a_HP → Prop) : Rn 14 30 ls st σ Q = acR 14 (o_ldi 1 31 ls st σ) ls σ Q := rn_row rfl ls st σ Q
theorem r_14_31 (ls : a_LS) (st : List Value) (σ : a_HP) (Q : Option Value → a_HP → Prop) : Rn 14 31 ls st σ Q = acR 14 (o_ldi 4 33 ls st σ) ls σ Q := rn_row rfl ls st σ Q
theorem r_14_33 (ls : a_LS) (st : List Value) (σ : a_HP) (Q : Option Value → a_HP → Prop) : Rn 14 33 ls st σ Q = acR 14 (o_ldi 3 34 ls st σ) ls σ Q := rn_row rfl ls st σ Q
theorem r_14_34 (ls : a_LS) (st : List Value) (σ : a_HP) (Q : Option Value → a_HP → Prop) : Rn 14 34 ls st σ Q = acR 14 (o_ivv 2 10 3 37 ls st σ) ls σ Q := rn_row rfl ls st σ Q
theorem r_14_37 (ls : a_LS) (st : List Value) (σ : a_HP) (Q : Option Value → a_HP → Prop) : Rn 14 37 ls st σ Q = acR 14 (o_sti 6 39 ls st σ) ls σ Q := rn_row rfl ls st σ Q
theorem r_14_39 (ls : a_LS) (st : List Value) (σ : a_HP) (Q : Option Value → a_HP → Prop) : Rn 14 39 ls st σ Q = acR 14 (o_pi (nI 0) 40 ls st σ) ls σ Q := rn_row rfl ls st σ Q
theorem r_14_40 (ls : a_LS) (st : List Value) (σ : a_HP) (Q : Option Value → a_HP → Prop) : Rn 14 40 ls st σ Q = acR 14 (o_sti 7 42 ls st σ) ls σ Q := rn_row rfl ls st σ Q
theorem r_14_42 (ls : a_LS) (st : List Value) (σ : a_HP) (Q : Option Value → a_HP → Prop) : Rn 14 42 ls st σ Q = acR 14 (o_ldi 7 44 ls st σ) ls σ Q := rn_row rfl ls st σ Q
theorem r_14_44 (ls : a_LS) (st : List Value) (σ : a_HP) (Q : Option Value → a_HP → Prop) : Rn 14 44 ls st σ Q = acR 14 (o_lda 0 45 ls st σ) ls σ Q := rn_row rfl ls st σ Q
theorem r_14_45 (ls : a_LS) (st : List Value) (σ : a_HP) (Q : Option Value → a_HP → Prop) : Rn 14 45 ls st σ Q = acR 14 (o_get 2 7 48 ls st σ) ls σ Q := rn_row rfl ls st σ Q
theorem r_14_48 (ls : a_LS) (st : List Value) (σ : a_HP) (Q : Option Value → a_HP → Prop) : Rn 14 48 ls st σ Q = acR 14 (o_ldi 5 50 ls st σ) ls σ Q := rn_row rfl ls st σ Q
theorem r_14_50 (ls : a_LS) (st : List Value) (σ : a_HP) (Q : Option Value → a_HP → Prop) : Rn 14 50 ls st σ Q = acR 14 (o_ial 51 ls st σ) ls σ Q := rn_row rfl ls st σ Q
theorem r_14_51 (ls : a_LS) (st : List Value) (σ : a_HP) (Q : Option Value → a_HP → Prop) : Rn 14 51 ls st σ Q = acR 14 (o_cge 87 54 ls st σ) ls σ Q := rn_row rfl ls st σ Q
theorem r_14_54 (ls : a_LS) (st : List Value) (σ : a_HP) (Q : Option Value → a_HP → Prop) : Rn 14 54 ls st σ Q = acR 14 (o_ldi 7 56 ls st σ) ls σ Q := rn_row rfl ls st σ Q
theorem r_14_56 (ls : a_LS) (st : List Value) (σ : a_HP) (Q : Option Value → a_HP → Prop) : Rn 14 56 ls st σ Q = acR 14 (o_lda 0 57 ls st σ) ls σ Q := rn_row rfl ls st σ Q
theorem r_14_57 (ls : a_LS) (st : List Value) (σ : a_HP) (Q : Option Value → a_HP → Prop) : Rn 14 57 ls st σ Q = acR 14 (o_ldi 1 58 ls st σ) ls σ Q := rn_row rfl ls st σ Q
theorem r_14_58 (ls : a_LS) (st : List Value) (σ : a_HP) (Q : Option Value → a_HP → Prop) : Rn 14 58 ls st σ Q = acR 14 (o_ldi 4 60 ls st σ) ls σ Q := rn_row rfl ls st σ Q
theorem r_14_60 (ls : a_LS) (st : List Value) (σ : a_HP) (Q : Option Value → a_HP → Prop) : Rn 14 60 ls st σ Q = acR 14 (o_pi (nI 1) 61 ls st σ) ls σ Q := rn_row rfl ls st σ Q
theorem r_14_61 (ls : a_LS) (st : List Value) (σ : a_HP) (Q : Option Value → a_HP → Prop) : Rn 14 61 ls st σ Q = acR 14 (o_bi f_add 62 ls st σ) ls σ Q := rn_row rfl ls st σ Q
theorem r_14_62 (ls : a_LS) (st : List Value) (σ : a_HP) (Q : Option Value → a_HP → Prop) : Rn 14 62 ls st σ Q = acR 14 (o_ldi 3 63 ls st σ) ls σ Q := rn_row rfl ls st σ Q
theorem r_14_63 (ls : a_LS) (st : List Value) (σ : a_HP) (Q : Option Value → a_HP → Prop) : Rn 14 63 ls st σ Q = acR 14 (o_lda 0 64 ls st σ) ls σ Q := rn_row rfl ls st σ Q
theorem r_14_64 (ls : a_LS) (st : List Value) (σ : a_HP) (Q : Option Value → a_HP → Prop) : Rn 14 64 ls st σ Q = acR 14 (o_ldi 5 66 ls st σ) ls σ Q := rn_row rfl ls st σ Q
theorem r_14_66 (ls : a_LS) (st : List Value) (σ : a_HP) (Q : Option Value → a_HP → Prop) : Rn 14 66 ls st σ Q = acR 14 (o_ldi 7 68 ls st σ) ls σ Q := rn_row rfl ls st σ Q
theorem r_14_68 (ls : a_LS) (st : List Value) (σ : a_HP) (Q : Option Value → a_HP → Prop) : Rn 14 68 ls st σ Q = acR 14 (o_ivv 2 6 2 71 ls st σ) ls σ Q := rn_row rfl ls st σ Q
theorem r_14_71 (ls : a_LS) (st : List Value) (σ : a_HP) (Q : Option Value → a_HP → Prop) : Rn 14 71 ls st σ Q = acR 14 (o_bi f_sub 72 ls st σ) ls σ Q := rn_row rfl ls st σ Q
theorem r_14_72 (ls : a_LS) (st : List Value) (σ : a_HP) (Q : Option Value → a_HP → Prop) : Rn 14 72 ls st σ Q = acR 14 (o_ivv 2 10 3 75 ls st σ) ls σ Q := rn_row rfl ls st σ Q
theorem r_14_75 (ls : a_LS) (st : List Value) (σ : a_HP) (Q : Option Value → a_HP → Prop) : Rn 14 75 ls st σ Q = acR 14 (o_bi f_add 76 ls st σ) ls σ Q := rn_row rfl ls st σ Q
theorem r_14_76 (ls : a_LS) (st : List Value) (σ : a_HP) (Q : Option Value → a_HP → Prop) : Rn 14 76 ls st σ Q = acR 14 (o_ldi 6 78 ls st σ) ls σ Q := rn_row rfl ls st σ Q
theorem r_14_78 (ls : a_LS) (st : List Value) (σ : a_HP) (Q : Option Value → a_HP → Prop) : Rn 14 78 ls st σ Q = acR 14 (o_cle 87 81 ls st σ) ls σ Q := rn_row rfl ls st σ Q
theorem r_14_81 (ls : a_LS) (st : List Value) (σ : a_HP) (Q : Option Value → a_HP → Prop) : Rn 14 81 ls st σ Q = acR 14 (o_inc 7 (nI 1) 84 ls st σ) ls σ Q := rn_row rfl ls st σ Q
theorem r_14_84 (ls : a_LS) (st : List Value) (σ : a_HP) (Q : Option Value → a_HP → Prop) : Rn 14 84 ls st σ Q = acR 14 (o_go 42 ls st σ) ls σ Q := rn_row rfl ls st σ Q
theorem r_14_87 (ls : a_LS) (st : List Value) (σ : a_HP) (Q : Option Value → a_HP → Prop) : Rn 14 87 ls st σ Q = acR 14 (o_lda 0 88 ls st σ) ls σ Q := rn_row rfl ls st σ Q
theorem r_14_88 (ls : a_LS) (st : List Value) (σ : a_HP) (Q : Option Value → a_HP → Prop) : Rn 14 88 ls st σ Q = acR 14 (o_get 2 1 91 ls st σ) ls σ Q := rn_row rfl ls st σ Q
theorem r_14_91 (ls : a_LS) (st : List Value) (σ : a_HP) (Q : Option Value → a_HP → Prop) : Rn 14 91 ls st σ Q = acR 14 (o_ldi 5 93 ls st σ) ls σ Q := rn_row rfl ls st σ Q
theorem r_14_93 (ls : a_LS) (st : List Value) (σ : a_HP) (Q : Option Value → a_HP → Prop) : Rn 14 93 ls st σ Q = acR 14 (o_ldi 7 95 ls st σ) ls σ Q := rn_row rfl ls st σ Q
theorem r_14_95 (ls : a_LS) (st : List Value) (σ : a_HP) (Q : Option Value → a_HP → Prop) : Rn 14 95 ls st σ Q = acR 14 (o_ias 96 ls st σ) ls σ Q := rn_row rfl ls st σ Q
theorem r_14_96 (ls : a_LS) (st : List Value) (σ : a_HP) (Q : Option Value → a_HP → Prop) : Rn 14 96 ls st σ Q = acR 14 (o_ldi 3 97 ls st σ) ls σ Q := rn_row rfl ls st σ Q
theorem r_14_97 (ls : a_LS) (st : List Value) (σ : a_HP) (Q : Option Value → a_HP → Prop) : Rn 14 97 ls st σ Q = acR 14 (o_lda 0 98 ls st σ) ls σ Q := rn_row rfl ls st σ Q
theorem r_14_98 (ls : a_LS) (st : List Value) (σ : a_HP) (Q : Option Value → a_HP → Prop) : Rn 14 98 ls st σ Q = acR 14 (o_ldi 5 100 ls st σ) ls σ Q := rn_row rfl ls st σ Q
theorem r_14_100 (ls : a_LS) (st : List Value) (σ : a_HP) (Q : Option Value → a_HP → Prop) : Rn 14 100 ls st σ Q = acR 14 (o_ldi 7 102 ls st σ) ls σ Q := rn_row rfl ls st σ Q
theorem r_14_102 (ls : a_LS) (st : List Value) (σ : a_HP) (Q : Option Value → a_HP → Prop) : Rn 14 102 ls st σ Q = acR 14 (o_ivv 2 6 2 105 ls st σ) ls σ Q := rn_row rfl ls st σ Q
theorem r_14_105 (ls : a_LS) (st : List Value) (σ : a_HP) (Q : Option Value → a_HP → Prop) : Rn 14 105 ls st σ Q = acR 14 (o_bi f_sub 106 ls st σ) ls σ Q := rn_row rfl ls st σ Q
theorem r_14_106 (ls : a_LS) (st : List Value) (σ : a_HP) (Q : Option Value → a_HP → Prop) : Rn 14 106 ls st σ Q = acR 14 (o_sti 3 107 ls st σ) ls σ Q := rn_row rfl ls st σ Q
theorem r_14_107 (ls : a_LS) (st : List Value) (σ : a_HP) (Q : Option Value → a_HP → Prop) : Rn 14 107 ls st σ Q = acR 14 (o_inc 4 (nI 1) 110 ls st σ) ls σ Q := rn_row rfl ls st σ Q
theorem r_14_110 (ls : a_LS) (st : List Value) (σ : a_HP) (Q : Option Value → a_HP → Prop) : Rn 14 110 ls st σ Q = acR 14 (o_go 5 ls st σ) ls σ Q := rn_row rfl ls st σ Q
theorem r_14_113 (ls : a_LS) (st : List Value) (σ : a_HP) (Q : Option Value → a_HP → Prop) : Rn 14 113 ls st σ Q = acR 14 (o_rv ls st σ) ls σ Q := rn_row rfl ls st σ Q
/-! 15: NetLaw$Mending.isRowBefore()Z -/
theorem cl_15 (x0 : Nat) (σ : a_HP) (Q : Option Value → a_HP → Prop) : Cl 15 [.ref x0] σ Q = Rn 15 0 [some (.ref x0), none] [] σ Q := cl_of (Nat.le_of_ble_eq_true rfl) rfl σ Q
theorem r_15_0 (ls : a_LS) (st : List Value) (σ : a_HP) (Q : Option Value → a_HP → Prop) : Rn 15 0 ls st σ Q = acR 15 (o_pi (nI 0) 1 ls st σ) ls σ Q := rn_row rfl ls st σ Q
theorem r_15_1 (ls : a_LS) (st : List Value) (σ : a_HP) (Q : Option Value → a_HP → Prop) : Rn 15 1 ls st σ Q = acR 15 (o_sti 1 2 ls st σ) ls σ Q := rn_row rfl ls st σ Q
theorem r_15_2 (ls : a_LS) (st : List Value) (σ : a_HP) (Q : Option Value → a_HP → Prop) : Rn 15 2 ls st σ Q = acR 15 (o_ldi 1 3 ls st σ) ls σ Q := rn_row rfl ls st σ Q
theorem r_15_3 (ls : a_LS) (st : List Value) (σ : a_HP) (Q : Option Value → a_HP → Prop) : Rn 15 3 ls st σ Q = acR 15 (o_pi (nI 16) 5 ls st σ) ls σ Q := rn_row rfl ls st σ Q
theorem r_15_5 (ls : a_LS) (st : List Value) (σ : a_HP) (Q : Option Value → a_HP → Prop) : Rn 15 5 ls st σ Q = acR 15 (o_cge 50 8 ls st σ) ls σ Q := rn_row rfl ls st σ Q
theorem r_15_8 (ls : a_LS) (st : List Value) (σ : a_HP) (Q : Option Value → a_HP → Prop) : Rn 15 8 ls st σ Q = acR 15 (o_lda 0 9 ls st σ) ls σ Q := rn_row rfl ls st σ Q
theorem r_15_9 (ls : a_LS) (st : List Value) (σ : a_HP) (Q : Option Value → a_HP → Prop) : Rn 15 9 ls st σ Q = acR 15 (o_get 2 1 12 ls st σ) ls σ Q := rn_row rfl ls st σ Q
theorem r_15_12 (ls : a_LS) (st : List Value) (σ : a_HP) (Q : Option Value → a_HP → Prop) : Rn 15 12 ls st σ Q = acR 15 (o_ldi 1 13 ls st σ) ls σ Q := rn_row rfl ls st σ Q
theorem r_15_13 (ls : a_LS) (st : List Value) (σ : a_HP) (Q : Option Value → a_HP → Prop) : Rn 15 13 ls st σ Q = acR 15 (o_ial 14 ls st σ) ls σ Q := rn_row rfl ls st σ Q
theorem r_15_14 (ls : a_LS) (st : List Value) (σ : a_HP) (Q : Option Value → a_HP → Prop) : Rn 15 14 ls st σ Q = acR 15 (o_lda 0 15 ls st σ) ls σ Q := rn_row rfl ls st σ Q
theorem r_15_15 (ls : a_LS) (st : List Value) (σ : a_HP) (Q : Option Value → a_HP → Prop) : Rn 15 15 ls st σ Q = acR 15 (o_get 2 0 18 ls st σ) ls σ Q := rn_row rfl ls st σ Q
theorem r_15_18 (ls : a_LS) (st : List Value) (σ : a_HP) (Q : Option Value → a_HP → Prop) : Rn 15 18 ls st σ Q = acR 15 (o_ldi 1 19 ls st σ) ls σ Q := rn_row rfl ls st σ Q
theorem r_15_19 (ls : a_LS) (st : List Value) (σ : a_HP) (Q : Option Value → a_HP → Prop) : Rn 15 19 ls st σ Q = acR 15 (o_ial 20 ls st σ) ls σ Q := rn_row rfl ls st σ Q
theorem r_15_20 (ls : a_LS) (st : List Value) (σ : a_HP) (Q : Option Value → a_HP → Prop) : Rn 15 20 ls st σ Q = acR 15 (o_ceq 44 23 ls st σ) ls σ Q := rn_row rfl ls st σ Q
theorem r_15_23 (ls : a_LS) (st : List Value) (σ : a_HP) (Q : Option Value → a_HP → Prop) : Rn 15 23 ls st σ Q = acR 15 (o_lda 0 24 ls st σ) ls σ Q := rn_row rfl ls st σ Q
theorem r_15_24 (ls : a_LS) (st : List Value) (σ : a_HP) (Q : Option Value → a_HP → Prop) : Rn 15 24 ls st σ Q = acR 15 (o_get 2 1 27 ls st σ) ls σ Q := rn_row rfl ls st σ Q
theorem r_15_27 (ls : a_LS) (st : List Value) (σ : a_HP) (Q : Option Value → a_HP → Prop) : Rn 15 27 ls st σ Q = acR 15 (o_ldi 1 28 ls st σ) ls σ Q := rn_row rfl ls st σ Q
theorem r_15_28 (ls : a_LS) (st : List Value) (σ : a_HP) (Q : Option Value → a_HP → Prop) : Rn 15 28 ls st σ Q = acR 15 (o_ial 29 ls st σ) ls σ Q := rn_row rfl ls st σ Q
theorem r_15_29 (ls : a_LS) (st : List Value) (σ : a_HP) (Q : Option Value → a_HP → Prop) : Rn 15 29 ls st σ Q = acR 15 (o_lda 0 30 ls st σ) ls σ Q := rn_row rfl ls st σ Q
theorem r_15_30 (ls : a_LS) (st : List Value) (σ : a_HP) (Q : Option Value → a_HP → Prop) : Rn 15 30 ls st σ Q = acR 15 (o_get 2 0 33 ls st σ) ls σ Q := rn_row rfl ls st σ Q
theorem r_15_33 (ls : a_LS) (st : List Value) (σ : a_HP) (Q : Option Value → a_HP → Prop) : Rn 15 33 ls st σ Q = acR 15 (o_ldi 1 34 ls st σ) ls σ Q := rn_row rfl ls st σ Q
theorem r_15_34 (ls : a_LS) (st : List Value) (σ : a_HP) (Q : Option Value → a_HP → Prop) : Rn 15 34 ls st σ Q = acR 15 (o_ial 35 ls st σ) ls σ Q := rn_row rfl ls st σ Q
theorem r_15_35 (ls : a_LS) (st : List Value) (σ : a_HP) (Q : Option Value → a_HP → Prop) : Rn 15 35 ls st σ Q = acR 15 (o_cge 42 38 ls st σ) ls σ Q := rn_row rfl ls st σ Q
theorem r_15_38 (ls : a_LS) (st : List Value) (σ : a_HP) (Q : Option Value → a_HP → Prop) : Rn 15 38 ls st σ Q = acR 15 (o_pi (nI 1) 39 ls st σ) ls σ Q := rn_row rfl ls st σ Q
theorem r_15_39 (ls : a_LS) (st : List Value) (σ : a_HP) (Q : Option Value → a_HP → Prop) : Rn 15 39 ls st σ Q = acR 15 (o_go 43 ls st σ) ls σ Q := rn_row rfl ls st σ Q
theorem r_15_42 (ls : a_LS) (st : List Value) (σ : a_HP) (Q : Option Value → a_HP → Prop) : Rn 15 42 ls st σ Q = acR 15 (o_pi (nI 0) 43 ls st σ) ls σ Q := rn_row rfl ls st σ Q
theorem r_15_43 (ls : a_LS) (st : List Value) (σ : a_HP) (Q : Option Value → a_HP → Prop) : Rn 15 43 ls st σ Q = acR 15 (o_rz ls st σ) ls σ Q := rn_row rfl ls st σ Q
theorem r_15_44 (ls : a_LS) (st : List Value) (σ : a_HP) (Q : Option Value → a_HP → Prop) : Rn 15 44 ls st σ Q = acR 15 (o_inc 1 (nI 1) 47 ls st σ) ls σ Q := rn_row rfl ls st σ Q
theorem r_15_47 (ls : a_LS) (st : List Value) (σ : a_HP) (Q : Option Value → a_HP → Prop) : Rn 15 47 ls st σ Q = acR 15 (o_go 2 ls st σ) ls σ Q := rn_row rfl ls st σ Q
theorem r_15_50 (ls : a_LS) (st : List Value) (σ : a_HP) (Q : Option Value → a_HP → Prop) : Rn 15 50 ls st σ Q = acR 15 (o_pi (nI 0) 51 ls st σ) ls σ Q := rn_row rfl ls st σ Q
theorem r_15_51 (ls : a_LS) (st : List Value) (σ : a_HP) (Q : Option Value → a_HP → Prop) : Rn 15 51 ls st σ Q = acR 15 (o_rz ls st σ) ls σ Q := rn_row rfl ls st σ Q
/-! 16: NetLaw$Net.startAnew(II)V -/
theorem cl_16 (x0 : Nat) (x1 : Int32) (x2 : Int32) (σ : a_HP) (Q : Option Value → a_HP → Prop) : Cl 16 [.ref x0, .int x1, .int x2] σ Q = Rn 16 0 [some (.ref x0), some (.int x1), some (.int x2)] [] σ Q := cl_of (Nat.le_of_ble_eq_true rfl) rfl σ Q
theorem r_16_0 (ls : a_LS) (st : List Value) (σ : a_HP) (Q : Option Value → a_HP → Prop) : Rn 16 0 ls st σ Q = acR 16 (o_lda 0 1 ls st σ) ls σ Q := rn_row rfl ls st σ Q
theorem r_16_1 (ls : a_LS) (st : List Value) (σ : a_HP) (Q : Option Value → a_HP → Prop) : Rn 16 1 ls st σ Q = acR 16 (o_ldi 1 2 ls st σ) ls σ Q := rn_row rfl ls st σ Q
theorem r_16_2 (ls : a_LS) (st : List Value) (σ : a_HP) (Q : Option Value → a_HP → Prop) : Rn 16 2 ls st σ Q = acR 16 (o_put 3 0 5 ls st σ) ls σ Q := rn_row rfl ls st σ Q
theorem r_16_5 (ls : a_LS) (st : List Value) (σ : a_HP) (Q : Option Value → a_HP → Prop) : Rn 16 5 ls st σ Q = acR 16 (o_lda 0 6 ls st σ) ls σ Q := rn_row rfl ls st σ Q
theorem r_16_6 (ls : a_LS) (st : List Value) (σ : a_HP) (Q : Option Value → a_HP → Prop) : Rn 16 6 ls st σ Q = acR 16 (o_ldi 2 7 ls st σ) ls σ Q := rn_row rfl ls st σ Q
theorem r_16_7 (ls : a_LS) (st : List Value) (σ : a_HP) (Q : Option Value → a_HP → Prop) : Rn 16 7 ls st σ Q = acR 16 (o_put 3 1 10 ls st σ) ls σ Q := rn_row rfl ls st σ Q
theorem r_16_10 (ls : a_LS) (st : List Value) (σ : a_HP) (Q : Option Value → a_HP → Prop) : Rn 16 10 ls st σ Q = acR 16 (o_lda 0 11 ls st σ) ls σ Q := rn_row rfl ls st σ Q
theorem r_16_11 (ls : a_LS) (st : List Value) (σ : a_HP) (Q : Option Value → a_HP → Prop) : Rn 16 11 ls st σ Q = acR 16 (o_pi (nI 0) 12 ls st σ) ls σ Q := rn_row rfl ls st σ Q
theorem r_16_12 (ls : a_LS) (st : List Value) (σ : a_HP) (Q : Option Value → a_HP → Prop) : Rn 16 12 ls st σ Q = acR 16 (o_put 3 2 15 ls st σ) ls σ Q := rn_row rfl ls st σ Q
theorem r_16_15 (ls : a_LS) (st : List Value) (σ : a_HP) (Q : Option Value → a_HP → Prop) : Rn 16 15 ls st σ Q = acR 16 (o_lda 0 16 ls st σ) ls σ Q := rn_row rfl ls st σ Q
theorem r_16_16 (ls : a_LS) (st : List Value) (σ : a_HP) (Q : Option Value → a_HP → Prop) : Rn 16 16 ls st σ Q = acR 16 (o_pi (nI 0) 17 ls st σ) ls σ Q := rn_row rfl ls st σ Q
theorem r_16_17 (ls : a_LS) (st : List Value) (σ : a_HP) (Q : Option Value → a_HP → Prop) : Rn 16 17 ls st σ Q = acR 16 (o_put 3 3 20 ls st σ) ls σ Q := rn_row rfl ls st σ Q
theorem r_16_20 (ls : a_LS) (st : List Value) (σ : a_HP) (Q : Option Value → a_HP → Prop) : Rn 16 20 ls st σ Q = acR 16 (o_lda 0 21 ls st σ) ls σ Q := rn_row rfl ls st σ Q
theorem r_16_21 (ls : a_LS) (st : List Value) (σ : a_HP) (Q : Option Value → a_HP → Prop) : Rn 16 21 ls st σ Q = acR 16 (o_get 3 4 24 ls st σ) ls σ Q := rn_row rfl ls st σ Q
theorem r_16_24 (ls : a_LS) (st : List Value) (σ : a_HP) (Q : Option Value → a_HP → Prop) : Rn 16 24 ls st σ Q = acR 16 (o_pi (nI 0) 25 ls st σ) ls σ Q := rn_row rfl ls st σ Q
theorem r_16_25 (ls : a_LS) (st : List Value) (σ : a_HP) (Q : Option Value → a_HP → Prop) : Rn 16 25 ls st σ Q = acR 16 (o_ivs 209 2 28 ls st σ) ls σ Q := rn_row rfl ls st σ Q
theorem r_16_28 (ls : a_LS) (st : List Value) (σ : a_HP) (Q : Option Value → a_HP → Prop) : Rn 16 28 ls st σ Q = acR 16 (o_lda 0 29 ls st σ) ls σ Q := rn_row rfl ls st σ Q
theorem r_16_29 (ls : a_LS) (st : List Value) (σ : a_HP) (Q : Option Value → a_HP → Prop) : Rn 16 29 ls st σ Q = acR 16 (o_get 3 5 32 ls st σ) ls σ Q := rn_row rfl ls st σ Q
theorem r_16_32 (ls : a_LS) (st : List Value) (σ : a_HP) (Q : Option Value → a_HP → Prop) : Rn 16 32 ls st σ Q = acR 16 (o_pi (nI 0) 33 ls st σ) ls σ Q := rn_row rfl ls st σ Q
theorem r_16_33 (ls : a_LS) (st : List Value) (σ : a_HP) (Q : Option Value → a_HP → Prop) : Rn 16 33 ls st σ Q = acR 16 (o_ivs 209 2 36 ls st σ) ls σ Q := rn_row rfl ls st σ Q
theorem r_16_36 (ls : a_LS) (st : List Value) (σ : a_HP) (Q : Option Value → a_HP → Prop) : Rn 16 36 ls st σ Q = acR 16 (o_lda 0 37 ls st σ) ls σ Q := rn_row rfl ls st σ Q
theorem r_16_37 (ls : a_LS) (st : List Value) (σ : a_HP) (Q : Option Value → a_HP → Prop) : Rn 16 37 ls st σ Q = acR 16 (o_get 3 6 40 ls st σ) ls σ Q := rn_row rfl ls st σ Q
theorem r_16_40 (ls : a_LS) (st : List Value) (σ : a_HP) (Q : Option Value → a_HP → Prop) : Rn 16 40 ls st σ Q = acR 16 (o_pi (nI 0) 41 ls st σ) ls σ Q := rn_row rfl ls st σ Q
theorem r_16_41 (ls : a_LS) (st : List Value) (σ : a_HP) (Q : Option Value → a_HP → Prop) : Rn 16 41 ls st σ Q = acR 16 (o_ivs 209 2 44 ls st σ) ls σ Q := rn_row rfl ls st σ Q
theorem r_16_44 (ls : a_LS) (st : List Value) (σ : a_HP) (Q : Option Value → a_HP → Prop) : Rn 16 44 ls st σ Q = acR 16 (o_lda 0 45 ls st σ) ls σ Q := rn_row rfl ls st σ Q
theorem r_16_45 (ls : a_LS) (st : List Value) (σ : a_HP) (Q : Option Value → a_HP → Prop) : Rn 16 45 ls st σ Q = acR 16 (o_get 3 7 48 ls st σ) ls σ Q := rn_row rfl ls st σ Q
theorem r_16_48 (ls : a_LS) (st : List Value) (σ : a_HP) (Q : Option Value → a_HP → Prop) : Rn 16 48 ls st σ Q = acR 16 (o_pi (nI 9) 50 ls st σ) ls σ Q := rn_row rfl ls st σ Q
theorem r_16_50 (ls : a_LS) (st : List Value) (σ : a_HP) (Q : Option Value → a_HP → Prop) : Rn 16 50 ls st σ Q = acR 16 (o_ivs 209 2 53 ls st σ) ls σ Q := rn_row rfl ls st σ Q
theorem r_16_53 (ls : a_LS) (st : List Value) (σ : a_HP) (Q : Option Value → a_HP → Prop) : Rn 16 53 ls st σ Q = acR 16 (o_rv ls st σ) ls σ Q := rn_row rfl ls st σ Q
/-! 17: NetLaw$Net.takeFrom(LNetLaw$Net;)V -/
theorem cl_17 (x0 : Nat) (x1 : Nat) (σ : a_HP) (Q : Option Value → a_HP → Prop) : Cl 17 [.ref x0, .ref x1] σ Q = Rn 17 0 [some (.ref x0), some (.ref x1)] [] σ Q := cl_of (Nat.le_of_ble_eq_true rfl) rfl σ Q
theorem r_17_0 (ls : a_LS) (st : List Value) (σ : a_HP) (Q : Option Value → a_HP → Prop) : Rn 17 0 ls st σ Q = acR 17 (o_lda 0 1 ls st σ) ls σ Q := rn_row rfl ls st σ Q
theorem r_17_1 (ls : a_LS) (st : List Value) (σ : a_HP) (Q : Option Value → a_HP → Prop) : Rn 17 1 ls st σ Q = acR 17 (o_lda 1 2 ls st σ) ls σ Q := rn_row rfl ls st σ Q
theorem r_17_2 (ls : a_LS) (st : List Value) (σ : a_HP) (Q : Option Value → a_HP → Prop) : Rn 17 2 ls st σ Q = acR 17 (o_get 3 0 5 ls st σ) ls σ Q := rn_row rfl ls st σ Q
theorem r_17_5 (ls : a_LS) (st : List Value) (σ : a_HP) (Q : Option Value → a_HP → Prop) : Rn 17 5 ls st σ Q = acR 17 (o_put 3 0 8 ls st σ) ls σ Q := rn_row rfl ls st σ Q
theorem r_17_8 (ls : a_LS) (st : List Value) (σ : a_HP) (Q : Option Value → a_HP → Prop) : Rn 17 8 ls st σ Q = acR 17 (o_lda 0 9 ls st σ) ls σ Q := rn_row rfl ls st σ Q
theorem r_17_9 (ls : a_LS) (st : List Value) (σ : a_HP) (Q : Option Value → a_HP → Prop) : Rn 17 9 ls st σ Q = acR 17 (o_lda 1 10 ls st σ) ls σ Q := rn_row rfl ls st σ Q
theorem r_17_10 (ls : a_LS) (st : List Value) (σ : a_HP) (Q : Option Value → a_HP → Prop) : Rn 17 10 ls st σ Q = acR 17 (o_get 3 1 13 ls st σ) ls σ Q := rn_row rfl ls st σ Q
theorem r_17_13 (ls : a_LS) (st : List Value) (σ : a_HP) (Q : Option Value → a_HP → Prop) : Rn 17 13 ls st σ Q = acR 17 (o_put 3 1 16 ls st σ) ls σ Q := rn_row rfl ls st σ Q
theorem r_17_16 (ls : a_LS) (st : List Value) (σ : a_HP) (Q : Option Value → a_HP → Prop) : Rn 17 16 ls st σ Q = acR 17 (o_lda 0 17 ls st σ) ls σ Q := rn_row rfl ls st σ Q
theorem r_17_17 (ls : a_LS) (st : List Value) (σ : a_HP) (Q : Option Value → a_HP → Prop) : Rn 17 17 ls st σ Q = acR 17 (o_lda 1 18 ls st σ) ls σ Q := rn_row rfl ls st σ Q
theorem r_17_18 (ls : a_LS) (st : List Value) (σ : a_HP) (Q : Option Value → a_HP → Prop) : Rn 17 18 ls st σ Q = acR 17 (o_get 3 2 21 ls st σ) ls σ Q := rn_row rfl ls st σ Q
theorem r_17_21 (ls : a_LS) (st : List Value) (σ : a_HP) (Q : Option Value → a_HP → Prop) : Rn 17 21 ls st σ Q = acR 17 (o_put 3 2 24 ls st σ) ls σ Q := rn_row rfl ls st σ Q
theorem r_17_24 (ls : a_LS) (st : List Value) (σ : a_HP) (Q : Option Value → a_HP → Prop) : Rn 17 24 ls st σ Q = acR 17 (o_lda 0 25 ls st σ) ls σ Q := rn_row rfl ls st σ Q
theorem r_17_25 (ls : a_LS) (st : List Value) (σ : a_HP) (Q : Option Value → a_HP → Prop) : Rn 17 25 ls st σ Q = acR 17 (o_lda 1 26 ls st σ) ls σ Q := rn_row rfl ls st σ Q
theorem r_17_26 (ls : a_LS) (st : List Value) (σ : a_HP) (Q : Option Value → a_HP → Prop) : Rn 17 26 ls st σ Q = acR 17 (o_get 3 3 29 ls st σ) ls σ Q := rn_row rfl ls st σ Q
theorem r_17_29 (ls : a_LS) (st : List Value) (σ : a_HP) (Q : Option Value → a_HP → Prop) : Rn 17 29 ls st σ Q = acR 17 (o_put 3 3 32 ls st σ) ls σ Q := rn_row rfl ls st σ Q
theorem r_17_32 (ls : a_LS) (st : List Value) (σ : a_HP) (Q : Option Value → a_HP → Prop) : Rn 17 32 ls st σ Q = acR 17 (o_lda 1 33 ls st σ) ls σ Q := rn_row rfl ls st σ Q
theorem r_17_33 (ls : a_LS) (st : List Value) (σ : a_HP) (Q : Option Value → a_HP → Prop) : Rn 17 33 ls st σ Q = acR 17 (o_get 3 4 36 ls st σ) ls σ Q := rn_row rfl ls st σ Q
theorem r_17_36 (ls : a_LS) (st : List Value) (σ : a_HP) (Q : Option Value → a_HP → Prop) : Rn 17 36 ls st σ Q = acR 17 (o_pi (nI 0) 37 ls st σ) ls σ Q := rn_row rfl ls st σ Q
theorem r_17_37 (ls : a_LS) (st : List Value) (σ : a_HP) (Q : Option Value → a_HP → Prop) : Rn 17 37 ls st σ Q = acR 17 (o_lda 0 38 ls st σ) ls σ Q := rn_row rfl ls st σ Q
theorem r_17_38 (ls : a_LS) (st : List Value) (σ : a_HP) (Q : Option Value → a_HP → Prop) : Rn 17 38 ls st σ Q = acR 17 (o_get 3 4 41 ls st σ) ls σ Q := rn_row rfl ls st σ Q
theorem r_17_41 (ls : a_LS) (st : List Value) (σ : a_HP) (Q : Option Value → a_HP → Prop) : Rn 17 41 ls st σ Q = acR 17 (o_pi (nI 0) 42 ls st σ) ls σ Q := rn_row rfl ls st σ Q
theorem r_17_42 (ls : a_LS) (st : List Value) (σ : a_HP) (Q : Option Value → a_HP → Prop) : Rn 17 42 ls st σ Q = acR 17 (o_pi (nI 16) 44 ls st σ) ls σ Q := rn_row rfl ls st σ Q
theorem r_17_44 (ls : a_LS) (st : List Value) (σ : a_HP) (Q : Option Value → a_HP → Prop) : Rn 17 44 ls st σ Q = acR 17 (o_cpy 47 ls st σ) ls σ Q := rn_row rfl ls st σ Q
theorem r_17_47 (ls : a_LS) (st : List Value) (σ : a_HP) (Q : Option Value → a_HP → Prop) : Rn 17 47 ls st σ Q = acR 17 (o_lda 1 48 ls st σ) ls σ Q := rn_row rfl ls st σ Q
theorem r_17_48 (ls : a_LS) (st : List Value) (σ : a_HP) (Q : Option Value → a_HP → Prop) : Rn 17 48 ls st σ Q = acR 17 (o_get 3 5 51 ls st σ) ls σ Q := rn_row rfl ls st σ Q
theorem r_17_51 (ls : a_LS) (st : List Value) (σ : a_HP) (Q : Option Value → a_HP → Prop) : Rn 17 51 ls st σ Q = acR 17 (o_pi (nI 0) 52 ls st σ) ls σ Q := rn_row rfl ls st σ Q
theorem r_17_52 (ls : a_LS) (st : List Value) (σ : a_HP) (Q : Option Value → a_HP → Prop) : Rn 17 52 ls st σ Q = acR 17 (o_lda 0 53 ls st σ) ls σ Q := rn_row rfl ls st σ Q
theorem r_17_53 (ls : a_LS) (st : List Value) (σ : a_HP) (Q : Option Value → a_HP → Prop) : Rn 17 53 ls st σ Q = acR 17 (o_get 3 5 56 ls st σ) ls σ Q := rn_row rfl ls st σ Q
theorem r_17_56 (ls : a_LS) (st : List Value) (σ : a_HP) (Q : Option Value → a_HP → Prop) : Rn 17 56 ls st σ Q = acR 17 (o_pi (nI 0) 57 ls st σ) ls σ Q := rn_row rfl ls st σ Q
theorem r_17_57 (ls : a_LS) (st : List Value) (σ : a_HP) (Q : Option Value → a_HP → Prop) : Rn 17 57 ls st σ Q = acR 17 (o_pi (nI 16) 59 ls st σ) ls σ Q := rn_row rfl ls st σ Q
theorem r_17_59 (ls : a_LS) (st : List Value) (σ : a_HP) (Q : Option Value → a_HP → Prop) : Rn 17 59 ls st σ Q = acR 17 (o_cpy 62 ls st σ) ls σ Q := rn_row rfl ls st σ Q
theorem r_17_62 (ls : a_LS) (st : List Value) (σ : a_HP) (Q : Option Value → a_HP → Prop) : Rn 17 62 ls st σ Q = acR 17 (o_lda 1 63 ls st σ) ls σ Q := rn_row rfl ls st σ Q
theorem r_17_63 (ls : a_LS) (st : List Value) (σ : a_HP) (Q : Option Value → a_HP → Prop) : Rn 17 63 ls st σ Q = acR 17 (o_get 3 6 66 ls st σ) ls σ Q := rn_row rfl ls st σ Q
theorem r_17_66 (ls : a_LS) (st : List Value) (σ : a_HP) (Q : Option Value → a_HP → Prop) : Rn 17 66 ls st σ Q = acR 17 (o_pi (nI 0) 67 ls st σ) ls σ Q := rn_row rfl ls st σ Q
theorem r_17_67 (ls : a_LS) (st : List Value) (σ : a_HP) (Q : Option Value → a_HP → Prop) : Rn 17 67 ls st σ Q = acR 17 (o_lda 0 68 ls st σ) ls σ Q := rn_row rfl ls st σ Q
theorem r_17_68 (ls : a_LS) (st : List Value) (σ : a_HP) (Q : Option Value → a_HP → Prop) : Rn 17 68 ls st σ Q = acR 17 (o_get 3 6 71 ls st σ) ls σ Q := rn_row rfl ls st σ Q
theorem r_17_71 (ls : a_LS) (st : List Value) (σ : a_HP) (Q : Option Value → a_HP → Prop) : Rn 17 71 ls st σ Q = acR 17 (o_pi (nI 0) 72 ls st σ) ls σ Q := rn_row rfl ls st σ Q
theorem r_17_72 (ls : a_LS) (st : List Value) (σ : a_HP) (Q : Option Value → a_HP → Prop) : Rn 17 72 ls st σ Q = acR 17 (o_pi (nI 16) 74 ls st σ) ls σ Q := rn_row rfl ls st σ Q
theorem r_17_74 (ls : a_LS) (st : List Value) (σ : a_HP) (Q : Option Value → a_HP → Prop) : Rn 17 74 ls st σ Q = acR 17 (o_cpy 77 ls st σ) ls σ Q := rn_row rfl ls st σ Q
theorem r_17_77 (ls : a_LS) (st : List Value) (σ : a_HP) (Q : Option Value → a_HP → Prop) : Rn 17 77 ls st σ Q = acR 17 (o_lda 1 78 ls st σ) ls σ Q := rn_row rfl ls st σ Q
theorem r_17_78 (ls : a_LS) (st : List Value) (σ : a_HP) (Q : Option Value → a_HP → Prop) : Rn 17 78 ls st σ Q = acR 17 (o_get 3 7 81 ls st σ) ls σ Q := rn_row rfl ls st σ Q
theorem r_17_81 (ls : a_LS) (st : List Value) (σ : a_HP) (Q : Option Value → a_HP → Prop) : Rn 17 81 ls st σ Q = acR 17 (o_pi (nI 0) 82 ls st σ) ls σ Q := rn_row rfl ls st σ Q
theorem r_17_82 (ls : a_LS) (st : List Value) (σ : a_HP) (Q : Option Value → a_HP → Prop) : Rn 17 82 ls st σ Q = acR 17 (o_lda 0 83 ls st σ) ls σ Q := rn_row rfl ls st σ Q
theorem r_17_83 (ls : a_LS) (st : List Value) (σ : a_HP) (Q : Option Value → a_HP → Prop) : Rn 17 83 ls st σ Q = acR 17 (o_get 3 7 86 ls st σ) ls σ Q := rn_row rfl ls st σ Q
theorem r_17_86 (ls : a_LS) (st : List Value) (σ : a_HP) (Q : Option Value → a_HP → Prop) : Rn 17 86 ls st σ Q = acR 17 (o_pi (nI 0) 87 ls st σ) ls σ Q := rn_row rfl ls st σ Q
theorem r_17_87 (ls : a_LS) (st : List Value) (σ : a_HP) (Q : Option Value → a_HP → Prop) : Rn 17 87 ls st σ Q = acR 17 (o_pi (nI 9) 89 ls st σ) ls σ Q := rn_row rfl ls st σ Q
theorem r_17_89 (ls : a_LS) (st : List Value) (σ : a_HP) (Q : Option Value → a_HP → Prop) : Rn 17 89 ls st σ Q = acR 17 (o_cpy 92 ls st σ) ls σ Q := rn_row rfl ls st σ Q
theorem r_17_92 (ls : a_LS) (st : List Value) (σ : a_HP) (Q : Option Value → a_HP → Prop) : Rn 17 92 ls st σ Q = acR 17 (o_rv ls st σ) ls σ Q := rn_row rfl ls st σ Q
/-! 18: NetLaw$Net.tieKnot(IIII)V -/
theorem cl_18 (x0 : Nat) (x1 : Int32) (x2 : Int32) (x3 : Int32) (x4 : Int32) (σ : a_HP) (Q : Option Value → a_HP → Prop) : Cl 18 [.ref x0, .int x1, .int x2, .int x3, .int x4] σ Q = Rn 18 0 [some (.ref x0), some (.int x1), some (.int x2), some (.int x3), some (.int x4)] [] σ Q := cl_of (Nat.le_of_ble_eq_true rfl) rfl σ Q
theorem r_18_0 (ls : a_LS) (st : List Value) (σ : a_HP) (Q : Option Value → a_HP → Prop) : Rn 18 0 ls st σ Q = acR 18 (o_lda 0 1 ls st σ) ls σ Q := rn_row rfl ls st σ Q
theorem r_18_1 (ls : a_LS) (st : List Value) (σ : a_HP) (Q : Option Value → a_HP → Prop) : Rn 18 1 ls st σ Q = acR 18 (o_get 3 4 4 ls st σ) ls σ Q := rn_row rfl ls st σ Q
theorem r_18_4 (ls : a_LS) (st : List Value) (σ : a_HP) (Q : Option Value → a_HP → Prop) : Rn 18 4 ls st σ Q = acR 18 (o_ldi 1 5 ls st σ) ls σ Q := rn_row rfl ls st σ Q
theorem r_18_5 (ls : a_LS) (st : List Value) (σ : a_HP) (Q : Option Value → a_HP → Prop) : Rn 18 5 ls st σ Q = acR 18 (o_ldi 2 6 ls st σ) ls σ Q := rn_row rfl ls st σ Q
theorem r_18_6 (ls : a_LS) (st : List Value) (σ : a_HP) (Q : Option Value → a_HP → Prop) : Rn 18 6 ls st σ Q = acR 18 (o_ias 7 ls st σ) ls σ Q := rn_row rfl ls st σ Q
theorem r_18_7 (ls : a_LS) (st : List Value) (σ : a_HP) (Q : Option Value → a_HP → Prop) : Rn 18 7 ls st σ Q = acR 18 (o_lda 0 8 ls st σ) ls σ Q := rn_row rfl ls st σ Q
theorem r_18_8 (ls : a_LS) (st : List Value) (σ : a_HP) (Q : Option Value → a_HP → Prop) : Rn 18 8 ls st σ Q = acR 18 (o_get 3 5 11 ls st σ) ls σ Q := rn_row rfl ls st σ Q
theorem r_18_11 (ls : a_LS) (st : List Value) (σ : a_HP) (Q : Option Value → a_HP → Prop) : Rn 18 11 ls st σ Q = acR 18 (o_ldi 1 12 ls st σ) ls σ Q := rn_row rfl ls st σ Q
theorem r_18_12 (ls : a_LS) (st : List Value) (σ : a_HP) (Q : Option Value → a_HP → Prop) : Rn 18 12 ls st σ Q = acR 18 (o_ldi 3 13 ls st σ) ls σ Q := rn_row rfl ls st σ Q
theorem r_18_13 (ls : a_LS) (st : List Value) (σ : a_HP) (Q : Option Value → a_HP → Prop) : Rn 18 13 ls st σ Q = acR 18 (o_ias 14 ls st σ) ls σ Q := rn_row rfl ls st σ Q
theorem r_18_14 (ls : a_LS) (st : List Value) (σ : a_HP) (Q : Option Value → a_HP → Prop) : Rn 18 14 ls st σ Q = acR 18 (o_lda 0 15 ls st σ) ls σ Q := rn_row rfl ls st σ Q
theorem r_18_15 (ls : a_LS) (st : List Value) (σ : a_HP) (Q : Option Value → a_HP → Prop) : Rn 18 15 ls st σ Q = acR 18 (o_get 3 6 18 ls st σ) ls σ Q := rn_row rfl ls st σ Q
theorem r_18_18 (ls : a_LS) (st : List Value) (σ : a_HP) (Q : Option Value → a_HP → Prop) : Rn 18 18 ls st σ Q = acR 18 (o_ldi 1 19 ls st σ) ls σ Q := rn_row rfl ls st σ Q
theorem r_18_19 (ls : a_LS) (st : List Value) (σ : a_HP) (Q : Option Value → a_HP → Prop) : Rn 18 19 ls st σ Q = acR 18 (o_ldi 4 21 ls st σ) ls σ Q := rn_row rfl ls st σ Q
theorem r_18_21 (ls : a_LS) (st : List Value) (σ : a_HP) (Q : Option Value → a_HP → Prop) : Rn 18 21 ls st σ Q = acR 18 (o_ias 22 ls st σ) ls σ Q := rn_row rfl ls st σ Q
theorem r_18_22 (ls : a_LS) (st : List Value) (σ : a_HP) (Q : Option Value → a_HP → Prop) : Rn 18 22 ls st σ Q = acR 18 (o_rv ls st σ) ls σ Q := rn_row rfl ls st σ Q
/-! 19: NetLaw$Net.isHole(I)Z -/
theorem cl_19 (x0 : Nat) (x1 : Int32) (σ : a_HP) (Q : Option Value → a_HP → Prop) : Cl 19 [.ref x0, .int x1] σ Q = Rn 19 0 [some (.ref x0), some (.int x1)] [] σ Q := cl_of (Nat.le_of_ble_eq_true rfl) rfl σ Q
theorem r_19_0 (ls : a_LS) (st : List Value) (σ : a_HP) (Q : Option Value → a_HP → Prop) : Rn 19 0 ls st σ Q = acR 19 (o_lda 0 1 ls st σ) ls σ Q := rn_row rfl ls st σ Q
theorem r_19_1 (ls : a_LS) (st : List Value) (σ : a_HP) (Q : Option Value → a_HP → Prop) : Rn 19 1 ls st σ Q = acR 19 (o_get 3 5 4 ls st σ) ls σ Q := rn_row rfl ls st σ Q
theorem r_19_4 (ls : a_LS) (st : List Value) (σ : a_HP) (Q : Option Value → a_HP → Prop) : Rn 19 4 ls st σ Q = acR 19 (o_ldi 1 5 ls st σ) ls σ Q := rn_row rfl ls st σ Q
theorem r_19_5 (ls : a_LS) (st : List Value) (σ : a_HP) (Q : Option Value → a_HP → Prop) : Rn 19 5 ls st σ Q = acR 19 (o_ial 6 ls st σ) ls σ Q := rn_row rfl ls st σ Q
theorem r_19_6 (ls : a_LS) (st : List Value) (σ : a_HP) (Q : Option Value → a_HP → Prop) : Rn 19 6 ls st σ Q = acR 19 (o_ne 13 9 ls st σ) ls σ Q := rn_row rfl ls st σ Q
theorem r_19_9 (ls : a_LS) (st : List Value) (σ : a_HP) (Q : Option Value → a_HP → Prop) : Rn 19 9 ls st σ Q = acR 19 (o_pi (nI 1) 10 ls st σ) ls σ Q := rn_row rfl ls st σ Q
theorem r_19_10 (ls : a_LS) (st : List Value) (σ : a_HP) (Q : Option Value → a_HP → Prop) : Rn 19 10 ls st σ Q = acR 19 (o_go 14 ls st σ) ls σ Q := rn_row rfl ls st σ Q
theorem r_19_13 (ls : a_LS) (st : List Value) (σ : a_HP) (Q : Option Value → a_HP → Prop) : Rn 19 13 ls st σ Q = acR 19 (o_pi (nI 0) 14 ls st σ) ls σ Q := rn_row rfl ls st σ Q
theorem r_19_14 (ls : a_LS) (st : List Value) (σ : a_HP) (Q : Option Value → a_HP → Prop) : Rn 19 14 ls st σ Q = acR 19 (o_rz ls st σ) ls σ Q := rn_row rfl ls st σ Q
/-! 20: NetLaw$Net.tiedKnots()I -/
theorem cl_20 (x0 : Nat) (σ : a_HP) (Q : Option Value → a_HP → Prop) : Cl 20 [.ref x0] σ Q = Rn 20 0 [some (.ref x0), none, none] [] σ Q := cl_of (Nat.le_of_ble_eq_true rfl) rfl σ Q
theorem r_20_0 (ls : a_LS) (st : List Value) (σ : a_HP) (Q : Option Value → a_HP → Prop) : Rn 20 0 ls st σ Q = acR 20 (o_pi (nI 0) 1 ls st σ) ls σ Q := rn_row rfl ls st σ Q
theorem r_20_1 (ls : a_LS) (st : List Value) (σ : a_HP) (Q : Option Value → a_HP → Prop) : Rn 20 1 ls st σ Q = acR 20 (o_sti 1 2 ls st σ) ls σ Q := rn_row rfl ls st σ Q
theorem r_20_2 (ls : a_LS) (st : List Value) (σ : a_HP) (Q : Option Value → a_HP → Prop) : Rn 20 2 ls st σ Q = acR 20 (o_pi (nI 0) 3 ls st σ) ls σ Q := rn_row rfl ls st σ Q
theorem r_20_3 (ls : a_LS) (st : List Value) (σ : a_HP) (Q : Option Value → a_HP → Prop) : Rn 20 3 ls st σ Q = acR 20 (o_sti 2 4 ls st σ) ls σ Q := rn_row rfl ls st σ Q
theorem r_20_4 (ls : a_LS) (st : List Value) (σ : a_HP) (Q : Option Value → a_HP → Prop) : Rn 20 4 ls st σ Q = acR 20 (o_ldi 2 5 ls st σ) ls σ Q := rn_row rfl ls st σ Q
theorem r_20_5 (ls : a_LS) (st : List Value) (σ : a_HP) (Q : Option Value → a_HP → Prop) : Rn 20 5 ls st σ Q = acR 20 (o_pi (nI 16) 7 ls st σ) ls σ Q := rn_row rfl ls st σ Q
theorem r_20_7 (ls : a_LS) (st : List Value) (σ : a_HP) (Q : Option Value → a_HP → Prop) : Rn 20 7 ls st σ Q = acR 20 (o_cge 32 10 ls st σ) ls σ Q := rn_row rfl ls st σ Q
theorem r_20_10 (ls : a_LS) (st : List Value) (σ : a_HP) (Q : Option Value → a_HP → Prop) : Rn 20 10 ls st σ Q = acR 20 (o_ldi 1 11 ls st σ) ls σ Q := rn_row rfl ls st σ Q
theorem r_20_11 (ls : a_LS) (st : List Value) (σ : a_HP) (Q : Option Value → a_HP → Prop) : Rn 20 11 ls st σ Q = acR 20 (o_lda 0 12 ls st σ) ls σ Q := rn_row rfl ls st σ Q
theorem r_20_12 (ls : a_LS) (st : List Value) (σ : a_HP) (Q : Option Value → a_HP → Prop) : Rn 20 12 ls st σ Q = acR 20 (o_ldi 2 13 ls st σ) ls σ Q := rn_row rfl ls st σ Q
theorem r_20_13 (ls : a_LS) (st : List Value) (σ : a_HP) (Q : Option Value → a_HP → Prop) : Rn 20 13 ls st σ Q = acR 20 (o_ivv 3 19 1 16 ls st σ) ls σ Q := rn_row rfl ls st σ Q
theorem r_20_16 (ls : a_LS) (st : List Value) (σ : a_HP) (Q : Option Value → a_HP → Prop) : Rn 20 16 ls st σ Q = acR 20 (o_eq 23 19 ls st σ) ls σ Q := rn_row rfl ls st σ Q
theorem r_20_19 (ls : a_LS) (st : List Value) (σ : a_HP) (Q : Option Value → a_HP → Prop) : Rn 20 19 ls st σ Q = acR 20 (o_pi (nI 0) 20 ls st σ) ls σ Q := rn_row rfl ls st σ Q
theorem r_20_20 (ls : a_LS) (st : List Value) (σ : a_HP) (Q : Option Value → a_HP → Prop) : Rn 20 20 ls st σ Q = acR 20 (o_go 24 ls st σ) ls σ Q := rn_row rfl ls st σ Q
theorem r_20_23 (ls : a_LS) (st : List Value) (σ : a_HP) (Q : Option Value → a_HP → Prop) : Rn 20 23 ls st σ Q = acR 20 (o_pi (nI 1) 24 ls st σ) ls σ Q := rn_row rfl ls st σ Q
theorem r_20_24 (ls : a_LS) (st : List Value) (σ : a_HP) (Q : Option Value → a_HP → Prop) : Rn 20 24 ls st σ Q = acR 20 (o_bi f_add 25 ls st σ) ls σ Q := rn_row rfl ls st σ Q
theorem r_20_25 (ls : a_LS) (st : List Value) (σ : a_HP) (Q : Option Value → a_HP → Prop) : Rn 20 25 ls st σ Q = acR 20 (o_sti 1 26 ls st σ) ls σ Q := rn_row rfl ls st σ Q
theorem r_20_26 (ls : a_LS) (st : List Value) (σ : a_HP) (Q : Option Value → a_HP → Prop) : Rn 20 26 ls st σ Q = acR 20 (o_inc 2 (nI 1) 29 ls st σ) ls σ Q := rn_row rfl ls st σ Q
theorem r_20_29 (ls : a_LS) (st : List Value) (σ : a_HP) (Q : Option Value → a_HP → Prop) : Rn 20 29 ls st σ Q = acR 20 (o_go 4 ls st σ) ls σ Q := rn_row rfl ls st σ Q
theorem r_20_32 (ls : a_LS) (st : List Value) (σ : a_HP) (Q : Option Value → a_HP → Prop) : Rn 20 32 ls st σ Q = acR 20 (o_ldi 1 33 ls st σ) ls σ Q := rn_row rfl ls st σ Q
theorem r_20_33 (ls : a_LS) (st : List Value) (σ : a_HP) (Q : Option Value → a_HP → Prop) : Rn 20 33 ls st σ Q = acR 20 (o_ri ls st σ) ls σ Q := rn_row rfl ls st σ Q
/-! 21: NetLaw$Net.strengthRightOf(I)I -/
theorem cl_21 (x0 : Nat) (x1 : Int32) (σ : a_HP) (Q : Option Value → a_HP → Prop) : Cl 21 [.ref x0, .int x1] σ Q = Rn 21 0 [some (.ref x0), some (.int x1)] [] σ Q := cl_of (Nat.le_of_ble_eq_true rfl) rfl σ Q
theorem r_21_0 (ls : a_LS) (st : List Value) (σ : a_HP) (Q : Option Value → a_HP → Prop) : Rn 21 0 ls st σ Q = acR 21 (o_ldi 1 1 ls st σ) ls σ Q := rn_row rfl ls st σ Q
theorem r_21_1 (ls : a_LS) (st : List Value) (σ : a_HP) (Q : Option Value → a_HP → Prop) : Rn 21 1 ls st σ Q = acR 21 (o_pi (nI 4) 2 ls st σ) ls σ Q := rn_row rfl ls st σ Q
theorem r_21_2 (ls : a_LS) (st : List Value) (σ : a_HP) (Q : Option Value → a_HP → Prop) : Rn 21 2 ls st σ Q = acR 21 (o_bd f_rem 3 ls st σ) ls σ Q := rn_row rfl ls st σ Q
theorem r_21_3 (ls : a_LS) (st : List Value) (σ : a_HP) (Q : Option Value → a_HP → Prop) : Rn 21 3 ls st σ Q = acR 21 (o_pi (nI 3) 4 ls st σ) ls σ Q := rn_row rfl ls st σ Q
theorem r_21_4 (ls : a_LS) (st : List Value) (σ : a_HP) (Q : Option Value → a_HP → Prop) : Rn 21 4 ls st σ Q = acR 21 (o_cge 18 7 ls st σ) ls σ Q := rn_row rfl ls st σ Q
theorem r_21_7 (ls : a_LS) (st : List Value) (σ : a_HP) (Q : Option Value → a_HP → Prop) : Rn 21 7 ls st σ Q = acR 21 (o_lda 0 8 ls st σ) ls σ Q := rn_row rfl ls st σ Q
theorem r_21_8 (ls : a_LS) (st : List Value) (σ : a_HP) (Q : Option Value → a_HP → Prop) : Rn 21 8 ls st σ Q = acR 21 (o_get 3 5 11 ls st σ) ls σ Q := rn_row rfl ls st σ Q
theorem r_21_11 (ls : a_LS) (st : List Value) (σ : a_HP) (Q : Option Value → a_HP → Prop) : Rn 21 11 ls st σ Q = acR 21 (o_ldi 1 12 ls st σ) ls σ Q := rn_row rfl ls st σ Q
theorem r_21_12 (ls : a_LS) (st : List Value) (σ : a_HP) (Q : Option Value → a_HP → Prop) : Rn 21 12 ls st σ Q = acR 21 (o_pi (nI 1) 13 ls st σ) ls σ Q := rn_row rfl ls st σ Q
theorem r_21_13 (ls : a_LS) (st : List Value) (σ : a_HP) (Q : Option Value → a_HP → Prop) : Rn 21 13 ls st σ Q = acR 21 (o_bi f_add 14 ls st σ) ls σ Q := rn_row rfl ls st σ Q
theorem r_21_14 (ls : a_LS) (st : List Value) (σ : a_HP) (Q : Option Value → a_HP → Prop) : Rn 21 14 ls st σ Q = acR 21 (o_ial 15 ls st σ) ls σ Q := rn_row rfl ls st σ Q
theorem r_21_15 (ls : a_LS) (st : List Value) (σ : a_HP) (Q : Option Value → a_HP → Prop) : Rn 21 15 ls st σ Q = acR 21 (o_go 19 ls st σ) ls σ Q := rn_row rfl ls st σ Q
theorem r_21_18 (ls : a_LS) (st : List Value) (σ : a_HP) (Q : Option Value → a_HP → Prop) : Rn 21 18 ls st σ Q = acR 21 (o_pi (nI 0) 19 ls st σ) ls σ Q := rn_row rfl ls st σ Q
theorem r_21_19 (ls : a_LS) (st : List Value) (σ : a_HP) (Q : Option Value → a_HP → Prop) : Rn 21 19 ls st σ Q = acR 21 (o_ri ls st σ) ls σ Q := rn_row rfl ls st σ Q
/-! 22: NetLaw$Net.knotHolds(I)I -/
theorem cl_22 (x0 : Nat) (x1 : Int32) (σ : a_HP) (Q : Option Value → a_HP → Prop) : Cl 22 [.ref x0, .int x1] σ Q = Rn 22 0 [some (.ref x0), some (.int x1)] [] σ Q := cl_of (Nat.le_of_ble_eq_true rfl) rfl σ Q
theorem r_22_0 (ls : a_LS) (st : List Value) (σ : a_HP) (Q : Option Value → a_HP → Prop) : Rn 22 0 ls st σ Q = acR 22 (o_lda 0 1 ls st σ) ls σ Q := rn_row rfl ls st σ Q
theorem r_22_1 (ls : a_LS) (st : List Value) (σ : a_HP) (Q : Option Value → a_HP → Prop) : Rn 22 1 ls st σ Q = acR 22 (o_get 3 4 4 ls st σ) ls σ Q := rn_row rfl ls st σ Q
theorem r_22_4 (ls : a_LS) (st : List Value) (σ : a_HP) (Q : Option Value → a_HP → Prop) : Rn 22 4 ls st σ Q = acR 22 (o_ldi 1 5 ls st σ) ls σ Q := rn_row rfl ls st σ Q
theorem r_22_5 (ls : a_LS) (st : List Value) (σ : a_HP) (Q : Option Value → a_HP → Prop) : Rn 22 5 ls st σ Q = acR 22 (o_ial 6 ls st σ) ls σ Q := rn_row rfl ls st σ Q
theorem r_22_6 (ls : a_LS) (st : List Value) (σ : a_HP) (Q : Option Value → a_HP → Prop) : Rn 22 6 ls st σ Q = acR 22 (o_lda 0 7 ls st σ) ls σ Q := rn_row rfl ls st σ Q
theorem r_22_7 (ls : a_LS) (st : List Value) (σ : a_HP) (Q : Option Value → a_HP → Prop) : Rn 22 7 ls st σ Q = acR 22 (o_get 3 5 10 ls st σ) ls σ Q := rn_row rfl ls st σ Q
theorem r_22_10 (ls : a_LS) (st : List Value) (σ : a_HP) (Q : Option Value → a_HP → Prop) : Rn 22 10 ls st σ Q = acR 22 (o_ldi 1 11 ls st σ) ls σ Q := rn_row rfl ls st σ Q
theorem r_22_11 (ls : a_LS) (st : List Value) (σ : a_HP) (Q : Option Value → a_HP → Prop) : Rn 22 11 ls st σ Q = acR 22 (o_ial 12 ls st σ) ls σ Q := rn_row rfl ls st σ Q
theorem r_22_12 (ls : a_LS) (st : List Value) (σ : a_HP) (Q : Option Value → a_HP → Prop) : Rn 22 12 ls st σ Q = acR 22 (o_lda 0 13 ls st σ) ls σ Q := rn_row rfl ls st σ Q
theorem r_22_13 (ls : a_LS) (st : List Value) (σ : a_HP) (Q : Option Value → a_HP → Prop) : Rn 22 13 ls st σ Q = acR 22 (o_get 3 0 16 ls st σ) ls σ Q := rn_row rfl ls st σ Q
theorem r_22_16 (ls : a_LS) (st : List Value) (σ : a_HP) (Q : Option Value → a_HP → Prop) : Rn 22 16 ls st σ Q = acR 22 (o_lda 0 17 ls st σ) ls σ Q := rn_row rfl ls st σ Q
theorem r_22_17 (ls : a_LS) (st : List Value) (σ : a_HP) (Q : Option Value → a_HP → Prop) : Rn 22 17 ls st σ Q = acR 22 (o_ldi 1 18 ls st σ) ls σ Q := rn_row rfl ls st σ Q
theorem r_22_18 (ls : a_LS) (st : List Value) (σ : a_HP) (Q : Option Value → a_HP → Prop) : Rn 22 18 ls st σ Q = acR 22 (o_ivv 3 21 1 21 ls st σ) ls σ Q := rn_row rfl ls st σ Q
theorem r_22_21 (ls : a_LS) (st : List Value) (σ : a_HP) (Q : Option Value → a_HP → Prop) : Rn 22 21 ls st σ Q = acR 22 (o_ivs 120 4 24 ls st σ) ls σ Q := rn_row rfl ls st σ Q
theorem r_22_24 (ls : a_LS) (st : List Value) (σ : a_HP) (Q : Option Value → a_HP → Prop) : Rn 22 24 ls st σ Q = acR 22 (o_ri ls st σ) ls σ Q := rn_row rfl ls st σ Q
/-! 23: NetLaw$Net.knotRots(I)I -/
theorem cl_23 (x0 : Nat) (x1 : Int32) (σ : a_HP) (Q : Option Value → a_HP → Prop) : Cl 23 [.ref x0, .int x1] σ Q = Rn 23 0 [some (.ref x0), some (.int x1)] [] σ Q := cl_of (Nat.le_of_ble_eq_true rfl) rfl σ Q
theorem r_23_0 (ls : a_LS) (st : List Value) (σ : a_HP) (Q : Option Value → a_HP → Prop) : Rn 23 0 ls st σ Q = acR 23 (o_lda 0 1 ls st σ) ls σ Q := rn_row rfl ls st σ Q
theorem r_23_1 (ls : a_LS) (st : List Value) (σ : a_HP) (Q : Option Value → a_HP → Prop) : Rn 23 1 ls st σ Q = acR 23 (o_ldi 1 2 ls st σ) ls σ Q := rn_row rfl ls st σ Q
theorem r_23_2 (ls : a_LS) (st : List Value) (σ : a_HP) (Q : Option Value → a_HP → Prop) : Rn 23 2 ls st σ Q = acR 23 (o_ivv 3 19 1 5 ls st σ) ls σ Q := rn_row rfl ls st σ Q
theorem r_23_5 (ls : a_LS) (st : List Value) (σ : a_HP) (Q : Option Value → a_HP → Prop) : Rn 23 5 ls st σ Q = acR 23 (o_eq 12 8 ls st σ) ls σ Q := rn_row rfl ls st σ Q
theorem r_23_8 (ls : a_LS) (st : List Value) (σ : a_HP) (Q : Option Value → a_HP → Prop) : Rn 23 8 ls st σ Q = acR 23 (o_pi (nI 0) 9 ls st σ) ls σ Q := rn_row rfl ls st σ Q
theorem r_23_9 (ls : a_LS) (st : List Value) (σ : a_HP) (Q : Option Value → a_HP → Prop) : Rn 23 9 ls st σ Q = acR 23 (o_go 25 ls st σ) ls σ Q := rn_row rfl ls st σ Q
theorem r_23_12 (ls : a_LS) (st : List Value) (σ : a_HP) (Q : Option Value → a_HP → Prop) : Rn 23 12 ls st σ Q = acR 23 (o_lda 0 13 ls st σ) ls σ Q := rn_row rfl ls st σ Q
theorem r_23_13 (ls : a_LS) (st : List Value) (σ : a_HP) (Q : Option Value → a_HP → Prop) : Rn 23 13 ls st σ Q = acR 23 (o_get 3 4 16 ls st σ) ls σ Q := rn_row rfl ls st σ Q
theorem r_23_16 (ls : a_LS) (st : List Value) (σ : a_HP) (Q : Option Value → a_HP → Prop) : Rn 23 16 ls st σ Q = acR 23 (o_ldi 1 17 ls st σ) ls σ Q := rn_row rfl ls st σ Q
theorem r_23_17 (ls : a_LS) (st : List Value) (σ : a_HP) (Q : Option Value → a_HP → Prop) : Rn 23 17 ls st σ Q = acR 23 (o_ial 18 ls st σ) ls σ Q := rn_row rfl ls st σ Q
theorem r_23_18 (ls : a_LS) (st : List Value) (σ : a_HP) (Q : Option Value → a_HP → Prop) : Rn 23 18 ls st σ Q = acR 23 (o_lda 0 19 ls st σ) ls σ Q := rn_row rfl ls st σ Q
theorem r_23_19 (ls : a_LS) (st : List Value) (σ : a_HP) (Q : Option Value → a_HP → Prop) : Rn 23 19 ls st σ Q = acR 23 (o_get 3 3 22 ls st σ) ls σ Q := rn_row rfl ls st σ Q
theorem r_23_22 (ls : a_LS) (st : List Value) (σ : a_HP) (Q : Option Value → a_HP → Prop) : Rn 23 22 ls st σ Q = acR 23 (o_ivs 121 2 25 ls st σ) ls σ Q := rn_row rfl ls st σ Q
theorem r_23_25 (ls : a_LS) (st : List Value) (σ : a_HP) (Q : Option Value → a_HP → Prop) : Rn 23 25 ls st σ Q = acR 23 (o_ri ls st σ) ls σ Q := rn_row rfl ls st σ Q
/-! 24: NetLaw$Net.clauseHolds(I)I -/
theorem cl_24 (x0 : Nat) (x1 : Int32) (σ : a_HP) (Q : Option Value → a_HP → Prop) : Cl 24 [.ref x0, .int x1] σ Q = Rn 24 0 [some (.ref x0), some (.int x1), none, none] [] σ Q := cl_of (Nat.le_of_ble_eq_true rfl) rfl σ Q
theorem r_24_0 (ls : a_LS) (st : List Value) (σ : a_HP) (Q : Option Value → a_HP → Prop) : Rn 24 0 ls st σ Q = acR 24 (o_pi (nI 0) 1 ls st σ) ls σ Q := rn_row rfl ls st σ Q
theorem r_24_1 (ls : a_LS) (st : List Value) (σ : a_HP) (Q : Option Value → a_HP → Prop) : Rn 24 1 ls st σ Q = acR 24 (o_sti 2 2 ls st σ) ls σ Q := rn_row rfl ls st σ Q
theorem r_24_2 (ls : a_LS) (st : List Value) (σ : a_HP) (Q : Option Value → a_HP → Prop) : Rn 24 2 ls st σ Q = acR 24 (o_pi (nI 0) 3 ls st σ) ls σ Q := rn_row rfl ls st σ Q
theorem r_24_3 (ls : a_LS) (st : List Value) (σ : a_HP) (Q : Option Value → a_HP → Prop) : Rn 24 3 ls st σ Q = acR 24 (o_sti 3 4 ls st σ) ls σ Q := rn_row rfl ls st σ Q
theorem r_24_4 (ls : a_LS) (st : List Value) (σ : a_HP) (Q : Option Value → a_HP → Prop) : Rn 24 4 ls st σ Q = acR 24 (o_ldi 3 5 ls st σ) ls σ Q := rn_row rfl ls st σ Q
theorem r_24_5 (ls : a_LS) (st : List Value) (σ : a_HP) (Q : Option Value → a_HP → Prop) : Rn 24 5 ls st σ Q = acR 24 (o_pi (nI 4) 6 ls st σ) ls σ Q := rn_row rfl ls st σ Q
theorem r_24_6 (ls : a_LS) (st : List Value) (σ : a_HP) (Q : Option Value → a_HP → Prop) : Rn 24 6 ls st σ Q = acR 24 (o_cge 27 9 ls st σ) ls σ Q := rn_row rfl ls st σ Q
theorem r_24_9 (ls : a_LS) (st : List Value) (σ : a_HP) (Q : Option Value → a_HP → Prop) : Rn 24 9 ls st σ Q = acR 24 (o_ldi 2 10 ls st σ) ls σ Q := rn_row rfl ls st σ Q
theorem r_24_10 (ls : a_LS) (st : List Value) (σ : a_HP) (Q : Option Value → a_HP → Prop) : Rn 24 10 ls st σ Q = acR 24 (o_lda 0 11 ls st σ) ls σ Q := rn_row rfl ls st σ Q
theorem r_24_11 (ls : a_LS) (st : List Value) (σ : a_HP) (Q : Option Value → a_HP → Prop) : Rn 24 11 ls st σ Q = acR 24 (o_ldi 1 12 ls st σ) ls σ Q := rn_row rfl ls st σ Q
theorem r_24_12 (ls : a_LS) (st : List Value) (σ : a_HP) (Q : Option Value → a_HP → Prop) : Rn 24 12 ls st σ Q = acR 24 (o_ldi 3 13 ls st σ) ls σ Q := rn_row rfl ls st σ Q
theorem r_24_13 (ls : a_LS) (st : List Value) (σ : a_HP) (Q : Option Value → a_HP → Prop) : Rn 24 13 ls st σ Q = acR 24 (o_ivs 103 2 16 ls st σ) ls σ Q := rn_row rfl ls st σ Q
theorem r_24_16 (ls : a_LS) (st : List Value) (σ : a_HP) (Q : Option Value → a_HP → Prop) : Rn 24 16 ls st σ Q = acR 24 (o_ivv 3 22 1 19 ls st σ) ls σ Q := rn_row rfl ls st σ Q
theorem r_24_19 (ls : a_LS) (st : List Value) (σ : a_HP) (Q : Option Value → a_HP → Prop) : Rn 24 19 ls st σ Q = acR 24 (o_bi f_add 20 ls st σ) ls σ Q := rn_row rfl ls st σ Q
theorem r_24_20 (ls : a_LS) (st : List Value) (σ : a_HP) (Q : Option Value → a_HP → Prop) : Rn 24 20 ls st σ Q = acR 24 (o_sti 2 21 ls st σ) ls σ Q := rn_row rfl ls st σ Q
theorem r_24_21 (ls : a_LS) (st : List Value) (σ : a_HP) (Q : Option Value → a_HP → Prop) : Rn 24 21 ls st σ Q = acR 24 (o_inc 3 (nI 1) 24 ls st σ) ls σ Q := rn_row rfl ls st σ Q
theorem r_24_24 (ls : a_LS) (st : List Value) (σ : a_HP) (Q : Option Value → a_HP → Prop) : Rn 24 24 ls st σ Q = acR 24 (o_go 4 ls st σ) ls σ Q := rn_row rfl ls st σ Q
theorem r_24_27 (ls : a_LS) (st : List Value) (σ : a_HP) (Q : Option Value → a_HP → Prop) : Rn 24 27 ls st σ Q = acR 24 (o_ldi 2 28 ls st σ) ls σ Q := rn_row rfl ls st σ Q
theorem r_24_28 (ls : a_LS) (st : List Value) (σ : a_HP) (Q : Option Value → a_HP → Prop) : Rn 24 28 ls st σ Q = acR 24 (o_ri ls st σ) ls σ Q := rn_row rfl ls st σ Q
/-! 25: NetLaw$Net.isLaw(I)Z -/
theorem cl_25 (x0 : Nat) (x1 : Int32) (σ : a_HP) (Q : Option Value → a_HP → Prop) : Cl 25 [.ref x0, .int x1] σ Q = Rn 25 0 [some (.ref x0), some (.int x1)] [] σ Q := cl_of (Nat.le_of_ble_eq_true rfl) rfl σ Q
theorem r_25_0 (ls : a_LS) (st : List Value) (σ : a_HP) (Q : Option Value → a_HP → Prop) : Rn 25 0 ls st σ Q = acR 25 (o_lda 0 1 ls st σ) ls σ Q := rn_row rfl ls st σ Q
theorem r_25_1 (ls : a_LS) (st : List Value) (σ : a_HP) (Q : Option Value → a_HP → Prop) : Rn 25 1 ls st σ Q = acR 25 (o_ldi 1 2 ls st σ) ls σ Q := rn_row rfl ls st σ Q
theorem r_25_2 (ls : a_LS) (st : List Value) (σ : a_HP) (Q : Option Value → a_HP → Prop) : Rn 25 2 ls st σ Q = acR 25 (o_ivv 3 24 1 5 ls st σ) ls σ Q := rn_row rfl ls st σ Q
theorem r_25_5 (ls : a_LS) (st : List Value) (σ : a_HP) (Q : Option Value → a_HP → Prop) : Rn 25 5 ls st σ Q = acR 25 (o_lda 0 6 ls st σ) ls σ Q := rn_row rfl ls st σ Q
theorem r_25_6 (ls : a_LS) (st : List Value) (σ : a_HP) (Q : Option Value → a_HP → Prop) : Rn 25 6 ls st σ Q = acR 25 (o_get 3 7 9 ls st σ) ls σ Q := rn_row rfl ls st σ Q
theorem r_25_9 (ls : a_LS) (st : List Value) (σ : a_HP) (Q : Option Value → a_HP → Prop) : Rn 25 9 ls st σ Q = acR 25 (o_ldi 1 10 ls st σ) ls σ Q := rn_row rfl ls st σ Q
theorem r_25_10 (ls : a_LS) (st : List Value) (σ : a_HP) (Q : Option Value → a_HP → Prop) : Rn 25 10 ls st σ Q = acR 25 (o_ial 11 ls st σ) ls σ Q := rn_row rfl ls st σ Q
theorem r_25_11 (ls : a_LS) (st : List Value) (σ : a_HP) (Q : Option Value → a_HP → Prop) : Rn 25 11 ls st σ Q = acR 25 (o_clt 18 14 ls st σ) ls σ Q := rn_row rfl ls st σ Q
theorem r_25_14 (ls : a_LS) (st : List Value) (σ : a_HP) (Q : Option Value → a_HP → Prop) : Rn 25 14 ls st σ Q = acR 25 (o_pi (nI 1) 15 ls st σ) ls σ Q := rn_row rfl ls st σ Q
theorem r_25_15 (ls : a_LS) (st : List Value) (σ : a_HP) (Q : Option Value → a_HP → Prop) : Rn 25 15 ls st σ Q = acR 25 (o_go 19 ls st σ) ls σ Q := rn_row rfl ls st σ Q
theorem r_25_18 (ls : a_LS) (st : List Value) (σ : a_HP) (Q : Option Value → a_HP → Prop) : Rn 25 18 ls st σ Q = acR 25 (o_pi (nI 0) 19 ls st σ) ls σ Q := rn_row rfl ls st σ Q
theorem r_25_19 (ls : a_LS) (st : List Value) (σ : a_HP) (Q : Option Value → a_HP → Prop) : Rn 25 19 ls st σ Q = acR 25 (o_rz ls st σ) ls σ Q := rn_row rfl ls st σ Q
/-! 26: NetLaw$Net.lawBits()I -/
theorem cl_26 (x0 : Nat) (σ : a_HP) (Q : Option Value → a_HP → Prop) : Cl 26 [.ref x0] σ Q = Rn 26 0 [some (.ref x0), none, none] [] σ Q := cl_of (Nat.le_of_ble_eq_true rfl) rfl σ Q
theorem r_26_0 (ls : a_LS) (st : List Value) (σ : a_HP) (Q : Option Value → a_HP → Prop) : Rn 26 0 ls st σ Q = acR 26 (o_pi (nI 0) 1 ls st σ) ls σ Q := rn_row rfl ls st σ Q
theorem r_26_1 (ls : a_LS) (st : List Value) (σ : a_HP) (Q : Option Value → a_HP → Prop) : Rn 26 1 ls st σ Q = acR 26 (o_sti 1 2 ls st σ) ls σ Q := rn_row rfl ls st σ Q
theorem r_26_2 (ls : a_LS) (st : List Value) (σ : a_HP) (Q : Option Value → a_HP → Prop) : Rn 26 2 ls st σ Q = acR 26 (o_pi (nI 0) 3 ls st σ) ls σ Q := rn_row rfl ls st σ Q
theorem r_26_3 (ls : a_LS) (st : List Value) (σ : a_HP) (Q : Option Value → a_HP → Prop) : Rn 26 3 ls st σ Q = acR 26 (o_sti 2 4 ls st σ) ls σ Q := rn_row rfl ls st σ Q
theorem r_26_4 (ls : a_LS) (st : List Value) (σ : a_HP) (Q : Option Value → a_HP → Prop) : Rn 26 4 ls st σ Q = acR 26 (o_ldi 2 5 ls st σ) ls σ Q := rn_row rfl ls st σ Q
theorem r_26_5 (ls : a_LS) (st : List Value) (σ : a_HP) (Q : Option Value → a_HP → Prop) : Rn 26 5 ls st σ Q = acR 26 (o_pi (nI 9) 7 ls st σ) ls σ Q := rn_row rfl ls st σ Q
theorem r_26_7 (ls : a_LS) (st : List Value) (σ : a_HP) (Q : Option Value → a_HP → Prop) : Rn 26 7 ls st σ Q = acR 26 (o_cge 30 10 ls st σ) ls σ Q := rn_row rfl ls st σ Q
theorem r_26_10 (ls : a_LS) (st : List Value) (σ : a_HP) (Q : Option Value → a_HP → Prop) : Rn 26 10 ls st σ Q = acR 26 (o_lda 0 11 ls st σ) ls σ Q := rn_row rfl ls st σ Q
theorem r_26_11 (ls : a_LS) (st : List Value) (σ : a_HP) (Q : Option Value → a_HP → Prop) : Rn 26 11 ls st σ Q = acR 26 (o_ldi 2 12 ls st σ) ls σ Q := rn_row rfl ls st σ Q
theorem r_26_12 (ls : a_LS) (st : List Value) (σ : a_HP) (Q : Option Value → a_HP → Prop) : Rn 26 12 ls st σ Q = acR 26 (o_ivv 3 25 1 15 ls st σ) ls σ Q := rn_row rfl ls st σ Q
theorem r_26_15 (ls : a_LS) (st : List Value) (σ : a_HP) (Q : Option Value → a_HP → Prop) : Rn 26 15 ls st σ Q = acR 26 (o_eq 24 18 ls st σ) ls σ Q := rn_row rfl ls st σ Q
theorem r_26_18 (ls : a_LS) (st : List Value) (σ : a_HP) (Q : Option Value → a_HP → Prop) : Rn 26 18 ls st σ Q = acR 26 (o_ldi 1 19 ls st σ) ls σ Q := rn_row rfl ls st σ Q
theorem r_26_19 (ls : a_LS) (st : List Value) (σ : a_HP) (Q : Option Value → a_HP → Prop) : Rn 26 19 ls st σ Q = acR 26 (o_pi (nI 1) 20 ls st σ) ls σ Q := rn_row rfl ls st σ Q
theorem r_26_20 (ls : a_LS) (st : List Value) (σ : a_HP) (Q : Option Value → a_HP → Prop) : Rn 26 20 ls st σ Q = acR 26 (o_ldi 2 21 ls st σ) ls σ Q := rn_row rfl ls st σ Q
theorem r_26_21 (ls : a_LS) (st : List Value) (σ : a_HP) (Q : Option Value → a_HP → Prop) : Rn 26 21 ls st σ Q = acR 26 (o_bi f_shl 22 ls st σ) ls σ Q := rn_row rfl ls st σ Q
theorem r_26_22 (ls : a_LS) (st : List Value) (σ : a_HP) (Q : Option Value → a_HP → Prop) : Rn 26 22 ls st σ Q = acR 26 (o_bi f_or 23 ls st σ) ls σ Q := rn_row rfl ls st σ Q
theorem r_26_23 (ls : a_LS) (st : List Value) (σ : a_HP) (Q : Option Value → a_HP → Prop) : Rn 26 23 ls st σ Q = acR 26 (o_sti 1 24 ls st σ) ls σ Q := rn_row rfl ls st σ Q
theorem r_26_24 (ls : a_LS) (st : List Value) (σ : a_HP) (Q : Option Value → a_HP → Prop) : Rn 26 24 ls st σ Q = acR 26 (o_inc 2 (nI 1) 27 ls st σ) ls σ Q := rn_row rfl ls st σ Q
theorem r_26_27 (ls : a_LS) (st : List Value) (σ : a_HP) (Q : Option Value → a_HP → Prop) : Rn 26 27 ls st σ Q = acR 26 (o_go 4 ls st σ) ls σ Q := rn_row rfl ls st σ Q
theorem r_26_30 (ls : a_LS) (st : List Value) (σ : a_HP) (Q : Option Value → a_HP → Prop) : Rn 26 30 ls st σ Q = acR 26 (o_ldi 1 31 ls st σ) ls σ Q := rn_row rfl ls st σ Q
theorem r_26_31 (ls : a_LS) (st : List Value) (σ : a_HP) (Q : Option Value → a_HP → Prop) : Rn 26 31 ls st σ Q = acR 26 (o_ri ls st σ) ls σ Q := rn_row rfl ls st σ Q
/-! 27: NetLaw$Net.passNight()I -/
theorem cl_27 (x0 : Nat) (σ : a_HP) (Q : Option Value → a_HP → Prop) : Cl 27 [.ref x0] σ Q = Rn 27 0 [some (.ref x0), none, none] [] σ Q := cl_of (Nat.le_of_ble_eq_true rfl) rfl σ Q
theorem r_27_0 (ls : a_LS) (st : List Value) (σ : a_HP) (Q : Option Value → a_HP → Prop) : Rn 27 0 ls st σ Q = acR 27 (o_pi (nI 0) 1 ls st σ) ls σ Q := rn_row rfl ls st σ Q
theorem r_27_1 (ls : a_LS) (st : List Value) (σ : a_HP) (Q : Option Value → a_HP → Prop) : Rn 27 1 ls st σ Q = acR 27 (o_sti 1 2 ls st σ) ls σ Q := rn_row rfl ls st σ Q
theorem r_27_2 (ls : a_LS) (st : List Value) (σ : a_HP) (Q : Option Value → a_HP → Prop) : Rn 27 2 ls st σ Q = acR 27 (o_pi (nI 0) 3 ls st σ) ls σ Q := rn_row rfl ls st σ Q
theorem r_27_3 (ls : a_LS) (st : List Value) (σ : a_HP) (Q : Option Value → a_HP → Prop) : Rn 27 3 ls st σ Q = acR 27 (o_sti 2 4 ls st σ) ls σ Q := rn_row rfl ls st σ Q
theorem r_27_4 (ls : a_LS) (st : List Value) (σ : a_HP) (Q : Option Value → a_HP → Prop) : Rn 27 4 ls st σ Q = acR 27 (o_ldi 2 5 ls st σ) ls σ Q := rn_row rfl ls st σ Q
theorem r_27_5 (ls : a_LS) (st : List Value) (σ : a_HP) (Q : Option Value → a_HP → Prop) : Rn 27 5 ls st σ Q = acR 27 (o_pi (nI 16) 7 ls st σ) ls σ Q := rn_row rfl ls st σ Q
theorem r_27_7 (ls : a_LS) (st : List Value) (σ : a_HP) (Q : Option Value → a_HP → Prop) : Rn 27 7 ls st σ Q = acR 27 (o_cge 76 10 ls st σ) ls σ Q := rn_row rfl ls st σ Q
theorem r_27_10 (ls : a_LS) (st : List Value) (σ : a_HP) (Q : Option Value → a_HP → Prop) : Rn 27 10 ls st σ Q = acR 27 (o_lda 0 11 ls st σ) ls σ Q := rn_row rfl ls st σ Q
theorem r_27_11 (ls : a_LS) (st : List Value) (σ : a_HP) (Q : Option Value → a_HP → Prop) : Rn 27 11 ls st σ Q = acR 27 (o_get 3 2 14 ls st σ) ls σ Q := rn_row rfl ls st σ Q
theorem r_27_14 (ls : a_LS) (st : List Value) (σ : a_HP) (Q : Option Value → a_HP → Prop) : Rn 27 14 ls st σ Q = acR 27 (o_ldi 2 15 ls st σ) ls σ Q := rn_row rfl ls st σ Q
theorem r_27_15 (ls : a_LS) (st : List Value) (σ : a_HP) (Q : Option Value → a_HP → Prop) : Rn 27 15 ls st σ Q = acR 27 (o_bi f_shr 16 ls st σ) ls σ Q := rn_row rfl ls st σ Q
theorem r_27_16 (ls : a_LS) (st : List Value) (σ : a_HP) (Q : Option Value → a_HP → Prop) : Rn 27 16 ls st σ Q = acR 27 (o_pi (nI 1) 17 ls st σ) ls σ Q := rn_row rfl ls st σ Q
theorem r_27_17 (ls : a_LS) (st : List Value) (σ : a_HP) (Q : Option Value → a_HP → Prop) : Rn 27 17 ls st σ Q = acR 27 (o_bi f_and 18 ls st σ) ls σ Q := rn_row rfl ls st σ Q
theorem r_27_18 (ls : a_LS) (st : List Value) (σ : a_HP) (Q : Option Value → a_HP → Prop) : Rn 27 18 ls st σ Q = acR 27 (o_eq 70 21 ls st σ) ls σ Q := rn_row rfl ls st σ Q
theorem r_27_21 (ls : a_LS) (st : List Value) (σ : a_HP) (Q : Option Value → a_HP → Prop) : Rn 27 21 ls st σ Q = acR 27 (o_lda 0 22 ls st σ) ls σ Q := rn_row rfl ls st σ Q
theorem r_27_22 (ls : a_LS) (st : List Value) (σ : a_HP) (Q : Option Value → a_HP → Prop) : Rn 27 22 ls st σ Q = acR 27 (o_ldi 2 23 ls st σ) ls σ Q := rn_row rfl ls st σ Q
theorem r_27_23 (ls : a_LS) (st : List Value) (σ : a_HP) (Q : Option Value → a_HP → Prop) : Rn 27 23 ls st σ Q = acR 27 (o_ivv 3 19 1 26 ls st σ) ls σ Q := rn_row rfl ls st σ Q
theorem r_27_26 (ls : a_LS) (st : List Value) (σ : a_HP) (Q : Option Value → a_HP → Prop) : Rn 27 26 ls st σ Q = acR 27 (o_eq 32 29 ls st σ) ls σ Q := rn_row rfl ls st σ Q
theorem r_27_29 (ls : a_LS) (st : List Value) (σ : a_HP) (Q : Option Value → a_HP → Prop) : Rn 27 29 ls st σ Q = acR 27 (o_go 70 ls st σ) ls σ Q := rn_row rfl ls st σ Q
theorem r_27_32 (ls : a_LS) (st : List Value) (σ : a_HP) (Q : Option Value → a_HP → Prop) : Rn 27 32 ls st σ Q = acR 27 (o_lda 0 33 ls st σ) ls σ Q := rn_row rfl ls st σ Q
theorem r_27_33 (ls : a_LS) (st : List Value) (σ : a_HP) (Q : Option Value → a_HP → Prop) : Rn 27 33 ls st σ Q = acR 27 (o_get 3 5 36 ls st σ) ls σ Q := rn_row rfl ls st σ Q
theorem r_27_36 (ls : a_LS) (st : List Value) (σ : a_HP) (Q : Option Value → a_HP → Prop) : Rn 27 36 ls st σ Q = acR 27 (o_ldi 2 37 ls st σ) ls σ Q := rn_row rfl ls st σ Q
theorem r_27_37 (ls : a_LS) (st : List Value) (σ : a_HP) (Q : Option Value → a_HP → Prop) : Rn 27 37 ls st σ Q = acR 27 (o_pi (nI 0) 38 ls st σ) ls σ Q := rn_row rfl ls st σ Q
theorem r_27_38 (ls : a_LS) (st : List Value) (σ : a_HP) (Q : Option Value → a_HP → Prop) : Rn 27 38 ls st σ Q = acR 27 (o_lda 0 39 ls st σ) ls σ Q := rn_row rfl ls st σ Q
theorem r_27_39 (ls : a_LS) (st : List Value) (σ : a_HP) (Q : Option Value → a_HP → Prop) : Rn 27 39 ls st σ Q = acR 27 (o_get 3 5 42 ls st σ) ls σ Q := rn_row rfl ls st σ Q
theorem r_27_42 (ls : a_LS) (st : List Value) (σ : a_HP) (Q : Option Value → a_HP → Prop) : Rn 27 42 ls st σ Q = acR 27 (o_ldi 2 43 ls st σ) ls σ Q := rn_row rfl ls st σ Q
theorem r_27_43 (ls : a_LS) (st : List Value) (σ : a_HP) (Q : Option Value → a_HP → Prop) : Rn 27 43 ls st σ Q = acR 27 (o_ial 44 ls st σ) ls σ Q := rn_row rfl ls st σ Q
theorem r_27_44 (ls : a_LS) (st : List Value) (σ : a_HP) (Q : Option Value → a_HP → Prop) : Rn 27 44 ls st σ Q = acR 27 (o_lda 0 45 ls st σ) ls σ Q := rn_row rfl ls st σ Q
theorem r_27_45 (ls : a_LS) (st : List Value) (σ : a_HP) (Q : Option Value → a_HP → Prop) : Rn 27 45 ls st σ Q = acR 27 (o_ldi 2 46 ls st σ) ls σ Q := rn_row rfl ls st σ Q
theorem r_27_46 (ls : a_LS) (st : List Value) (σ : a_HP) (Q : Option Value → a_HP → Prop) : Rn 27 46 ls st σ Q = acR 27 (o_ivv 3 23 1 49 ls st σ) ls σ Q := rn_row rfl ls st σ Q
theorem r_27_49 (ls : a_LS) (st : List Value) (σ : a_HP) (Q : Option Value → a_HP → Prop) : Rn 27 49 ls st σ Q = acR 27 (o_bi f_sub 50 ls st σ) ls σ Q := rn_row rfl ls st σ Q
theorem r_27_50 (ls : a_LS) (st : List Value) (σ : a_HP) (Q : Option Value → a_HP → Prop) : Rn 27 50 ls st σ Q = acR 27 (o_ivs 207 2 53 ls st σ) ls σ Q := rn_row rfl ls st σ Q
theorem r_27_53 (ls : a_LS) (st : List Value) (σ : a_HP) (Q : Option Value → a_HP → Prop) : Rn 27 53 ls st σ Q = acR 27 (o_ias 54 ls st σ) ls σ Q := rn_row rfl ls st σ Q
theorem r_27_54 (ls : a_LS) (st : List Value) (σ : a_HP) (Q : Option Value → a_HP → Prop) : Rn 27 54 ls st σ Q = acR 27 (o_ldi 1 55 ls st σ) ls σ Q := rn_row rfl ls st σ Q
theorem r_27_55 (ls : a_LS) (st : List Value) (σ : a_HP) (Q : Option Value → a_HP → Prop) : Rn 27 55 ls st σ Q = acR 27 (o_lda 0 56 ls st σ) ls σ Q := rn_row rfl ls st σ Q
theorem r_27_56 (ls : a_LS) (st : List Value) (σ : a_HP) (Q : Option Value → a_HP → Prop) : Rn 27 56 ls st σ Q = acR 27 (o_ldi 2 57 ls st σ) ls σ Q := rn_row rfl ls st σ Q
theorem r_27_57 (ls : a_LS) (st : List Value) (σ : a_HP) (Q : Option Value → a_HP → Prop) : Rn 27 57 ls st σ Q = acR 27 (o_ivv 3 19 1 60 ls st σ) ls σ Q := rn_row rfl ls st σ Q
theorem r_27_60 (ls : a_LS) (st : List Value) (σ : a_HP) (Q : Option Value → a_HP → Prop) : Rn 27 60 ls st σ Q = acR 27 (o_eq 67 63 ls st σ) ls σ Q := rn_row rfl ls st σ Q
theorem r_27_63 (ls : a_LS) (st : List Value) (σ : a_HP) (Q : Option Value → a_HP → Prop) : Rn 27 63 ls st σ Q = acR 27 (o_pi (nI 1) 64 ls st σ) ls σ Q := rn_row rfl ls st σ Q
theorem r_27_64 (ls : a_LS) (st : List Value) (σ : a_HP) (Q : Option Value → a_HP → Prop) : Rn 27 64 ls st σ Q = acR 27 (o_go 68 ls st σ) ls σ Q := rn_row rfl ls st σ Q
theorem r_27_67 (ls : a_LS) (st : List Value) (σ : a_HP) (Q : Option Value → a_HP → Prop) : Rn 27 67 ls st σ Q = acR 27 (o_pi (nI 0) 68 ls st σ) ls σ Q := rn_row rfl ls st σ Q
theorem r_27_68 (ls : a_LS) (st : List Value) (σ : a_HP) (Q : Option Value → a_HP → Prop) : Rn 27 68 ls st σ Q = acR 27 (o_bi f_add 69 ls st σ) ls σ Q := rn_row rfl ls st σ Q
theorem r_27_69 (ls : a_LS) (st : List Value) (σ : a_HP) (Q : Option Value → a_HP → Prop) : Rn 27 69 ls st σ Q = acR 27 (o_sti 1 70 ls st σ) ls σ Q := rn_row rfl ls st σ Q
theorem r_27_70 (ls : a_LS) (st : List Value) (σ : a_HP) (Q : Option Value → a_HP → Prop) : Rn 27 70 ls st σ Q = acR 27 (o_inc 2 (nI 1) 73 ls st σ) ls σ Q := rn_row rfl ls st σ Q
theorem r_27_73 (ls : a_LS) (st : List Value) (σ : a_HP) (Q : Option Value → a_HP → Prop) : Rn 27 73 ls st σ Q = acR 27 (o_go 4 ls st σ) ls σ Q := rn_row rfl ls st σ Q
theorem r_27_76 (ls : a_LS) (st : List Value) (σ : a_HP) (Q : Option Value → a_HP → Prop) : Rn 27 76 ls st σ Q = acR 27 (o_lda 0 77 ls st σ) ls σ Q := rn_row rfl ls st σ Q
theorem r_27_77 (ls : a_LS) (st : List Value) (σ : a_HP) (Q : Option Value → a_HP → Prop) : Rn 27 77 ls st σ Q = acR 27 (o_dup 78 ls st σ) ls σ Q := rn_row rfl ls st σ Q
theorem r_27_78 (ls : a_LS) (st : List Value) (σ : a_HP) (Q : Option Value → a_HP → Prop) : Rn 27 78 ls st σ Q = acR 27 (o_get 3 3 81 ls st σ) ls σ Q := rn_row rfl ls st σ Q
theorem r_27_81 (ls : a_LS) (st : List Value) (σ : a_HP) (Q : Option Value → a_HP → Prop) : Rn 27 81 ls st σ Q = acR 27 (o_pi (nI 1) 82 ls st σ) ls σ Q := rn_row rfl ls st σ Q
theorem r_27_82 (ls : a_LS) (st : List Value) (σ : a_HP) (Q : Option Value → a_HP → Prop) : Rn 27 82 ls st σ Q = acR 27 (o_bi f_add 83 ls st σ) ls σ Q := rn_row rfl ls st σ Q
theorem r_27_83 (ls : a_LS) (st : List Value) (σ : a_HP) (Q : Option Value → a_HP → Prop) : Rn 27 83 ls st σ Q = acR 27 (o_put 3 3 86 ls st σ) ls σ Q := rn_row rfl ls st σ Q
theorem r_27_86 (ls : a_LS) (st : List Value) (σ : a_HP) (Q : Option Value → a_HP → Prop) : Rn 27 86 ls st σ Q = acR 27 (o_ldi 1 87 ls st σ) ls σ Q := rn_row rfl ls st σ Q
theorem r_27_87 (ls : a_LS) (st : List Value) (σ : a_HP) (Q : Option Value → a_HP → Prop) : Rn 27 87 ls st σ Q = acR 27 (o_ri ls st σ) ls σ Q := rn_row rfl ls st σ Q
/-! 28: NetLaw$Net.digestOn(J)J -/
theorem cl_28 (x0 : Nat) (x1 : Int64) (σ : a_HP) (Q : Option Value → a_HP → Prop) : Cl 28 [.ref x0, .long x1] σ Q = Rn 28 0 [some (.ref x0), some (.long x1), none, none, none, none] [] σ Q := cl_of (Nat.le_of_ble_eq_true rfl) rfl σ Q
theorem r_28_0 (ls : a_LS) (st : List Value) (σ : a_HP) (Q : Option Value → a_HP → Prop) : Rn 28 0 ls st σ Q = acR 28 (o_ldl 1 1 ls st σ) ls σ Q := rn_row rfl ls st σ Q
theorem r_28_1 (ls : a_LS) (st : List Value) (σ : a_HP) (Q : Option Value → a_HP → Prop) : Rn 28 1 ls st σ Q = acR 28 (o_stl 3 2 ls st σ) ls σ Q := rn_row rfl ls st σ Q
theorem r_28_2 (ls : a_LS) (st : List Value) (σ : a_HP) (Q : Option Value → a_HP → Prop) : Rn 28 2 ls st σ Q = acR 28 (o_pi (nI 0) 3 ls st σ) ls σ Q := rn_row rfl ls st σ Q
theorem r_28_3 (ls : a_LS) (st : List Value) (σ : a_HP) (Q : Option Value → a_HP → Prop) : Rn 28 3 ls st σ Q = acR 28 (o_sti 5 5 ls st σ) ls σ Q := rn_row rfl ls st σ Q
theorem r_28_5 (ls : a_LS) (st : List Value) (σ : a_HP) (Q : Option Value → a_HP → Prop) : Rn 28 5 ls st σ Q = acR 28 (o_ldi 5 7 ls st σ) ls σ Q := rn_row rfl ls st σ Q
theorem r_28_7 (ls : a_LS) (st : List Value) (σ : a_HP) (Q : Option Value → a_HP → Prop) : Rn 28 7 ls st σ Q = acR 28 (o_pi (nI 16) 9 ls st σ) ls σ Q := rn_row rfl ls st σ Q
theorem r_28_9 (ls : a_LS) (st : List Value) (σ : a_HP) (Q : Option Value → a_HP → Prop) : Rn 28 9 ls st σ Q = acR 28 (o_cge 63 12 ls st σ) ls σ Q := rn_row rfl ls st σ Q
theorem r_28_12 (ls : a_LS) (st : List Value) (σ : a_HP) (Q : Option Value → a_HP → Prop) : Rn 28 12 ls st σ Q = acR 28 (o_pl (lN 31) 15 ls st σ) ls σ Q := rn_row rfl ls st σ Q
theorem r_28_15 (ls : a_LS) (st : List Value) (σ : a_HP) (Q : Option Value → a_HP → Prop) : Rn 28 15 ls st σ Q = acR 28 (o_ldl 3 16 ls st σ) ls σ Q := rn_row rfl ls st σ Q
theorem r_28_16 (ls : a_LS) (st : List Value) (σ : a_HP) (Q : Option Value → a_HP → Prop) : Rn 28 16 ls st σ Q = acR 28 (o_bl g_mul 17 ls st σ) ls σ Q := rn_row rfl ls st σ Q
theorem r_28_17 (ls : a_LS) (st : List Value) (σ : a_HP) (Q : Option Value → a_HP → Prop) : Rn 28 17 ls st σ Q = acR 28 (o_lda 0 18 ls st σ) ls σ Q := rn_row rfl ls st σ Q
theorem r_28_18 (ls : a_LS) (st : List Value) (σ : a_HP) (Q : Option Value → a_HP → Prop) : Rn 28 18 ls st σ Q = acR 28 (o_get 3 4 21 ls st σ) ls σ Q := rn_row rfl ls st σ Q
theorem r_28_21 (ls : a_LS) (st : List Value) (σ : a_HP) (Q : Option Value → a_HP → Prop) : Rn 28 21 ls st σ Q = acR 28 (o_ldi 5 23 ls st σ) ls σ Q := rn_row rfl ls st σ Q
theorem r_28_23 (ls : a_LS) (st : List Value) (σ : a_HP) (Q : Option Value → a_HP → Prop) : Rn 28 23 ls st σ Q = acR 28 (o_ial 24 ls st σ) ls σ Q := rn_row rfl ls st σ Q
theorem r_28_24 (ls : a_LS) (st : List Value) (σ : a_HP) (Q : Option Value → a_HP → Prop) : Rn 28 24 ls st σ Q = acR 28 (o_i2l 25 ls st σ) ls σ Q := rn_row rfl ls st σ Q
theorem r_28_25 (ls : a_LS) (st : List Value) (σ : a_HP) (Q : Option Value → a_HP → Prop) : Rn 28 25 ls st σ Q = acR 28 (o_bl g_add 26 ls st σ) ls σ Q := rn_row rfl ls st σ Q
theorem r_28_26 (ls : a_LS) (st : List Value) (σ : a_HP) (Q : Option Value → a_HP → Prop) : Rn 28 26 ls st σ Q = acR 28 (o_stl 3 27 ls st σ) ls σ Q := rn_row rfl ls st σ Q
theorem r_28_27 (ls : a_LS) (st : List Value) (σ : a_HP) (Q : Option Value → a_HP → Prop) : Rn 28 27 ls st σ Q = acR 28 (o_pl (lN 31) 30 ls st σ) ls σ Q := rn_row rfl ls st σ Q
theorem r_28_30 (ls : a_LS) (st : List Value) (σ : a_HP) (Q : Option Value → a_HP → Prop) : Rn 28 30 ls st σ Q = acR 28 (o_ldl 3 31 ls st σ) ls σ Q := rn_row rfl ls st σ Q
theorem r_28_31 (ls : a_LS) (st : List Value) (σ : a_HP) (Q : Option Value → a_HP → Prop) : Rn 28 31 ls st σ Q = acR 28 (o_bl g_mul 32 ls st σ) ls σ Q := rn_row rfl ls st σ Q
theorem r_28_32 (ls : a_LS) (st : List Value) (σ : a_HP) (Q : Option Value → a_HP → Prop) : Rn 28 32 ls st σ Q = acR 28 (o_lda 0 33 ls st σ) ls σ Q := rn_row rfl ls st σ Q
theorem r_28_33 (ls : a_LS) (st : List Value) (σ : a_HP) (Q : Option Value → a_HP → Prop) : Rn 28 33 ls st σ Q = acR 28 (o_get 3 5 36 ls st σ) ls σ Q := rn_row rfl ls st σ Q
theorem r_28_36 (ls : a_LS) (st : List Value) (σ : a_HP) (Q : Option Value → a_HP → Prop) : Rn 28 36 ls st σ Q = acR 28 (o_ldi 5 38 ls st σ) ls σ Q := rn_row rfl ls st σ Q
theorem r_28_38 (ls : a_LS) (st : List Value) (σ : a_HP) (Q : Option Value → a_HP → Prop) : Rn 28 38 ls st σ Q = acR 28 (o_ial 39 ls st σ) ls σ Q := rn_row rfl ls st σ Q
theorem r_28_39 (ls : a_LS) (st : List Value) (σ : a_HP) (Q : Option Value → a_HP → Prop) : Rn 28 39 ls st σ Q = acR 28 (o_i2l 40 ls st σ) ls σ Q := rn_row rfl ls st σ Q
theorem r_28_40 (ls : a_LS) (st : List Value) (σ : a_HP) (Q : Option Value → a_HP → Prop) : Rn 28 40 ls st σ Q = acR 28 (o_bl g_add 41 ls st σ) ls σ Q := rn_row rfl ls st σ Q
theorem r_28_41 (ls : a_LS) (st : List Value) (σ : a_HP) (Q : Option Value → a_HP → Prop) : Rn 28 41 ls st σ Q = acR 28 (o_stl 3 42 ls st σ) ls σ Q := rn_row rfl ls st σ Q
theorem r_28_42 (ls : a_LS) (st : List Value) (σ : a_HP) (Q : Option Value → a_HP → Prop) : Rn 28 42 ls st σ Q = acR 28 (o_pl (lN 31) 45 ls st σ) ls σ Q := rn_row rfl ls st σ Q
theorem r_28_45 (ls : a_LS) (st : List Value) (σ : a_HP) (Q : Option Value → a_HP → Prop) : Rn 28 45 ls st σ Q = acR 28 (o_ldl 3 46 ls st σ) ls σ Q := rn_row rfl ls st σ Q
theorem r_28_46 (ls : a_LS) (st : List Value) (σ : a_HP) (Q : Option Value → a_HP → Prop) : Rn 28 46 ls st σ Q = acR 28 (o_bl g_mul 47 ls st σ) ls σ Q := rn_row rfl ls st σ Q
theorem r_28_47 (ls : a_LS) (st : List Value) (σ : a_HP) (Q : Option Value → a_HP → Prop) : Rn 28 47 ls st σ Q = acR 28 (o_lda 0 48 ls st σ) ls σ Q := rn_row rfl ls st σ Q
theorem r_28_48 (ls : a_LS) (st : List Value) (σ : a_HP) (Q : Option Value → a_HP → Prop) : Rn 28 48 ls st σ Q = acR 28 (o_get 3 6 51 ls st σ) ls σ Q := rn_row rfl ls st σ Q
theorem r_28_51 (ls : a_LS) (st : List Value) (σ : a_HP) (Q : Option Value → a_HP → Prop) : Rn 28 51 ls st σ Q = acR 28 (o_ldi 5 53 ls st σ) ls σ Q := rn_row rfl ls st σ Q
theorem r_28_53 (ls : a_LS) (st : List Value) (σ : a_HP) (Q : Option Value → a_HP → Prop) : Rn 28 53 ls st σ Q = acR 28 (o_ial 54 ls st σ) ls σ Q := rn_row rfl ls st σ Q
theorem r_28_54 (ls : a_LS) (st : List Value) (σ : a_HP) (Q : Option Value → a_HP → Prop) : Rn 28 54 ls st σ Q = acR 28 (o_i2l 55 ls st σ) ls σ Q := rn_row rfl ls st σ Q
theorem r_28_55 (ls : a_LS) (st : List Value) (σ : a_HP) (Q : Option Value → a_HP → Prop) : Rn 28 55 ls st σ Q = acR 28 (o_bl g_add 56 ls st σ) ls σ Q := rn_row rfl ls st σ Q
theorem r_28_56 (ls : a_LS) (st : List Value) (σ : a_HP) (Q : Option Value → a_HP → Prop) : Rn 28 56 ls st σ Q = acR 28 (o_stl 3 57 ls st σ) ls σ Q := rn_row rfl ls st σ Q
theorem r_28_57 (ls : a_LS) (st : List Value) (σ : a_HP) (Q : Option Value → a_HP → Prop) : Rn 28 57 ls st σ Q = acR 28 (o_inc 5 (nI 1) 60 ls st σ) ls σ Q := rn_row rfl ls st σ Q
theorem r_28_60 (ls : a_LS) (st : List Value) (σ : a_HP) (Q : Option Value → a_HP → Prop) : Rn 28 60 ls st σ Q = acR 28 (o_go 5 ls st σ) ls σ Q := rn_row rfl ls st σ Q
theorem r_28_63 (ls : a_LS) (st : List Value) (σ : a_HP) (Q : Option Value → a_HP → Prop) : Rn 28 63 ls st σ Q = acR 28 (o_pi (nI 0) 64 ls st σ) ls σ Q := rn_row rfl ls st σ Q
theorem r_28_64 (ls : a_LS) (st : List Value) (σ : a_HP) (Q : Option Value → a_HP → Prop) : Rn 28 64 ls st σ Q = acR 28 (o_sti 5 66 ls st σ) ls σ Q := rn_row rfl ls st σ Q
theorem r_28_66 (ls : a_LS) (st : List Value) (σ : a_HP) (Q : Option Value → a_HP → Prop) : Rn 28 66 ls st σ Q = acR 28 (o_ldi 5 68 ls st σ) ls σ Q := rn_row rfl ls st σ Q
theorem r_28_68 (ls : a_LS) (st : List Value) (σ : a_HP) (Q : Option Value → a_HP → Prop) : Rn 28 68 ls st σ Q = acR 28 (o_pi (nI 9) 70 ls st σ) ls σ Q := rn_row rfl ls st σ Q
theorem r_28_70 (ls : a_LS) (st : List Value) (σ : a_HP) (Q : Option Value → a_HP → Prop) : Rn 28 70 ls st σ Q = acR 28 (o_cge 94 73 ls st σ) ls σ Q := rn_row rfl ls st σ Q
theorem r_28_73 (ls : a_LS) (st : List Value) (σ : a_HP) (Q : Option Value → a_HP → Prop) : Rn 28 73 ls st σ Q = acR 28 (o_pl (lN 31) 76 ls st σ) ls σ Q := rn_row rfl ls st σ Q
theorem r_28_76 (ls : a_LS) (st : List Value) (σ : a_HP) (Q : Option Value → a_HP → Prop) : Rn 28 76 ls st σ Q = acR 28 (o_ldl 3 77 ls st σ) ls σ Q := rn_row rfl ls st σ Q
theorem r_28_77 (ls : a_LS) (st : List Value) (σ : a_HP) (Q : Option Value → a_HP → Prop) : Rn 28 77 ls st σ Q = acR 28 (o_bl g_mul 78 ls st σ) ls σ Q := rn_row rfl ls st σ Q
theorem r_28_78 (ls : a_LS) (st : List Value) (σ : a_HP) (Q : Option Value → a_HP → Prop) : Rn 28 78 ls st σ Q = acR 28 (o_lda 0 79 ls st σ) ls σ Q := rn_row rfl ls st σ Q
theorem r_28_79 (ls : a_LS) (st : List Value) (σ : a_HP) (Q : Option Value → a_HP → Prop) : Rn 28 79 ls st σ Q = acR 28 (o_get 3 7 82 ls st σ) ls σ Q := rn_row rfl ls st σ Q
theorem r_28_82 (ls : a_LS) (st : List Value) (σ : a_HP) (Q : Option Value → a_HP → Prop) : Rn 28 82 ls st σ Q = acR 28 (o_ldi 5 84 ls st σ) ls σ Q := rn_row rfl ls st σ Q
theorem r_28_84 (ls : a_LS) (st : List Value) (σ : a_HP) (Q : Option Value → a_HP → Prop) : Rn 28 84 ls st σ Q = acR 28 (o_ial 85 ls st σ) ls σ Q := rn_row rfl ls st σ Q
theorem r_28_85 (ls : a_LS) (st : List Value) (σ : a_HP) (Q : Option Value → a_HP → Prop) : Rn 28 85 ls st σ Q = acR 28 (o_i2l 86 ls st σ) ls σ Q := rn_row rfl ls st σ Q
theorem r_28_86 (ls : a_LS) (st : List Value) (σ : a_HP) (Q : Option Value → a_HP → Prop) : Rn 28 86 ls st σ Q = acR 28 (o_bl g_add 87 ls st σ) ls σ Q := rn_row rfl ls st σ Q
theorem r_28_87 (ls : a_LS) (st : List Value) (σ : a_HP) (Q : Option Value → a_HP → Prop) : Rn 28 87 ls st σ Q = acR 28 (o_stl 3 88 ls st σ) ls σ Q := rn_row rfl ls st σ Q
theorem r_28_88 (ls : a_LS) (st : List Value) (σ : a_HP) (Q : Option Value → a_HP → Prop) : Rn 28 88 ls st σ Q = acR 28 (o_inc 5 (nI 1) 91 ls st σ) ls σ Q := rn_row rfl ls st σ Q
theorem r_28_91 (ls : a_LS) (st : List Value) (σ : a_HP) (Q : Option Value → a_HP → Prop) : Rn 28 91 ls st σ Q = acR 28 (o_go 66 ls st σ) ls σ Q := rn_row rfl ls st σ Q
theorem r_28_94 (ls : a_LS) (st : List Value) (σ : a_HP) (Q : Option Value → a_HP → Prop) : Rn 28 94 ls st σ Q = acR 28 (o_ldl 3 95 ls st σ) ls σ Q := rn_row rfl ls st σ Q
theorem r_28_95 (ls : a_LS) (st : List Value) (σ : a_HP) (Q : Option Value → a_HP → Prop) : Rn 28 95 ls st σ Q = acR 28 (o_rl ls st σ) ls σ Q := rn_row rfl ls st σ Q
/-! 29: NetLaw$Past.keep(LNetLaw$Net;)V -/
theorem cl_29 (x0 : Nat) (x1 : Nat) (σ : a_HP) (Q : Option Value → a_HP → Prop) : Cl 29 [.ref x0, .ref x1] σ Q = Rn 29 0 [some (.ref x0), some (.ref x1), none] [] σ Q := cl_of (Nat.le_of_ble_eq_true rfl) rfl σ Q
theorem r_29_0 (ls : a_LS) (st : List Value) (σ : a_HP) (Q : Option Value → a_HP → Prop) : Rn 29 0 ls st σ Q = acR 29 (o_lda 0 1 ls st σ) ls σ Q := rn_row rfl ls st σ Q
theorem r_29_1 (ls : a_LS) (st : List Value) (σ : a_HP) (Q : Option Value → a_HP → Prop) : Rn 29 1 ls st σ Q = acR 29 (o_get 4 0 4 ls st σ) ls σ Q := rn_row rfl ls st σ Q
theorem r_29_4 (ls : a_LS) (st : List Value) (σ : a_HP) (Q : Option Value → a_HP → Prop) : Rn 29 4 ls st σ Q = acR 29 (o_pi (nI 8) 6 ls st σ) ls σ Q := rn_row rfl ls st σ Q
theorem r_29_6 (ls : a_LS) (st : List Value) (σ : a_HP) (Q : Option Value → a_HP → Prop) : Rn 29 6 ls st σ Q = acR 29 (o_clt 32 9 ls st σ) ls σ Q := rn_row rfl ls st σ Q
theorem r_29_9 (ls : a_LS) (st : List Value) (σ : a_HP) (Q : Option Value → a_HP → Prop) : Rn 29 9 ls st σ Q = acR 29 (o_lda 0 10 ls st σ) ls σ Q := rn_row rfl ls st σ Q
theorem r_29_10 (ls : a_LS) (st : List Value) (σ : a_HP) (Q : Option Value → a_HP → Prop) : Rn 29 10 ls st σ Q = acR 29 (o_get 4 1 13 ls st σ) ls σ Q := rn_row rfl ls st σ Q
theorem r_29_13 (ls : a_LS) (st : List Value) (σ : a_HP) (Q : Option Value → a_HP → Prop) : Rn 29 13 ls st σ Q = acR 29 (o_pi (nI 50) 15 ls st σ) ls σ Q := rn_row rfl ls st σ Q
theorem r_29_15 (ls : a_LS) (st : List Value) (σ : a_HP) (Q : Option Value → a_HP → Prop) : Rn 29 15 ls st σ Q = acR 29 (o_lda 0 16 ls st σ) ls σ Q := rn_row rfl ls st σ Q
theorem r_29_16 (ls : a_LS) (st : List Value) (σ : a_HP) (Q : Option Value → a_HP → Prop) : Rn 29 16 ls st σ Q = acR 29 (o_get 4 1 19 ls st σ) ls σ Q := rn_row rfl ls st σ Q
theorem r_29_19 (ls : a_LS) (st : List Value) (σ : a_HP) (Q : Option Value → a_HP → Prop) : Rn 29 19 ls st σ Q = acR 29 (o_pi (nI 0) 20 ls st σ) ls σ Q := rn_row rfl ls st σ Q
theorem r_29_20 (ls : a_LS) (st : List Value) (σ : a_HP) (Q : Option Value → a_HP → Prop) : Rn 29 20 ls st σ Q = acR 29 (o_pi (nI 350) 23 ls st σ) ls σ Q := rn_row rfl ls st σ Q
theorem r_29_23 (ls : a_LS) (st : List Value) (σ : a_HP) (Q : Option Value → a_HP → Prop) : Rn 29 23 ls st σ Q = acR 29 (o_cpy 26 ls st σ) ls σ Q := rn_row rfl ls st σ Q
theorem r_29_26 (ls : a_LS) (st : List Value) (σ : a_HP) (Q : Option Value → a_HP → Prop) : Rn 29 26 ls st σ Q = acR 29 (o_lda 0 27 ls st σ) ls σ Q := rn_row rfl ls st σ Q
theorem r_29_27 (ls : a_LS) (st : List Value) (σ : a_HP) (Q : Option Value → a_HP → Prop) : Rn 29 27 ls st σ Q = acR 29 (o_pi (nI 7) 29 ls st σ) ls σ Q := rn_row rfl ls st σ Q
theorem r_29_29 (ls : a_LS) (st : List Value) (σ : a_HP) (Q : Option Value → a_HP → Prop) : Rn 29 29 ls st σ Q = acR 29 (o_put 4 0 32 ls st σ) ls σ Q := rn_row rfl ls st σ Q
theorem r_29_32 (ls : a_LS) (st : List Value) (σ : a_HP) (Q : Option Value → a_HP → Prop) : Rn 29 32 ls st σ Q = acR 29 (o_lda 0 33 ls st σ) ls σ Q := rn_row rfl ls st σ Q
theorem r_29_33 (ls : a_LS) (st : List Value) (σ : a_HP) (Q : Option Value → a_HP → Prop) : Rn 29 33 ls st σ Q = acR 29 (o_get 4 0 36 ls st σ) ls σ Q := rn_row rfl ls st σ Q
theorem r_29_36 (ls : a_LS) (st : List Value) (σ : a_HP) (Q : Option Value → a_HP → Prop) : Rn 29 36 ls st σ Q = acR 29 (o_pi (nI 50) 38 ls st σ) ls σ Q := rn_row rfl ls st σ Q
theorem r_29_38 (ls : a_LS) (st : List Value) (σ : a_HP) (Q : Option Value → a_HP → Prop) : Rn 29 38 ls st σ Q = acR 29 (o_bi f_mul 39 ls st σ) ls σ Q := rn_row rfl ls st σ Q
theorem r_29_39 (ls : a_LS) (st : List Value) (σ : a_HP) (Q : Option Value → a_HP → Prop) : Rn 29 39 ls st σ Q = acR 29 (o_sti 2 40 ls st σ) ls σ Q := rn_row rfl ls st σ Q
theorem r_29_40 (ls : a_LS) (st : List Value) (σ : a_HP) (Q : Option Value → a_HP → Prop) : Rn 29 40 ls st σ Q = acR 29 (o_lda 1 41 ls st σ) ls σ Q := rn_row rfl ls st σ Q
theorem r_29_41 (ls : a_LS) (st : List Value) (σ : a_HP) (Q : Option Value → a_HP → Prop) : Rn 29 41 ls st σ Q = acR 29 (o_get 3 4 44 ls st σ) ls σ Q := rn_row rfl ls st σ Q
theorem r_29_44 (ls : a_LS) (st : List Value) (σ : a_HP) (Q : Option Value → a_HP → Prop) : Rn 29 44 ls st σ Q = acR 29 (o_pi (nI 0) 45 ls st σ) ls σ Q := rn_row rfl ls st σ Q
theorem r_29_45 (ls : a_LS) (st : List Value) (σ : a_HP) (Q : Option Value → a_HP → Prop) : Rn 29 45 ls st σ Q = acR 29 (o_lda 0 46 ls st σ) ls σ Q := rn_row rfl ls st σ Q
theorem r_29_46 (ls : a_LS) (st : List Value) (σ : a_HP) (Q : Option Value → a_HP → Prop) : Rn 29 46 ls st σ Q = acR 29 (o_get 4 1 49 ls st σ) ls σ Q := rn_row rfl ls st σ Q
theorem r_29_49 (ls : a_LS) (st : List Value) (σ : a_HP) (Q : Option Value → a_HP → Prop) : Rn 29 49 ls st σ Q = acR 29 (o_ldi 2 50 ls st σ) ls σ Q := rn_row rfl ls st σ Q
theorem r_29_50 (ls : a_LS) (st : List Value) (σ : a_HP) (Q : Option Value → a_HP → Prop) : Rn 29 50 ls st σ Q = acR 29 (o_pi (nI 16) 52 ls st σ) ls σ Q := rn_row rfl ls st σ Q
theorem r_29_52 (ls : a_LS) (st : List Value) (σ : a_HP) (Q : Option Value → a_HP → Prop) : Rn 29 52 ls st σ Q = acR 29 (o_cpy 55 ls st σ) ls σ Q := rn_row rfl ls st σ Q
theorem r_29_55 (ls : a_LS) (st : List Value) (σ : a_HP) (Q : Option Value → a_HP → Prop) : Rn 29 55 ls st σ Q = acR 29 (o_lda 1 56 ls st σ) ls σ Q := rn_row rfl ls st σ Q
theorem r_29_56 (ls : a_LS) (st : List Value) (σ : a_HP) (Q : Option Value → a_HP → Prop) : Rn 29 56 ls st σ Q = acR 29 (o_get 3 5 59 ls st σ) ls σ Q := rn_row rfl ls st σ Q
theorem r_29_59 (ls : a_LS) (st : List Value) (σ : a_HP) (Q : Option Value → a_HP → Prop) : Rn 29 59 ls st σ Q = acR 29 (o_pi (nI 0) 60 ls st σ) ls σ Q := rn_row rfl ls st σ Q
theorem r_29_60 (ls : a_LS) (st : List Value) (σ : a_HP) (Q : Option Value → a_HP → Prop) : Rn 29 60 ls st σ Q = acR 29 (o_lda 0 61 ls st σ) ls σ Q := rn_row rfl ls st σ Q
theorem r_29_61 (ls : a_LS) (st : List Value) (σ : a_HP) (Q : Option Value → a_HP → Prop) : Rn 29 61 ls st σ Q = acR 29 (o_get 4 1 64 ls st σ) ls σ Q := rn_row rfl ls st σ Q
theorem r_29_64 (ls : a_LS) (st : List Value) (σ : a_HP) (Q : Option Value → a_HP → Prop) : Rn 29 64 ls st σ Q = acR 29 (o_ldi 2 65 ls st σ) ls σ Q := rn_row rfl ls st σ Q
theorem r_29_65 (ls : a_LS) (st : List Value) (σ : a_HP) (Q : Option Value → a_HP → Prop) : Rn 29 65 ls st σ Q = acR 29 (o_pi (nI 16) 67 ls st σ) ls σ Q := rn_row rfl ls st σ Q
theorem r_29_67 (ls : a_LS) (st : List Value) (σ : a_HP) (Q : Option Value → a_HP → Prop) : Rn 29 67 ls st σ Q = acR 29 (o_bi f_add 68 ls st σ) ls σ Q := rn_row rfl ls st σ Q
theorem r_29_68 (ls : a_LS) (st : List Value) (σ : a_HP) (Q : Option Value → a_HP → Prop) : Rn 29 68 ls st σ Q = acR 29 (o_pi (nI 16) 70 ls st σ) ls σ Q := rn_row rfl ls st σ Q
theorem r_29_70 (ls : a_LS) (st : List Value) (σ : a_HP) (Q : Option Value → a_HP → Prop) : Rn 29 70 ls st σ Q = acR 29 (o_cpy 73 ls st σ) ls σ Q := rn_row rfl ls st σ Q
theorem r_29_73 (ls : a_LS) (st : List Value) (σ : a_HP) (Q : Option Value → a_HP → Prop) : Rn 29 73 ls st σ Q = acR 29 (o_lda 1 74 ls st σ) ls σ Q := rn_row rfl ls st σ Q
theorem r_29_74 (ls : a_LS) (st : List Value) (σ : a_HP) (Q : Option Value → a_HP → Prop) : Rn 29 74 ls st σ Q = acR 29 (o_get 3 6 77 ls st σ) ls σ Q := rn_row rfl ls st σ Q
theorem r_29_77 (ls : a_LS) (st : List Value) (σ : a_HP) (Q : Option Value → a_HP → Prop) : Rn 29 77 ls st σ Q = acR 29 (o_pi (nI 0) 78 ls st σ) ls σ Q := rn_row rfl ls st σ Q
theorem r_29_78 (ls : a_LS) (st : List Value) (σ : a_HP) (Q : Option Value → a_HP → Prop) : Rn 29 78 ls st σ Q = acR 29 (o_lda 0 79 ls st σ) ls σ Q := rn_row rfl ls st σ Q
theorem r_29_79 (ls : a_LS) (st : List Value) (σ : a_HP) (Q : Option Value → a_HP → Prop) : Rn 29 79 ls st σ Q = acR 29 (o_get 4 1 82 ls st σ) ls σ Q := rn_row rfl ls st σ Q
theorem r_29_82 (ls : a_LS) (st : List Value) (σ : a_HP) (Q : Option Value → a_HP → Prop) : Rn 29 82 ls st σ Q = acR 29 (o_ldi 2 83 ls st σ) ls σ Q := rn_row rfl ls st σ Q
theorem r_29_83 (ls : a_LS) (st : List Value) (σ : a_HP) (Q : Option Value → a_HP → Prop) : Rn 29 83 ls st σ Q = acR 29 (o_pi (nI 32) 85 ls st σ) ls σ Q := rn_row rfl ls st σ Q
theorem r_29_85 (ls : a_LS) (st : List Value) (σ : a_HP) (Q : Option Value → a_HP → Prop) : Rn 29 85 ls st σ Q = acR 29 (o_bi f_add 86 ls st σ) ls σ Q := rn_row rfl ls st σ Q
theorem r_29_86 (ls : a_LS) (st : List Value) (σ : a_HP) (Q : Option Value → a_HP → Prop) : Rn 29 86 ls st σ Q = acR 29 (o_pi (nI 16) 88 ls st σ) ls σ Q := rn_row rfl ls st σ Q
theorem r_29_88 (ls : a_LS) (st : List Value) (σ : a_HP) (Q : Option Value → a_HP → Prop) : Rn 29 88 ls st σ Q = acR 29 (o_cpy 91 ls st σ) ls σ Q := rn_row rfl ls st σ Q
theorem r_29_91 (ls : a_LS) (st : List Value) (σ : a_HP) (Q : Option Value → a_HP → Prop) : Rn 29 91 ls st σ Q = acR 29 (o_lda 0 92 ls st σ) ls σ Q := rn_row rfl ls st σ Q
theorem r_29_92 (ls : a_LS) (st : List Value) (σ : a_HP) (Q : Option Value → a_HP → Prop) : Rn 29 92 ls st σ Q = acR 29 (o_get 4 1 95 ls st σ) ls σ Q := rn_row rfl ls st σ Q
theorem r_29_95 (ls : a_LS) (st : List Value) (σ : a_HP) (Q : Option Value → a_HP → Prop) : Rn 29 95 ls st σ Q = acR 29 (o_ldi 2 96 ls st σ) ls σ Q := rn_row rfl ls st σ Q
theorem r_29_96 (ls : a_LS) (st : List Value) (σ : a_HP) (Q : Option Value → a_HP → Prop) : Rn 29 96 ls st σ Q = acR 29 (o_pi (nI 48) 98 ls st σ) ls σ Q := rn_row rfl ls st σ Q
theorem r_29_98 (ls : a_LS) (st : List Value) (σ : a_HP) (Q : Option Value → a_HP → Prop) : Rn 29 98 ls st σ Q = acR 29 (o_bi f_add 99 ls st σ) ls σ Q := rn_row rfl ls st σ Q
theorem r_29_99 (ls : a_LS) (st : List Value) (σ : a_HP) (Q : Option Value → a_HP → Prop) : Rn 29 99 ls st σ Q = acR 29 (o_lda 1 100 ls st σ) ls σ Q := rn_row rfl ls st σ Q
theorem r_29_100 (ls : a_LS) (st : List Value) (σ : a_HP) (Q : Option Value → a_HP → Prop) : Rn 29 100 ls st σ Q = acR 29 (o_get 3 1 103 ls st σ) ls σ Q := rn_row rfl ls st σ Q
theorem r_29_103 (ls : a_LS) (st : List Value) (σ : a_HP) (Q : Option Value → a_HP → Prop) : Rn 29 103 ls st σ Q = acR 29 (o_ias 104 ls st σ) ls σ Q := rn_row rfl ls st σ Q
theorem r_29_104 (ls : a_LS) (st : List Value) (σ : a_HP) (Q : Option Value → a_HP → Prop) : Rn 29 104 ls st σ Q = acR 29 (o_lda 0 105 ls st σ) ls σ Q := rn_row rfl ls st σ Q
theorem r_29_105 (ls : a_LS) (st : List Value) (σ : a_HP) (Q : Option Value → a_HP → Prop) : Rn 29 105 ls st σ Q = acR 29 (o_get 4 1 108 ls st σ) ls σ Q := rn_row rfl ls st σ Q
theorem r_29_108 (ls : a_LS) (st : List Value) (σ : a_HP) (Q : Option Value → a_HP → Prop) : Rn 29 108 ls st σ Q = acR 29 (o_ldi 2 109 ls st σ) ls σ Q := rn_row rfl ls st σ Q
theorem r_29_109 (ls : a_LS) (st : List Value) (σ : a_HP) (Q : Option Value → a_HP → Prop) : Rn 29 109 ls st σ Q = acR 29 (o_pi (nI 49) 111 ls st σ) ls σ Q := rn_row rfl ls st σ Q
theorem r_29_111 (ls : a_LS) (st : List Value) (σ : a_HP) (Q : Option Value → a_HP → Prop) : Rn 29 111 ls st σ Q = acR 29 (o_bi f_add 112 ls st σ) ls σ Q := rn_row rfl ls st σ Q
theorem r_29_112 (ls : a_LS) (st : List Value) (σ : a_HP) (Q : Option Value → a_HP → Prop) : Rn 29 112 ls st σ Q = acR 29 (o_lda 1 113 ls st σ) ls σ Q := rn_row rfl ls st σ Q
theorem r_29_113 (ls : a_LS) (st : List Value) (σ : a_HP) (Q : Option Value → a_HP → Prop) : Rn 29 113 ls st σ Q = acR 29 (o_get 3 3 116 ls st σ) ls σ Q := rn_row rfl ls st σ Q
theorem r_29_116 (ls : a_LS) (st : List Value) (σ : a_HP) (Q : Option Value → a_HP → Prop) : Rn 29 116 ls st σ Q = acR 29 (o_ias 117 ls st σ) ls σ Q := rn_row rfl ls st σ Q
theorem r_29_117 (ls : a_LS) (st : List Value) (σ : a_HP) (Q : Option Value → a_HP → Prop) : Rn 29 117 ls st σ Q = acR 29 (o_lda 0 118 ls st σ) ls σ Q := rn_row rfl ls st σ Q
theorem r_29_118 (ls : a_LS) (st : List Value) (σ : a_HP) (Q : Option Value → a_HP → Prop) : Rn 29 118 ls st σ Q = acR 29 (o_dup 119 ls st σ) ls σ Q := rn_row rfl ls st σ Q
theorem r_29_119 (ls : a_LS) (st : List Value) (σ : a_HP) (Q : Option Value → a_HP → Prop) : Rn 29 119 ls st σ Q = acR 29 (o_get 4 0 122 ls st σ) ls σ Q := rn_row rfl ls st σ Q
theorem r_29_122 (ls : a_LS) (st : List Value) (σ : a_HP) (Q : Option Value → a_HP → Prop) : Rn 29 122 ls st σ Q = acR 29 (o_pi (nI 1) 123 ls st σ) ls σ Q := rn_row rfl ls st σ Q
theorem r_29_123 (ls : a_LS) (st : List Value) (σ : a_HP) (Q : Option Value → a_HP → Prop) : Rn 29 123 ls st σ Q = acR 29 (o_bi f_add 124 ls st σ) ls σ Q := rn_row rfl ls st σ Q
theorem r_29_124 (ls : a_LS) (st : List Value) (σ : a_HP) (Q : Option Value → a_HP → Prop) : Rn 29 124 ls st σ Q = acR 29 (o_put 4 0 127 ls st σ) ls σ Q := rn_row rfl ls st σ Q
theorem r_29_127 (ls : a_LS) (st : List Value) (σ : a_HP) (Q : Option Value → a_HP → Prop) : Rn 29 127 ls st σ Q = acR 29 (o_rv ls st σ) ls σ Q := rn_row rfl ls st σ Q
/-! 30: NetLaw$Past.giveBack(LNetLaw$Net;)V -/
theorem cl_30 (x0 : Nat) (x1 : Nat) (σ : a_HP) (Q : Option Value → a_HP → Prop) : Cl 30 [.ref x0, .ref x1] σ Q = Rn 30 0 [some (.ref x0), some (.ref x1), none] [] σ Q := cl_of (Nat.le_of_ble_eq_true rfl) rfl σ Q
theorem r_30_0 (ls : a_LS) (st : List Value) (σ : a_HP) (Q : Option Value → a_HP → Prop) : Rn 30 0 ls st σ Q = acR 30 (o_lda 0 1 ls st σ) ls σ Q := rn_row rfl ls st σ Q
theorem r_30_1 (ls : a_LS) (st : List Value) (σ : a_HP) (Q : Option Value → a_HP → Prop) : Rn 30 1 ls st σ Q = acR 30 (o_get 4 0 4 ls st σ) ls σ Q := rn_row rfl ls st σ Q
theorem r_30_4 (ls : a_LS) (st : List Value) (σ : a_HP) (Q : Option Value → a_HP → Prop) : Rn 30 4 ls st σ Q = acR 30 (o_gt 8 7 ls st σ) ls σ Q := rn_row rfl ls st σ Q
theorem r_30_7 (ls : a_LS) (st : List Value) (σ : a_HP) (Q : Option Value → a_HP → Prop) : Rn 30 7 ls st σ Q = acR 30 (o_rv ls st σ) ls σ Q := rn_row rfl ls st σ Q
theorem r_30_8 (ls : a_LS) (st : List Value) (σ : a_HP) (Q : Option Value → a_HP → Prop) : Rn 30 8 ls st σ Q = acR 30 (o_lda 0 9 ls st σ) ls σ Q := rn_row rfl ls st σ Q
theorem r_30_9 (ls : a_LS) (st : List Value) (σ : a_HP) (Q : Option Value → a_HP → Prop) : Rn 30 9 ls st σ Q = acR 30 (o_dup 10 ls st σ) ls σ Q := rn_row rfl ls st σ Q
theorem r_30_10 (ls : a_LS) (st : List Value) (σ : a_HP) (Q : Option Value → a_HP → Prop) : Rn 30 10 ls st σ Q = acR 30 (o_get 4 0 13 ls st σ) ls σ Q := rn_row rfl ls st σ Q
theorem r_30_13 (ls : a_LS) (st : List Value) (σ : a_HP) (Q : Option Value → a_HP → Prop) : Rn 30 13 ls st σ Q = acR 30 (o_pi (nI 1) 14 ls st σ) ls σ Q := rn_row rfl ls st σ Q
theorem r_30_14 (ls : a_LS) (st : List Value) (σ : a_HP) (Q : Option Value → a_HP → Prop) : Rn 30 14 ls st σ Q = acR 30 (o_bi f_sub 15 ls st σ) ls σ Q := rn_row rfl ls st σ Q
theorem r_30_15 (ls : a_LS) (st : List Value) (σ : a_HP) (Q : Option Value → a_HP → Prop) : Rn 30 15 ls st σ Q = acR 30 (o_put 4 0 18 ls st σ) ls σ Q := rn_row rfl ls st σ Q
theorem r_30_18 (ls : a_LS) (st : List Value) (σ : a_HP) (Q : Option Value → a_HP → Prop) : Rn 30 18 ls st σ Q = acR 30 (o_lda 0 19 ls st σ) ls σ Q := rn_row rfl ls st σ Q
theorem r_30_19 (ls : a_LS) (st : List Value) (σ : a_HP) (Q : Option Value → a_HP → Prop) : Rn 30 19 ls st σ Q = acR 30 (o_get 4 0 22 ls st σ) ls σ Q := rn_row rfl ls st σ Q
theorem r_30_22 (ls : a_LS) (st : List Value) (σ : a_HP) (Q : Option Value → a_HP → Prop) : Rn 30 22 ls st σ Q = acR 30 (o_pi (nI 50) 24 ls st σ) ls σ Q := rn_row rfl ls st σ Q
theorem r_30_24 (ls : a_LS) (st : List Value) (σ : a_HP) (Q : Option Value → a_HP → Prop) : Rn 30 24 ls st σ Q = acR 30 (o_bi f_mul 25 ls st σ) ls σ Q := rn_row rfl ls st σ Q
theorem r_30_25 (ls : a_LS) (st : List Value) (σ : a_HP) (Q : Option Value → a_HP → Prop) : Rn 30 25 ls st σ Q = acR 30 (o_sti 2 26 ls st σ) ls σ Q := rn_row rfl ls st σ Q
theorem r_30_26 (ls : a_LS) (st : List Value) (σ : a_HP) (Q : Option Value → a_HP → Prop) : Rn 30 26 ls st σ Q = acR 30 (o_lda 0 27 ls st σ) ls σ Q := rn_row rfl ls st σ Q
theorem r_30_27 (ls : a_LS) (st : List Value) (σ : a_HP) (Q : Option Value → a_HP → Prop) : Rn 30 27 ls st σ Q = acR 30 (o_get 4 1 30 ls st σ) ls σ Q := rn_row rfl ls st σ Q
theorem r_30_30 (ls : a_LS) (st : List Value) (σ : a_HP) (Q : Option Value → a_HP → Prop) : Rn 30 30 ls st σ Q = acR 30 (o_ldi 2 31 ls st σ) ls σ Q := rn_row rfl ls st σ Q
theorem r_30_31 (ls : a_LS) (st : List Value) (σ : a_HP) (Q : Option Value → a_HP → Prop) : Rn 30 31 ls st σ Q = acR 30 (o_lda 1 32 ls st σ) ls σ Q := rn_row rfl ls st σ Q
theorem r_30_32 (ls : a_LS) (st : List Value) (σ : a_HP) (Q : Option Value → a_HP → Prop) : Rn 30 32 ls st σ Q = acR 30 (o_get 3 4 35 ls st σ) ls σ Q := rn_row rfl ls st σ Q
theorem r_30_35 (ls : a_LS) (st : List Value) (σ : a_HP) (Q : Option Value → a_HP → Prop) : Rn 30 35 ls st σ Q = acR 30 (o_pi (nI 0) 36 ls st σ) ls σ Q := rn_row rfl ls st σ Q
theorem r_30_36 (ls : a_LS) (st : List Value) (σ : a_HP) (Q : Option Value → a_HP → Prop) : Rn 30 36 ls st σ Q = acR 30 (o_pi (nI 16) 38 ls st σ) ls σ Q := rn_row rfl ls st σ Q
theorem r_30_38 (ls : a_LS) (st : List Value) (σ : a_HP) (Q : Option Value → a_HP → Prop) : Rn 30 38 ls st σ Q = acR 30 (o_cpy 41 ls st σ) ls σ Q := rn_row rfl ls st σ Q
theorem r_30_41 (ls : a_LS) (st : List Value) (σ : a_HP) (Q : Option Value → a_HP → Prop) : Rn 30 41 ls st σ Q = acR 30 (o_lda 0 42 ls st σ) ls σ Q := rn_row rfl ls st σ Q
theorem r_30_42 (ls : a_LS) (st : List Value) (σ : a_HP) (Q : Option Value → a_HP → Prop) : Rn 30 42 ls st σ Q = acR 30 (o_get 4 1 45 ls st σ) ls σ Q := rn_row rfl ls st σ Q
theorem r_30_45 (ls : a_LS) (st : List Value) (σ : a_HP) (Q : Option Value → a_HP → Prop) : Rn 30 45 ls st σ Q = acR 30 (o_ldi 2 46 ls st σ) ls σ Q := rn_row rfl ls st σ Q
theorem r_30_46 (ls : a_LS) (st : List Value) (σ : a_HP) (Q : Option Value → a_HP → Prop) : Rn 30 46 ls st σ Q = acR 30 (o_pi (nI 16) 48 ls st σ) ls σ Q := rn_row rfl ls st σ Q
theorem r_30_48 (ls : a_LS) (st : List Value) (σ : a_HP) (Q : Option Value → a_HP → Prop) : Rn 30 48 ls st σ Q = acR 30 (o_bi f_add 49 ls st σ) ls σ Q := rn_row rfl ls st σ Q
theorem r_30_49 (ls : a_LS) (st : List Value) (σ : a_HP) (Q : Option Value → a_HP → Prop) : Rn 30 49 ls st σ Q = acR 30 (o_lda 1 50 ls st σ) ls σ Q := rn_row rfl ls st σ Q
theorem r_30_50 (ls : a_LS) (st : List Value) (σ : a_HP) (Q : Option Value → a_HP → Prop) : Rn 30 50 ls st σ Q = acR 30 (o_get 3 5 53 ls st σ) ls σ Q := rn_row rfl ls st σ Q
theorem r_30_53 (ls : a_LS) (st : List Value) (σ : a_HP) (Q : Option Value → a_HP → Prop) : Rn 30 53 ls st σ Q = acR 30 (o_pi (nI 0) 54 ls st σ) ls σ Q := rn_row rfl ls st σ Q
theorem r_30_54 (ls : a_LS) (st : List Value) (σ : a_HP) (Q : Option Value → a_HP → Prop) : Rn 30 54 ls st σ Q = acR 30 (o_pi (nI 16) 56 ls st σ) ls σ Q := rn_row rfl ls st σ Q
theorem r_30_56 (ls : a_LS) (st : List Value) (σ : a_HP) (Q : Option Value → a_HP → Prop) : Rn 30 56 ls st σ Q = acR 30 (o_cpy 59 ls st σ) ls σ Q := rn_row rfl ls st σ Q
theorem r_30_59 (ls : a_LS) (st : List Value) (σ : a_HP) (Q : Option Value → a_HP → Prop) : Rn 30 59 ls st σ Q = acR 30 (o_lda 0 60 ls st σ) ls σ Q := rn_row rfl ls st σ Q
theorem r_30_60 (ls : a_LS) (st : List Value) (σ : a_HP) (Q : Option Value → a_HP → Prop) : Rn 30 60 ls st σ Q = acR 30 (o_get 4 1 63 ls st σ) ls σ Q := rn_row rfl ls st σ Q
theorem r_30_63 (ls : a_LS) (st : List Value) (σ : a_HP) (Q : Option Value → a_HP → Prop) : Rn 30 63 ls st σ Q = acR 30 (o_ldi 2 64 ls st σ) ls σ Q := rn_row rfl ls st σ Q
theorem r_30_64 (ls : a_LS) (st : List Value) (σ : a_HP) (Q : Option Value → a_HP → Prop) : Rn 30 64 ls st σ Q = acR 30 (o_pi (nI 32) 66 ls st σ) ls σ Q := rn_row rfl ls st σ Q
theorem r_30_66 (ls : a_LS) (st : List Value) (σ : a_HP) (Q : Option Value → a_HP → Prop) : Rn 30 66 ls st σ Q = acR 30 (o_bi f_add 67 ls st σ) ls σ Q := rn_row rfl ls st σ Q
theorem r_30_67 (ls : a_LS) (st : List Value) (σ : a_HP) (Q : Option Value → a_HP → Prop) : Rn 30 67 ls st σ Q = acR 30 (o_lda 1 68 ls st σ) ls σ Q := rn_row rfl ls st σ Q
theorem r_30_68 (ls : a_LS) (st : List Value) (σ : a_HP) (Q : Option Value → a_HP → Prop) : Rn 30 68 ls st σ Q = acR 30 (o_get 3 6 71 ls st σ) ls σ Q := rn_row rfl ls st σ Q
theorem r_30_71 (ls : a_LS) (st : List Value) (σ : a_HP) (Q : Option Value → a_HP → Prop) : Rn 30 71 ls st σ Q = acR 30 (o_pi (nI 0) 72 ls st σ) ls σ Q := rn_row rfl ls st σ Q
theorem r_30_72 (ls : a_LS) (st : List Value) (σ : a_HP) (Q : Option Value → a_HP → Prop) : Rn 30 72 ls st σ Q = acR 30 (o_pi (nI 16) 74 ls st σ) ls σ Q := rn_row rfl ls st σ Q
theorem r_30_74 (ls : a_LS) (st : List Value) (σ : a_HP) (Q : Option Value → a_HP → Prop) : Rn 30 74 ls st σ Q = acR 30 (o_cpy 77 ls st σ) ls σ Q := rn_row rfl ls st σ Q
theorem r_30_77 (ls : a_LS) (st : List Value) (σ : a_HP) (Q : Option Value → a_HP → Prop) : Rn 30 77 ls st σ Q = acR 30 (o_lda 1 78 ls st σ) ls σ Q := rn_row rfl ls st σ Q
theorem r_30_78 (ls : a_LS) (st : List Value) (σ : a_HP) (Q : Option Value → a_HP → Prop) : Rn 30 78 ls st σ Q = acR 30 (o_lda 0 79 ls st σ) ls σ Q := rn_row rfl ls st σ Q
theorem r_30_79 (ls : a_LS) (st : List Value) (σ : a_HP) (Q : Option Value → a_HP → Prop) : Rn 30 79 ls st σ Q = acR 30 (o_get 4 1 82 ls st σ) ls σ Q := rn_row rfl ls st σ Q
theorem r_30_82 (ls : a_LS) (st : List Value) (σ : a_HP) (Q : Option Value → a_HP → Prop) : Rn 30 82 ls st σ Q = acR 30 (o_ldi 2 83 ls st σ) ls σ Q := rn_row rfl ls st σ Q
theorem r_30_83 (ls : a_LS) (st : List Value) (σ : a_HP) (Q : Option Value → a_HP → Prop) : Rn 30 83 ls st σ Q = acR 30 (o_pi (nI 48) 85 ls st σ) ls σ Q := rn_row rfl ls st σ Q
theorem r_30_85 (ls : a_LS) (st : List Value) (σ : a_HP) (Q : Option Value → a_HP → Prop) : Rn 30 85 ls st σ Q = acR 30 (o_bi f_add 86 ls st σ) ls σ Q := rn_row rfl ls st σ Q
theorem r_30_86 (ls : a_LS) (st : List Value) (σ : a_HP) (Q : Option Value → a_HP → Prop) : Rn 30 86 ls st σ Q = acR 30 (o_ial 87 ls st σ) ls σ Q := rn_row rfl ls st σ Q
theorem r_30_87 (ls : a_LS) (st : List Value) (σ : a_HP) (Q : Option Value → a_HP → Prop) : Rn 30 87 ls st σ Q = acR 30 (o_put 3 1 90 ls st σ) ls σ Q := rn_row rfl ls st σ Q
theorem r_30_90 (ls : a_LS) (st : List Value) (σ : a_HP) (Q : Option Value → a_HP → Prop) : Rn 30 90 ls st σ Q = acR 30 (o_lda 1 91 ls st σ) ls σ Q := rn_row rfl ls st σ Q
theorem r_30_91 (ls : a_LS) (st : List Value) (σ : a_HP) (Q : Option Value → a_HP → Prop) : Rn 30 91 ls st σ Q = acR 30 (o_lda 0 92 ls st σ) ls σ Q := rn_row rfl ls st σ Q
theorem r_30_92 (ls : a_LS) (st : List Value) (σ : a_HP) (Q : Option Value → a_HP → Prop) : Rn 30 92 ls st σ Q = acR 30 (o_get 4 1 95 ls st σ) ls σ Q := rn_row rfl ls st σ Q
theorem r_30_95 (ls : a_LS) (st : List Value) (σ : a_HP) (Q : Option Value → a_HP → Prop) : Rn 30 95 ls st σ Q = acR 30 (o_ldi 2 96 ls st σ) ls σ Q := rn_row rfl ls st σ Q
theorem r_30_96 (ls : a_LS) (st : List Value) (σ : a_HP) (Q : Option Value → a_HP → Prop) : Rn 30 96 ls st σ Q = acR 30 (o_pi (nI 49) 98 ls st σ) ls σ Q := rn_row rfl ls st σ Q
theorem r_30_98 (ls : a_LS) (st : List Value) (σ : a_HP) (Q : Option Value → a_HP → Prop) : Rn 30 98 ls st σ Q = acR 30 (o_bi f_add 99 ls st σ) ls σ Q := rn_row rfl ls st σ Q
theorem r_30_99 (ls : a_LS) (st : List Value) (σ : a_HP) (Q : Option Value → a_HP → Prop) : Rn 30 99 ls st σ Q = acR 30 (o_ial 100 ls st σ) ls σ Q := rn_row rfl ls st σ Q
theorem r_30_100 (ls : a_LS) (st : List Value) (σ : a_HP) (Q : Option Value → a_HP → Prop) : Rn 30 100 ls st σ Q = acR 30 (o_put 3 3 103 ls st σ) ls σ Q := rn_row rfl ls st σ Q
theorem r_30_103 (ls : a_LS) (st : List Value) (σ : a_HP) (Q : Option Value → a_HP → Prop) : Rn 30 103 ls st σ Q = acR 30 (o_rv ls st σ) ls σ Q := rn_row rfl ls st σ Q
/-! 31: NetLaw$Past.takeFrom(LNetLaw$Past;)V -/
theorem cl_31 (x0 : Nat) (x1 : Nat) (σ : a_HP) (Q : Option Value → a_HP → Prop) : Cl 31 [.ref x0, .ref x1] σ Q = Rn 31 0 [some (.ref x0), some (.ref x1)] [] σ Q := cl_of (Nat.le_of_ble_eq_true rfl) rfl σ Q
theorem r_31_0 (ls : a_LS) (st : List Value) (σ : a_HP) (Q : Option Value → a_HP → Prop) : Rn 31 0 ls st σ Q = acR 31 (o_lda 0 1 ls st σ) ls σ Q := rn_row rfl ls st σ Q
theorem r_31_1 (ls : a_LS) (st : List Value) (σ : a_HP) (Q : Option Value → a_HP → Prop) : Rn 31 1 ls st σ Q = acR 31 (o_lda 1 2 ls st σ) ls σ Q := rn_row rfl ls st σ Q
theorem r_31_2 (ls : a_LS) (st : List Value) (σ : a_HP) (Q : Option Value → a_HP → Prop) : Rn 31 2 ls st σ Q = acR 31 (o_get 4 0 5 ls st σ) ls σ Q := rn_row rfl ls st σ Q
theorem r_31_5 (ls : a_LS) (st : List Value) (σ : a_HP) (Q : Option Value → a_HP → Prop) : Rn 31 5 ls st σ Q = acR 31 (o_put 4 0 8 ls st σ) ls σ Q := rn_row rfl ls st σ Q
theorem r_31_8 (ls : a_LS) (st : List Value) (σ : a_HP) (Q : Option Value → a_HP → Prop) : Rn 31 8 ls st σ Q = acR 31 (o_lda 1 9 ls st σ) ls σ Q := rn_row rfl ls st σ Q
theorem r_31_9 (ls : a_LS) (st : List Value) (σ : a_HP) (Q : Option Value → a_HP → Prop) : Rn 31 9 ls st σ Q = acR 31 (o_get 4 1 12 ls st σ) ls σ Q := rn_row rfl ls st σ Q
theorem r_31_12 (ls : a_LS) (st : List Value) (σ : a_HP) (Q : Option Value → a_HP → Prop) : Rn 31 12 ls st σ Q = acR 31 (o_pi (nI 0) 13 ls st σ) ls σ Q := rn_row rfl ls st σ Q
theorem r_31_13 (ls : a_LS) (st : List Value) (σ : a_HP) (Q : Option Value → a_HP → Prop) : Rn 31 13 ls st σ Q = acR 31 (o_lda 0 14 ls st σ) ls σ Q := rn_row rfl ls st σ Q
theorem r_31_14 (ls : a_LS) (st : List Value) (σ : a_HP) (Q : Option Value → a_HP → Prop) : Rn 31 14 ls st σ Q = acR 31 (o_get 4 1 17 ls st σ) ls σ Q := rn_row rfl ls st σ Q
theorem r_31_17 (ls : a_LS) (st : List Value) (σ : a_HP) (Q : Option Value → a_HP → Prop) : Rn 31 17 ls st σ Q = acR 31 (o_pi (nI 0) 18 ls st σ) ls σ Q := rn_row rfl ls st σ Q
theorem r_31_18 (ls : a_LS) (st : List Value) (σ : a_HP) (Q : Option Value → a_HP → Prop) : Rn 31 18 ls st σ Q = acR 31 (o_lda 0 19 ls st σ) ls σ Q := rn_row rfl ls st σ Q
theorem r_31_19 (ls : a_LS) (st : List Value) (σ : a_HP) (Q : Option Value → a_HP → Prop) : Rn 31 19 ls st σ Q = acR 31 (o_get 4 0 22 ls st σ) ls σ Q := rn_row rfl ls st σ Q
theorem r_31_22 (ls : a_LS) (st : List Value) (σ : a_HP) (Q : Option Value → a_HP → Prop) : Rn 31 22 ls st σ Q = acR 31 (o_pi (nI 50) 24 ls st σ) ls σ Q := rn_row rfl ls st σ Q
theorem r_31_24 (ls : a_LS) (st : List Value) (σ : a_HP) (Q : Option Value → a_HP → Prop) : Rn 31 24 ls st σ Q = acR 31 (o_bi f_mul 25 ls st σ) ls σ Q := rn_row rfl ls st σ Q
theorem r_31_25 (ls : a_LS) (st : List Value) (σ : a_HP) (Q : Option Value → a_HP → Prop) : Rn 31 25 ls st σ Q = acR 31 (o_cpy 28 ls st σ) ls σ Q := rn_row rfl ls st σ Q
theorem r_31_28 (ls : a_LS) (st : List Value) (σ : a_HP) (Q : Option Value → a_HP → Prop) : Rn 31 28 ls st σ Q = acR 31 (o_rv ls st σ) ls σ Q := rn_row rfl ls st σ Q
/-! 32: NetLaw$Readings.append(III)V -/
theorem cl_32 (x0 : Nat) (x1 : Int32) (x2 : Int32) (x3 : Int32) (σ : a_HP) (Q : Option Value → a_HP → Prop) : Cl 32 [.ref x0, .int x1, .int x2, .int x3] σ Q = Rn 32 0 [some (.ref x0), some (.int x1), some (.int x2), some (.int x3)] [] σ Q := cl_of (Nat.le_of_ble_eq_true rfl) rfl σ Q
theorem r_32_0 (ls : a_LS) (st : List Value) (σ : a_HP) (Q : Option Value → a_HP → Prop) : Rn 32 0 ls st σ Q = acR 32 (o_lda 0 1 ls st σ) ls σ Q := rn_row rfl ls st σ Q
theorem r_32_1 (ls : a_LS) (st : List Value) (σ : a_HP) (Q : Option Value → a_HP → Prop) : Rn 32 1 ls st σ Q = acR 32 (o_get 5 0 4 ls st σ) ls σ Q := rn_row rfl ls st σ Q
theorem r_32_4 (ls : a_LS) (st : List Value) (σ : a_HP) (Q : Option Value → a_HP → Prop) : Rn 32 4 ls st σ Q = acR 32 (o_pi (nI 6) 6 ls st σ) ls σ Q := rn_row rfl ls st σ Q
theorem r_32_6 (ls : a_LS) (st : List Value) (σ : a_HP) (Q : Option Value → a_HP → Prop) : Rn 32 6 ls st σ Q = acR 32 (o_clt 10 9 ls st σ) ls σ Q := rn_row rfl ls st σ Q
theorem r_32_9 (ls : a_LS) (st : List Value) (σ : a_HP) (Q : Option Value → a_HP → Prop) : Rn 32 9 ls st σ Q = acR 32 (o_rv ls st σ) ls σ Q := rn_row rfl ls st σ Q
theorem r_32_10 (ls : a_LS) (st : List Value) (σ : a_HP) (Q : Option Value → a_HP → Prop) : Rn 32 10 ls st σ Q = acR 32 (o_lda 0 11 ls st σ) ls σ Q := rn_row rfl ls st σ Q
theorem r_32_11 (ls : a_LS) (st : List Value) (σ : a_HP) (Q : Option Value → a_HP → Prop) : Rn 32 11 ls st σ Q = acR 32 (o_get 5 1 14 ls st σ) ls σ Q := rn_row rfl ls st σ Q
theorem r_32_14 (ls : a_LS) (st : List Value) (σ : a_HP) (Q : Option Value → a_HP → Prop) : Rn 32 14 ls st σ Q = acR 32 (o_lda 0 15 ls st σ) ls σ Q := rn_row rfl ls st σ Q
theorem r_32_15 (ls : a_LS) (st : List Value) (σ : a_HP) (Q : Option Value → a_HP → Prop) : Rn 32 15 ls st σ Q = acR 32 (o_get 5 0 18 ls st σ) ls σ Q := rn_row rfl ls st σ Q
theorem r_32_18 (ls : a_LS) (st : List Value) (σ : a_HP) (Q : Option Value → a_HP → Prop) : Rn 32 18 ls st σ Q = acR 32 (o_ldi 1 19 ls st σ) ls σ Q := rn_row rfl ls st σ Q
theorem r_32_19 (ls : a_LS) (st : List Value) (σ : a_HP) (Q : Option Value → a_HP → Prop) : Rn 32 19 ls st σ Q = acR 32 (o_ias 20 ls st σ) ls σ Q := rn_row rfl ls st σ Q
theorem r_32_20 (ls : a_LS) (st : List Value) (σ : a_HP) (Q : Option Value → a_HP → Prop) : Rn 32 20 ls st σ Q = acR 32 (o_lda 0 21 ls st σ) ls σ Q := rn_row rfl ls st σ Q
theorem r_32_21 (ls : a_LS) (st : List Value) (σ : a_HP) (Q : Option Value → a_HP → Prop) : Rn 32 21 ls st σ Q = acR 32 (o_get 5 2 24 ls st σ) ls σ Q := rn_row rfl ls st σ Q
theorem r_32_24 (ls : a_LS) (st : List Value) (σ : a_HP) (Q : Option Value → a_HP → Prop) : Rn 32 24 ls st σ Q = acR 32 (o_lda 0 25 ls st σ) ls σ Q := rn_row rfl ls st σ Q
theorem r_32_25 (ls : a_LS) (st : List Value) (σ : a_HP) (Q : Option Value → a_HP → Prop) : Rn 32 25 ls st σ Q = acR 32 (o_get 5 0 28 ls st σ) ls σ Q := rn_row rfl ls st σ Q
theorem r_32_28 (ls : a_LS) (st : List Value) (σ : a_HP) (Q : Option Value → a_HP → Prop) : Rn 32 28 ls st σ Q = acR 32 (o_ldi 2 29 ls st σ) ls σ Q := rn_row rfl ls st σ Q
theorem r_32_29 (ls : a_LS) (st : List Value) (σ : a_HP) (Q : Option Value → a_HP → Prop) : Rn 32 29 ls st σ Q = acR 32 (o_ias 30 ls st σ) ls σ Q := rn_row rfl ls st σ Q
theorem r_32_30 (ls : a_LS) (st : List Value) (σ : a_HP) (Q : Option Value → a_HP → Prop) : Rn 32 30 ls st σ Q = acR 32 (o_lda 0 31 ls st σ) ls σ Q := rn_row rfl ls st σ Q
theorem r_32_31 (ls : a_LS) (st : List Value) (σ : a_HP) (Q : Option Value → a_HP → Prop) : Rn 32 31 ls st σ Q = acR 32 (o_get 5 3 34 ls st σ) ls σ Q := rn_row rfl ls st σ Q
theorem r_32_34 (ls : a_LS) (st : List Value) (σ : a_HP) (Q : Option Value → a_HP → Prop) : Rn 32 34 ls st σ Q = acR 32 (o_lda 0 35 ls st σ) ls σ Q := rn_row rfl ls st σ Q
theorem r_32_35 (ls : a_LS) (st : List Value) (σ : a_HP) (Q : Option Value → a_HP → Prop) : Rn 32 35 ls st σ Q = acR 32 (o_get 5 0 38 ls st σ) ls σ Q := rn_row rfl ls st σ Q
theorem r_32_38 (ls : a_LS) (st : List Value) (σ : a_HP) (Q : Option Value → a_HP → Prop) : Rn 32 38 ls st σ Q = acR 32 (o_ldi 3 39 ls st σ) ls σ Q := rn_row rfl ls st σ Q
theorem r_32_39 (ls : a_LS) (st : List Value) (σ : a_HP) (Q : Option Value → a_HP → Prop) : Rn 32 39 ls st σ Q = acR 32 (o_ias 40 ls st σ) ls σ Q := rn_row rfl ls st σ Q
theorem r_32_40 (ls : a_LS) (st : List Value) (σ : a_HP) (Q : Option Value → a_HP → Prop) : Rn 32 40 ls st σ Q = acR 32 (o_lda 0 41 ls st σ) ls σ Q := rn_row rfl ls st σ Q
theorem r_32_41 (ls : a_LS) (st : List Value) (σ : a_HP) (Q : Option Value → a_HP → Prop) : Rn 32 41 ls st σ Q = acR 32 (o_dup 42 ls st σ) ls σ Q := rn_row rfl ls st σ Q
theorem r_32_42 (ls : a_LS) (st : List Value) (σ : a_HP) (Q : Option Value → a_HP → Prop) : Rn 32 42 ls st σ Q = acR 32 (o_get 5 0 45 ls st σ) ls σ Q := rn_row rfl ls st σ Q
theorem r_32_45 (ls : a_LS) (st : List Value) (σ : a_HP) (Q : Option Value → a_HP → Prop) : Rn 32 45 ls st σ Q = acR 32 (o_pi (nI 1) 46 ls st σ) ls σ Q := rn_row rfl ls st σ Q
theorem r_32_46 (ls : a_LS) (st : List Value) (σ : a_HP) (Q : Option Value → a_HP → Prop) : Rn 32 46 ls st σ Q = acR 32 (o_bi f_add 47 ls st σ) ls σ Q := rn_row rfl ls st σ Q
theorem r_32_47 (ls : a_LS) (st : List Value) (σ : a_HP) (Q : Option Value → a_HP → Prop) : Rn 32 47 ls st σ Q = acR 32 (o_put 5 0 50 ls st σ) ls σ Q := rn_row rfl ls st σ Q
theorem r_32_50 (ls : a_LS) (st : List Value) (σ : a_HP) (Q : Option Value → a_HP → Prop) : Rn 32 50 ls st σ Q = acR 32 (o_rv ls st σ) ls σ Q := rn_row rfl ls st σ Q
/-! 33: NetLaw$Readings.takeFrom(LNetLaw$Readings;)V -/
theorem cl_33 (x0 : Nat) (x1 : Nat) (σ : a_HP) (Q : Option Value → a_HP → Prop) : Cl 33 [.ref x0, .ref x1] σ Q = Rn 33 0 [some (.ref x0), some (.ref x1)] [] σ Q := cl_of (Nat.le_of_ble_eq_true rfl) rfl σ Q
theorem r_33_0 (ls : a_LS) (st : List Value) (σ : a_HP) (Q : Option Value → a_HP → Prop) : Rn 33 0 ls st σ Q = acR 33 (o_lda 0 1 ls st σ) ls σ Q := rn_row rfl ls st σ Q
theorem r_33_1 (ls : a_LS) (st : List Value) (σ : a_HP) (Q : Option Value → a_HP → Prop) : Rn 33 1 ls st σ Q = acR 33 (o_lda 1 2 ls st σ) ls σ Q := rn_row rfl ls st σ Q
theorem r_33_2 (ls : a_LS) (st : List Value) (σ : a_HP) (Q : Option Value → a_HP → Prop) : Rn 33 2 ls st σ Q = acR 33 (o_get 5 0 5 ls st σ) ls σ Q := rn_row rfl ls st σ Q
theorem r_33_5 (ls : a_LS) (st : List Value) (σ : a_HP) (Q : Option Value → a_HP → Prop) : Rn 33 5 ls st σ Q = acR 33 (o_put 5 0 8 ls st σ) ls σ Q := rn_row rfl ls st σ Q
theorem r_33_8 (ls : a_LS) (st : List Value) (σ : a_HP) (Q : Option Value → a_HP → Prop) : Rn 33 8 ls st σ Q = acR 33 (o_lda 1 9 ls st σ) ls σ Q := rn_row rfl ls st σ Q
theorem r_33_9 (ls : a_LS) (st : List Value) (σ : a_HP) (Q : Option Value → a_HP → Prop) : Rn 33 9 ls st σ Q = acR 33 (o_get 5 1 12 ls st σ) ls σ Q := rn_row rfl ls st σ Q
theorem r_33_12 (ls : a_LS) (st : List Value) (σ : a_HP) (Q : Option Value → a_HP → Prop) : Rn 33 12 ls st σ Q = acR 33 (o_pi (nI 0) 13 ls st σ) ls σ Q := rn_row rfl ls st σ Q
theorem r_33_13 (ls : a_LS) (st : List Value) (σ : a_HP) (Q : Option Value → a_HP → Prop) : Rn 33 13 ls st σ Q = acR 33 (o_lda 0 14 ls st σ) ls σ Q := rn_row rfl ls st σ Q
theorem r_33_14 (ls : a_LS) (st : List Value) (σ : a_HP) (Q : Option Value → a_HP → Prop) : Rn 33 14 ls st σ Q = acR 33 (o_get 5 1 17 ls st σ) ls σ Q := rn_row rfl ls st σ Q
theorem r_33_17 (ls : a_LS) (st : List Value) (σ : a_HP) (Q : Option Value → a_HP → Prop) : Rn 33 17 ls st σ Q = acR 33 (o_pi (nI 0) 18 ls st σ) ls σ Q := rn_row rfl ls st σ Q
theorem r_33_18 (ls : a_LS) (st : List Value) (σ : a_HP) (Q : Option Value → a_HP → Prop) : Rn 33 18 ls st σ Q = acR 33 (o_lda 0 19 ls st σ) ls σ Q := rn_row rfl ls st σ Q
theorem r_33_19 (ls : a_LS) (st : List Value) (σ : a_HP) (Q : Option Value → a_HP → Prop) : Rn 33 19 ls st σ Q = acR 33 (o_get 5 0 22 ls st σ) ls σ Q := rn_row rfl ls st σ Q
theorem r_33_22 (ls : a_LS) (st : List Value) (σ : a_HP) (Q : Option Value → a_HP → Prop) : Rn 33 22 ls st σ Q = acR 33 (o_cpy 25 ls st σ) ls σ Q := rn_row rfl ls st σ Q
theorem r_33_25 (ls : a_LS) (st : List Value) (σ : a_HP) (Q : Option Value → a_HP → Prop) : Rn 33 25 ls st σ Q = acR 33 (o_lda 1 26 ls st σ) ls σ Q := rn_row rfl ls st σ Q
theorem r_33_26 (ls : a_LS) (st : List Value) (σ : a_HP) (Q : Option Value → a_HP → Prop) : Rn 33 26 ls st σ Q = acR 33 (o_get 5 2 29 ls st σ) ls σ Q := rn_row rfl ls st σ Q
theorem r_33_29 (ls : a_LS) (st : List Value) (σ : a_HP) (Q : Option Value → a_HP → Prop) : Rn 33 29 ls st σ Q = acR 33 (o_pi (nI 0) 30 ls st σ) ls σ Q := rn_row rfl ls st σ Q
theorem r_33_30 (ls : a_LS) (st : List Value) (σ : a_HP) (Q : Option Value → a_HP → Prop) : Rn 33 30 ls st σ Q = acR 33 (o_lda 0 31 ls st σ) ls σ Q := rn_row rfl ls st σ Q
theorem r_33_31 (ls : a_LS) (st : List Value) (σ : a_HP) (Q : Option Value → a_HP → Prop) : Rn 33 31 ls st σ Q = acR 33 (o_get 5 2 34 ls st σ) ls σ Q := rn_row rfl ls st σ Q
theorem r_33_34 (ls : a_LS) (st : List Value) (σ : a_HP) (Q : Option Value → a_HP → Prop) : Rn 33 34 ls st σ Q = acR 33 (o_pi (nI 0) 35 ls st σ) ls σ Q := rn_row rfl ls st σ Q
theorem r_33_35 (ls : a_LS) (st : List Value) (σ : a_HP) (Q : Option Value → a_HP → Prop) : Rn 33 35 ls st σ Q = acR 33 (o_lda 0 36 ls st σ) ls σ Q := rn_row rfl ls st σ Q
theorem r_33_36 (ls : a_LS) (st : List Value) (σ : a_HP) (Q : Option Value → a_HP → Prop) : Rn 33 36 ls st σ Q = acR 33 (o_get 5 0 39 ls st σ) ls σ Q := rn_row rfl ls st σ Q
theorem r_33_39 (ls : a_LS) (st : List Value) (σ : a_HP) (Q : Option Value → a_HP → Prop) : Rn 33 39 ls st σ Q = acR 33 (o_cpy 42 ls st σ) ls σ Q := rn_row rfl ls st σ Q
theorem r_33_42 (ls : a_LS) (st : List Value) (σ : a_HP) (Q : Option Value → a_HP → Prop) : Rn 33 42 ls st σ Q = acR 33 (o_lda 1 43 ls st σ) ls σ Q := rn_row rfl ls st σ Q
theorem r_33_43 (ls : a_LS) (st : List Value) (σ : a_HP) (Q : Option Value → a_HP → Prop) : Rn 33 43 ls st σ Q = acR 33 (o_get 5 3 46 ls st σ) ls σ Q := rn_row rfl ls st σ Q
theorem r_33_46 (ls : a_LS) (st : List Value) (σ : a_HP) (Q : Option Value → a_HP → Prop) : Rn 33 46 ls st σ Q = acR 33 (o_pi (nI 0) 47 ls st σ) ls σ Q := rn_row rfl ls st σ Q
theorem r_33_47 (ls : a_LS) (st : List Value) (σ : a_HP) (Q : Option Value → a_HP → Prop) : Rn 33 47 ls st σ Q = acR 33 (o_lda 0 48 ls st σ) ls σ Q := rn_row rfl ls st σ Q
theorem r_33_48 (ls : a_LS) (st : List Value) (σ : a_HP) (Q : Option Value → a_HP → Prop) : Rn 33 48 ls st σ Q = acR 33 (o_get 5 3 51 ls st σ) ls σ Q := rn_row rfl ls st σ Q
theorem r_33_51 (ls : a_LS) (st : List Value) (σ : a_HP) (Q : Option Value → a_HP → Prop) : Rn 33 51 ls st σ Q = acR 33 (o_pi (nI 0) 52 ls st σ) ls σ Q := rn_row rfl ls st σ Q
theorem r_33_52 (ls : a_LS) (st : List Value) (σ : a_HP) (Q : Option Value → a_HP → Prop) : Rn 33 52 ls st σ Q = acR 33 (o_lda 0 53 ls st σ) ls σ Q := rn_row rfl ls st σ Q
theorem r_33_53 (ls : a_LS) (st : List Value) (σ : a_HP) (Q : Option Value → a_HP → Prop) : Rn 33 53 ls st σ Q = acR 33 (o_get 5 0 56 ls st σ) ls σ Q := rn_row rfl ls st σ Q
theorem r_33_56 (ls : a_LS) (st : List Value) (σ : a_HP) (Q : Option Value → a_HP → Prop) : Rn 33 56 ls st σ Q = acR 33 (o_cpy 59 ls st σ) ls σ Q := rn_row rfl ls st σ Q
theorem r_33_59 (ls : a_LS) (st : List Value) (σ : a_HP) (Q : Option Value → a_HP → Prop) : Rn 33 59 ls st σ Q = acR 33 (o_rv ls st σ) ls σ Q := rn_row rfl ls st σ Q
/-! 34: NetLaw$Readings.fittingKinds()I -/
theorem cl_34 (x0 : Nat) (σ : a_HP) (Q : Option Value → a_HP → Prop) : Cl 34 [.ref x0] σ Q = Rn 34 0 [some (.ref x0), none, none] [] σ Q := cl_of (Nat.le_of_ble_eq_true rfl) rfl σ Q
theorem r_34_0 (ls : a_LS) (st : List Value) (σ : a_HP) (Q : Option Value → a_HP → Prop) : Rn 34 0 ls st σ Q = acR 34 (o_pi (nI 0) 1 ls st σ) ls σ Q := rn_row rfl ls st σ Q
theorem r_34_1 (ls : a_LS) (st : List Value) (σ : a_HP) (Q : Option Value → a_HP → Prop) : Rn 34 1 ls st σ Q = acR 34 (o_sti 1 2 ls st σ) ls σ Q := rn_row rfl ls st σ Q
theorem r_34_2 (ls : a_LS) (st : List Value) (σ : a_HP) (Q : Option Value → a_HP → Prop) : Rn 34 2 ls st σ Q = acR 34 (o_pi (nI 0) 3 ls st σ) ls σ Q := rn_row rfl ls st σ Q
theorem r_34_3 (ls : a_LS) (st : List Value) (σ : a_HP) (Q : Option Value → a_HP → Prop) : Rn 34 3 ls st σ Q = acR 34 (o_sti 2 4 ls st σ) ls σ Q := rn_row rfl ls st σ Q
theorem r_34_4 (ls : a_LS) (st : List Value) (σ : a_HP) (Q : Option Value → a_HP → Prop) : Rn 34 4 ls st σ Q = acR 34 (o_ldi 2 5 ls st σ) ls σ Q := rn_row rfl ls st σ Q
theorem r_34_5 (ls : a_LS) (st : List Value) (σ : a_HP) (Q : Option Value → a_HP → Prop) : Rn 34 5 ls st σ Q = acR 34 (o_pi (nI 6) 7 ls st σ) ls σ Q := rn_row rfl ls st σ Q
theorem r_34_7 (ls : a_LS) (st : List Value) (σ : a_HP) (Q : Option Value → a_HP → Prop) : Rn 34 7 ls st σ Q = acR 34 (o_cge 30 10 ls st σ) ls σ Q := rn_row rfl ls st σ Q
theorem r_34_10 (ls : a_LS) (st : List Value) (σ : a_HP) (Q : Option Value → a_HP → Prop) : Rn 34 10 ls st σ Q = acR 34 (o_lda 0 11 ls st σ) ls σ Q := rn_row rfl ls st σ Q
theorem r_34_11 (ls : a_LS) (st : List Value) (σ : a_HP) (Q : Option Value → a_HP → Prop) : Rn 34 11 ls st σ Q = acR 34 (o_ldi 2 12 ls st σ) ls σ Q := rn_row rfl ls st σ Q
theorem r_34_12 (ls : a_LS) (st : List Value) (σ : a_HP) (Q : Option Value → a_HP → Prop) : Rn 34 12 ls st σ Q = acR 34 (o_ivv 5 35 1 15 ls st σ) ls σ Q := rn_row rfl ls st σ Q
theorem r_34_15 (ls : a_LS) (st : List Value) (σ : a_HP) (Q : Option Value → a_HP → Prop) : Rn 34 15 ls st σ Q = acR 34 (o_eq 24 18 ls st σ) ls σ Q := rn_row rfl ls st σ Q
theorem r_34_18 (ls : a_LS) (st : List Value) (σ : a_HP) (Q : Option Value → a_HP → Prop) : Rn 34 18 ls st σ Q = acR 34 (o_ldi 1 19 ls st σ) ls σ Q := rn_row rfl ls st σ Q
theorem r_34_19 (ls : a_LS) (st : List Value) (σ : a_HP) (Q : Option Value → a_HP → Prop) : Rn 34 19 ls st σ Q = acR 34 (o_pi (nI 1) 20 ls st σ) ls σ Q := rn_row rfl ls st σ Q
theorem r_34_20 (ls : a_LS) (st : List Value) (σ : a_HP) (Q : Option Value → a_HP → Prop) : Rn 34 20 ls st σ Q = acR 34 (o_ldi 2 21 ls st σ) ls σ Q := rn_row rfl ls st σ Q
theorem r_34_21 (ls : a_LS) (st : List Value) (σ : a_HP) (Q : Option Value → a_HP → Prop) : Rn 34 21 ls st σ Q = acR 34 (o_bi f_shl 22 ls st σ) ls σ Q := rn_row rfl ls st σ Q
theorem r_34_22 (ls : a_LS) (st : List Value) (σ : a_HP) (Q : Option Value → a_HP → Prop) : Rn 34 22 ls st σ Q = acR 34 (o_bi f_or 23 ls st σ) ls σ Q := rn_row rfl ls st σ Q
theorem r_34_23 (ls : a_LS) (st : List Value) (σ : a_HP) (Q : Option Value → a_HP → Prop) : Rn 34 23 ls st σ Q = acR 34 (o_sti 1 24 ls st σ) ls σ Q := rn_row rfl ls st σ Q
theorem r_34_24 (ls : a_LS) (st : List Value) (σ : a_HP) (Q : Option Value → a_HP → Prop) : Rn 34 24 ls st σ Q = acR 34 (o_inc 2 (nI 1) 27 ls st σ) ls σ Q := rn_row rfl ls st σ Q
theorem r_34_27 (ls : a_LS) (st : List Value) (σ : a_HP) (Q : Option Value → a_HP → Prop) : Rn 34 27 ls st σ Q = acR 34 (o_go 4 ls st σ) ls σ Q := rn_row rfl ls st σ Q
theorem r_34_30 (ls : a_LS) (st : List Value) (σ : a_HP) (Q : Option Value → a_HP → Prop) : Rn 34 30 ls st σ Q = acR 34 (o_ldi 1 31 ls st σ) ls σ Q := rn_row rfl ls st σ Q
theorem r_34_31 (ls : a_LS) (st : List Value) (σ : a_HP) (Q : Option Value → a_HP → Prop) : Rn 34 31 ls st σ Q = acR 34 (o_ri ls st σ) ls σ Q := rn_row rfl ls st σ Q
/-! 35: NetLaw$Readings.fitsAll(I)Z -/
theorem cl_35 (x0 : Nat) (x1 : Int32) (σ : a_HP) (Q : Option Value → a_HP → Prop) : Cl 35 [.ref x0, .int x1] σ Q = Rn 35 0 [some (.ref x0), some (.int x1), none] [] σ Q := cl_of (Nat.le_of_ble_eq_true rfl) rfl σ Q
theorem r_35_0 (ls : a_LS) (st : List Value) (σ : a_HP) (Q : Option Value → a_HP → Prop) : Rn 35 0 ls st σ Q = acR 35 (o_pi (nI 0) 1 ls st σ) ls σ Q := rn_row rfl ls st σ Q
theorem r_35_1 (ls : a_LS) (st : List Value) (σ : a_HP) (Q : Option Value → a_HP → Prop) : Rn 35 1 ls st σ Q = acR 35 (o_sti 2 2 ls st σ) ls σ Q := rn_row rfl ls st σ Q
theorem r_35_2 (ls : a_LS) (st : List Value) (σ : a_HP) (Q : Option Value → a_HP → Prop) : Rn 35 2 ls st σ Q = acR 35 (o_ldi 2 3 ls st σ) ls σ Q := rn_row rfl ls st σ Q
theorem r_35_3 (ls : a_LS) (st : List Value) (σ : a_HP) (Q : Option Value → a_HP → Prop) : Rn 35 3 ls st σ Q = acR 35 (o_lda 0 4 ls st σ) ls σ Q := rn_row rfl ls st σ Q
theorem r_35_4 (ls : a_LS) (st : List Value) (σ : a_HP) (Q : Option Value → a_HP → Prop) : Rn 35 4 ls st σ Q = acR 35 (o_get 5 0 7 ls st σ) ls σ Q := rn_row rfl ls st σ Q
theorem r_35_7 (ls : a_LS) (st : List Value) (σ : a_HP) (Q : Option Value → a_HP → Prop) : Rn 35 7 ls st σ Q = acR 35 (o_cge 44 10 ls st σ) ls σ Q := rn_row rfl ls st σ Q
theorem r_35_10 (ls : a_LS) (st : List Value) (σ : a_HP) (Q : Option Value → a_HP → Prop) : Rn 35 10 ls st σ Q = acR 35 (o_ldi 1 11 ls st σ) ls σ Q := rn_row rfl ls st σ Q
theorem r_35_11 (ls : a_LS) (st : List Value) (σ : a_HP) (Q : Option Value → a_HP → Prop) : Rn 35 11 ls st σ Q = acR 35 (o_lda 0 12 ls st σ) ls σ Q := rn_row rfl ls st σ Q
theorem r_35_12 (ls : a_LS) (st : List Value) (σ : a_HP) (Q : Option Value → a_HP → Prop) : Rn 35 12 ls st σ Q = acR 35 (o_get 5 1 15 ls st σ) ls σ Q := rn_row rfl ls st σ Q
theorem r_35_15 (ls : a_LS) (st : List Value) (σ : a_HP) (Q : Option Value → a_HP → Prop) : Rn 35 15 ls st σ Q = acR 35 (o_ldi 2 16 ls st σ) ls σ Q := rn_row rfl ls st σ Q
theorem r_35_16 (ls : a_LS) (st : List Value) (σ : a_HP) (Q : Option Value → a_HP → Prop) : Rn 35 16 ls st σ Q = acR 35 (o_ial 17 ls st σ) ls σ Q := rn_row rfl ls st σ Q
theorem r_35_17 (ls : a_LS) (st : List Value) (σ : a_HP) (Q : Option Value → a_HP → Prop) : Rn 35 17 ls st σ Q = acR 35 (o_lda 0 18 ls st σ) ls σ Q := rn_row rfl ls st σ Q
theorem r_35_18 (ls : a_LS) (st : List Value) (σ : a_HP) (Q : Option Value → a_HP → Prop) : Rn 35 18 ls st σ Q = acR 35 (o_get 5 2 21 ls st σ) ls σ Q := rn_row rfl ls st σ Q
theorem r_35_21 (ls : a_LS) (st : List Value) (σ : a_HP) (Q : Option Value → a_HP → Prop) : Rn 35 21 ls st σ Q = acR 35 (o_ldi 2 22 ls st σ) ls σ Q := rn_row rfl ls st σ Q
theorem r_35_22 (ls : a_LS) (st : List Value) (σ : a_HP) (Q : Option Value → a_HP → Prop) : Rn 35 22 ls st σ Q = acR 35 (o_ial 23 ls st σ) ls σ Q := rn_row rfl ls st σ Q
theorem r_35_23 (ls : a_LS) (st : List Value) (σ : a_HP) (Q : Option Value → a_HP → Prop) : Rn 35 23 ls st σ Q = acR 35 (o_pi (nI 0) 24 ls st σ) ls σ Q := rn_row rfl ls st σ Q
theorem r_35_24 (ls : a_LS) (st : List Value) (σ : a_HP) (Q : Option Value → a_HP → Prop) : Rn 35 24 ls st σ Q = acR 35 (o_ivs 120 4 27 ls st σ) ls σ Q := rn_row rfl ls st σ Q
theorem r_35_27 (ls : a_LS) (st : List Value) (σ : a_HP) (Q : Option Value → a_HP → Prop) : Rn 35 27 ls st σ Q = acR 35 (o_lda 0 28 ls st σ) ls σ Q := rn_row rfl ls st σ Q
theorem r_35_28 (ls : a_LS) (st : List Value) (σ : a_HP) (Q : Option Value → a_HP → Prop) : Rn 35 28 ls st σ Q = acR 35 (o_get 5 3 31 ls st σ) ls σ Q := rn_row rfl ls st σ Q
theorem r_35_31 (ls : a_LS) (st : List Value) (σ : a_HP) (Q : Option Value → a_HP → Prop) : Rn 35 31 ls st σ Q = acR 35 (o_ldi 2 32 ls st σ) ls σ Q := rn_row rfl ls st σ Q
theorem r_35_32 (ls : a_LS) (st : List Value) (σ : a_HP) (Q : Option Value → a_HP → Prop) : Rn 35 32 ls st σ Q = acR 35 (o_ial 33 ls st σ) ls σ Q := rn_row rfl ls st σ Q
theorem r_35_33 (ls : a_LS) (st : List Value) (σ : a_HP) (Q : Option Value → a_HP → Prop) : Rn 35 33 ls st σ Q = acR 35 (o_ceq 38 36 ls st σ) ls σ Q := rn_row rfl ls st σ Q
theorem r_35_36 (ls : a_LS) (st : List Value) (σ : a_HP) (Q : Option Value → a_HP → Prop) : Rn 35 36 ls st σ Q = acR 35 (o_pi (nI 0) 37 ls st σ) ls σ Q := rn_row rfl ls st σ Q
theorem r_35_37 (ls : a_LS) (st : List Value) (σ : a_HP) (Q : Option Value → a_HP → Prop) : Rn 35 37 ls st σ Q = acR 35 (o_rz ls st σ) ls σ Q := rn_row rfl ls st σ Q
theorem r_35_38 (ls : a_LS) (st : List Value) (σ : a_HP) (Q : Option Value → a_HP → Prop) : Rn 35 38 ls st σ Q = acR 35 (o_inc 2 (nI 1) 41 ls st σ) ls σ Q := rn_row rfl ls st σ Q
theorem r_35_41 (ls : a_LS) (st : List Value) (σ : a_HP) (Q : Option Value → a_HP → Prop) : Rn 35 41 ls st σ Q = acR 35 (o_go 2 ls st σ) ls σ Q := rn_row rfl ls st σ Q
theorem r_35_44 (ls : a_LS) (st : List Value) (σ : a_HP) (Q : Option Value → a_HP → Prop) : Rn 35 44 ls st σ Q = acR 35 (o_pi (nI 1) 45 ls st σ) ls σ Q := rn_row rfl ls st σ Q
theorem r_35_45 (ls : a_LS) (st : List Value) (σ : a_HP) (Q : Option Value → a_HP → Prop) : Rn 35 45 ls st σ Q = acR 35 (o_rz ls st σ) ls σ Q := rn_row rfl ls st σ Q
/-! 36: NetLaw$Readings.bestTry()I -/
theorem cl_36 (x0 : Nat) (σ : a_HP) (Q : Option Value → a_HP → Prop) : Cl 36 [.ref x0] σ Q = Rn 36 0 [some (.ref x0), none, none, none, none, none, none] [] σ Q := cl_of (Nat.le_of_ble_eq_true rfl) rfl σ Q
theorem r_36_0 (ls : a_LS) (st : List Value) (σ : a_HP) (Q : Option Value → a_HP → Prop) : Rn 36 0 ls st σ Q = acR 36 (o_lda 0 1 ls st σ) ls σ Q := rn_row rfl ls st σ Q
theorem r_36_1 (ls : a_LS) (st : List Value) (σ : a_HP) (Q : Option Value → a_HP → Prop) : Rn 36 1 ls st σ Q = acR 36 (o_ivv 5 34 0 4 ls st σ) ls σ Q := rn_row rfl ls st σ Q
theorem r_36_4 (ls : a_LS) (st : List Value) (σ : a_HP) (Q : Option Value → a_HP → Prop) : Rn 36 4 ls st σ Q = acR 36 (o_sti 1 5 ls st σ) ls σ Q := rn_row rfl ls st σ Q
theorem r_36_5 (ls : a_LS) (st : List Value) (σ : a_HP) (Q : Option Value → a_HP → Prop) : Rn 36 5 ls st σ Q = acR 36 (o_ldi 1 6 ls st σ) ls σ Q := rn_row rfl ls st σ Q
theorem r_36_6 (ls : a_LS) (st : List Value) (σ : a_HP) (Q : Option Value → a_HP → Prop) : Rn 36 6 ls st σ Q = acR 36 (o_ne 11 9 ls st σ) ls σ Q := rn_row rfl ls st σ Q
theorem r_36_9 (ls : a_LS) (st : List Value) (σ : a_HP) (Q : Option Value → a_HP → Prop) : Rn 36 9 ls st σ Q = acR 36 (o_pi (-1) 10 ls st σ) ls σ Q := rn_row rfl ls st σ Q
theorem r_36_10 (ls : a_LS) (st : List Value) (σ : a_HP) (Q : Option Value → a_HP → Prop) : Rn 36 10 ls st σ Q = acR 36 (o_ri ls st σ) ls σ Q := rn_row rfl ls st σ Q
theorem r_36_11 (ls : a_LS) (st : List Value) (σ : a_HP) (Q : Option Value → a_HP → Prop) : Rn 36 11 ls st σ Q = acR 36 (o_pi (-1) 12 ls st σ) ls σ Q := rn_row rfl ls st σ Q
theorem r_36_12 (ls : a_LS) (st : List Value) (σ : a_HP) (Q : Option Value → a_HP → Prop) : Rn 36 12 ls st σ Q = acR 36 (o_sti 2 13 ls st σ) ls σ Q := rn_row rfl ls st σ Q
theorem r_36_13 (ls : a_LS) (st : List Value) (σ : a_HP) (Q : Option Value → a_HP → Prop) : Rn 36 13 ls st σ Q = acR 36 (o_pi (nI 7) 15 ls st σ) ls σ Q := rn_row rfl ls st σ Q
theorem r_36_15 (ls : a_LS) (st : List Value) (σ : a_HP) (Q : Option Value → a_HP → Prop) : Rn 36 15 ls st σ Q = acR 36 (o_sti 3 16 ls st σ) ls σ Q := rn_row rfl ls st σ Q
theorem r_36_16 (ls : a_LS) (st : List Value) (σ : a_HP) (Q : Option Value → a_HP → Prop) : Rn 36 16 ls st σ Q = acR 36 (o_pi (nI 0) 17 ls st σ) ls σ Q := rn_row rfl ls st σ Q
theorem r_36_17 (ls : a_LS) (st : List Value) (σ : a_HP) (Q : Option Value → a_HP → Prop) : Rn 36 17 ls st σ Q = acR 36 (o_sti 4 19 ls st σ) ls σ Q := rn_row rfl ls st σ Q
theorem r_36_19 (ls : a_LS) (st : List Value) (σ : a_HP) (Q : Option Value → a_HP → Prop) : Rn 36 19 ls st σ Q = acR 36 (o_ldi 4 21 ls st σ) ls σ Q := rn_row rfl ls st σ Q
theorem r_36_21 (ls : a_LS) (st : List Value) (σ : a_HP) (Q : Option Value → a_HP → Prop) : Rn 36 21 ls st σ Q = acR 36 (o_pi (nI 1) 22 ls st σ) ls σ Q := rn_row rfl ls st σ Q
theorem r_36_22 (ls : a_LS) (st : List Value) (σ : a_HP) (Q : Option Value → a_HP → Prop) : Rn 36 22 ls st σ Q = acR 36 (o_cgt 75 25 ls st σ) ls σ Q := rn_row rfl ls st σ Q
theorem r_36_25 (ls : a_LS) (st : List Value) (σ : a_HP) (Q : Option Value → a_HP → Prop) : Rn 36 25 ls st σ Q = acR 36 (o_pi (nI 1) 26 ls st σ) ls σ Q := rn_row rfl ls st σ Q
theorem r_36_26 (ls : a_LS) (st : List Value) (σ : a_HP) (Q : Option Value → a_HP → Prop) : Rn 36 26 ls st σ Q = acR 36 (o_sti 5 28 ls st σ) ls σ Q := rn_row rfl ls st σ Q
theorem r_36_28 (ls : a_LS) (st : List Value) (σ : a_HP) (Q : Option Value → a_HP → Prop) : Rn 36 28 ls st σ Q = acR 36 (o_ldi 5 30 ls st σ) ls σ Q := rn_row rfl ls st σ Q
theorem r_36_30 (ls : a_LS) (st : List Value) (σ : a_HP) (Q : Option Value → a_HP → Prop) : Rn 36 30 ls st σ Q = acR 36 (o_pi (nI 9) 32 ls st σ) ls σ Q := rn_row rfl ls st σ Q
theorem r_36_32 (ls : a_LS) (st : List Value) (σ : a_HP) (Q : Option Value → a_HP → Prop) : Rn 36 32 ls st σ Q = acR 36 (o_cgt 69 35 ls st σ) ls σ Q := rn_row rfl ls st σ Q
theorem r_36_35 (ls : a_LS) (st : List Value) (σ : a_HP) (Q : Option Value → a_HP → Prop) : Rn 36 35 ls st σ Q = acR 36 (o_ldi 1 36 ls st σ) ls σ Q := rn_row rfl ls st σ Q
theorem r_36_36 (ls : a_LS) (st : List Value) (σ : a_HP) (Q : Option Value → a_HP → Prop) : Rn 36 36 ls st σ Q = acR 36 (o_ldi 5 38 ls st σ) ls σ Q := rn_row rfl ls st σ Q
theorem r_36_38 (ls : a_LS) (st : List Value) (σ : a_HP) (Q : Option Value → a_HP → Prop) : Rn 36 38 ls st σ Q = acR 36 (o_ldi 4 40 ls st σ) ls σ Q := rn_row rfl ls st σ Q
theorem r_36_40 (ls : a_LS) (st : List Value) (σ : a_HP) (Q : Option Value → a_HP → Prop) : Rn 36 40 ls st σ Q = acR 36 (o_ivs 37 3 43 ls st σ) ls σ Q := rn_row rfl ls st σ Q
theorem r_36_43 (ls : a_LS) (st : List Value) (σ : a_HP) (Q : Option Value → a_HP → Prop) : Rn 36 43 ls st σ Q = acR 36 (o_sti 6 45 ls st σ) ls σ Q := rn_row rfl ls st σ Q
theorem r_36_45 (ls : a_LS) (st : List Value) (σ : a_HP) (Q : Option Value → a_HP → Prop) : Rn 36 45 ls st σ Q = acR 36 (o_ldi 6 47 ls st σ) ls σ Q := rn_row rfl ls st σ Q
theorem r_36_47 (ls : a_LS) (st : List Value) (σ : a_HP) (Q : Option Value → a_HP → Prop) : Rn 36 47 ls st σ Q = acR 36 (o_ldi 3 48 ls st σ) ls σ Q := rn_row rfl ls st σ Q
theorem r_36_48 (ls : a_LS) (st : List Value) (σ : a_HP) (Q : Option Value → a_HP → Prop) : Rn 36 48 ls st σ Q = acR 36 (o_cge 63 51 ls st σ) ls σ Q := rn_row rfl ls st σ Q
theorem r_36_51 (ls : a_LS) (st : List Value) (σ : a_HP) (Q : Option Value → a_HP → Prop) : Rn 36 51 ls st σ Q = acR 36 (o_ldi 6 53 ls st σ) ls σ Q := rn_row rfl ls st σ Q
theorem r_36_53 (ls : a_LS) (st : List Value) (σ : a_HP) (Q : Option Value → a_HP → Prop) : Rn 36 53 ls st σ Q = acR 36 (o_sti 3 54 ls st σ) ls σ Q := rn_row rfl ls st σ Q
theorem r_36_54 (ls : a_LS) (st : List Value) (σ : a_HP) (Q : Option Value → a_HP → Prop) : Rn 36 54 ls st σ Q = acR 36 (o_pi (nI 10) 56 ls st σ) ls σ Q := rn_row rfl ls st σ Q
theorem r_36_56 (ls : a_LS) (st : List Value) (σ : a_HP) (Q : Option Value → a_HP → Prop) : Rn 36 56 ls st σ Q = acR 36 (o_ldi 4 58 ls st σ) ls σ Q := rn_row rfl ls st σ Q
theorem r_36_58 (ls : a_LS) (st : List Value) (σ : a_HP) (Q : Option Value → a_HP → Prop) : Rn 36 58 ls st σ Q = acR 36 (o_bi f_mul 59 ls st σ) ls σ Q := rn_row rfl ls st σ Q
theorem r_36_59 (ls : a_LS) (st : List Value) (σ : a_HP) (Q : Option Value → a_HP → Prop) : Rn 36 59 ls st σ Q = acR 36 (o_ldi 5 61 ls st σ) ls σ Q := rn_row rfl ls st σ Q
theorem r_36_61 (ls : a_LS) (st : List Value) (σ : a_HP) (Q : Option Value → a_HP → Prop) : Rn 36 61 ls st σ Q = acR 36 (o_bi f_add 62 ls st σ) ls σ Q := rn_row rfl ls st σ Q
theorem r_36_62 (ls : a_LS) (st : List Value) (σ : a_HP) (Q : Option Value → a_HP → Prop) : Rn 36 62 ls st σ Q = acR 36 (o_sti 2 63 ls st σ) ls σ Q := rn_row rfl ls st σ Q
theorem r_36_63 (ls : a_LS) (st : List Value) (σ : a_HP) (Q : Option Value → a_HP → Prop) : Rn 36 63 ls st σ Q = acR 36 (o_inc 5 (nI 1) 66 ls st σ) ls σ Q := rn_row rfl ls st σ Q
theorem r_36_66 (ls : a_LS) (st : List Value) (σ : a_HP) (Q : Option Value → a_HP → Prop) : Rn 36 66 ls st σ Q = acR 36 (o_go 28 ls st σ) ls σ Q := rn_row rfl ls st σ Q
theorem r_36_69 (ls : a_LS) (st : List Value) (σ : a_HP) (Q : Option Value → a_HP → Prop) : Rn 36 69 ls st σ Q = acR 36 (o_inc 4 (nI 1) 72 ls st σ) ls σ Q := rn_row rfl ls st σ Q
theorem r_36_72 (ls : a_LS) (st : List Value) (σ : a_HP) (Q : Option Value → a_HP → Prop) : Rn 36 72 ls st σ Q = acR 36 (o_go 19 ls st σ) ls σ Q := rn_row rfl ls st σ Q
theorem r_36_75 (ls : a_LS) (st : List Value) (σ : a_HP) (Q : Option Value → a_HP → Prop) : Rn 36 75 ls st σ Q = acR 36 (o_ldi 2 76 ls st σ) ls σ Q := rn_row rfl ls st σ Q
theorem r_36_76 (ls : a_LS) (st : List Value) (σ : a_HP) (Q : Option Value → a_HP → Prop) : Rn 36 76 ls st σ Q = acR 36 (o_ri ls st σ) ls σ Q := rn_row rfl ls st σ Q
/-! 37: NetLaw$Readings.mostAlike(III)I -/
theorem cl_37 (x0 : Int32) (x1 : Int32) (x2 : Int32) (σ : a_HP) (Q : Option Value → a_HP → Prop) : Cl 37 [.int x0, .int x1, .int x2] σ Q = Rn 37 0 [some (.int x0), some (.int x1), some (.int x2), none, none] [] σ Q := cl_of (Nat.le_of_ble_eq_true rfl) rfl σ Q
theorem r_37_0 (ls : a_LS) (st : List Value) (σ : a_HP) (Q : Option Value → a_HP → Prop) : Rn 37 0 ls st σ Q = acR 37 (o_pi (nI 0) 1 ls st σ) ls σ Q := rn_row rfl ls st σ Q
theorem r_37_1 (ls : a_LS) (st : List Value) (σ : a_HP) (Q : Option Value → a_HP → Prop) : Rn 37 1 ls st σ Q = acR 37 (o_sti 3 2 ls st σ) ls σ Q := rn_row rfl ls st σ Q
theorem r_37_2 (ls : a_LS) (st : List Value) (σ : a_HP) (Q : Option Value → a_HP → Prop) : Rn 37 2 ls st σ Q = acR 37 (o_pi (nI 0) 3 ls st σ) ls σ Q := rn_row rfl ls st σ Q
theorem r_37_3 (ls : a_LS) (st : List Value) (σ : a_HP) (Q : Option Value → a_HP → Prop) : Rn 37 3 ls st σ Q = acR 37 (o_sti 4 5 ls st σ) ls σ Q := rn_row rfl ls st σ Q
theorem r_37_5 (ls : a_LS) (st : List Value) (σ : a_HP) (Q : Option Value → a_HP → Prop) : Rn 37 5 ls st σ Q = acR 37 (o_ldi 4 7 ls st σ) ls σ Q := rn_row rfl ls st σ Q
theorem r_37_7 (ls : a_LS) (st : List Value) (σ : a_HP) (Q : Option Value → a_HP → Prop) : Rn 37 7 ls st σ Q = acR 37 (o_pi (nI 6) 9 ls st σ) ls σ Q := rn_row rfl ls st σ Q
theorem r_37_9 (ls : a_LS) (st : List Value) (σ : a_HP) (Q : Option Value → a_HP → Prop) : Rn 37 9 ls st σ Q = acR 37 (o_cge 46 12 ls st σ) ls σ Q := rn_row rfl ls st σ Q
theorem r_37_12 (ls : a_LS) (st : List Value) (σ : a_HP) (Q : Option Value → a_HP → Prop) : Rn 37 12 ls st σ Q = acR 37 (o_ldi 0 13 ls st σ) ls σ Q := rn_row rfl ls st σ Q
theorem r_37_13 (ls : a_LS) (st : List Value) (σ : a_HP) (Q : Option Value → a_HP → Prop) : Rn 37 13 ls st σ Q = acR 37 (o_ldi 4 15 ls st σ) ls σ Q := rn_row rfl ls st σ Q
theorem r_37_15 (ls : a_LS) (st : List Value) (σ : a_HP) (Q : Option Value → a_HP → Prop) : Rn 37 15 ls st σ Q = acR 37 (o_bi f_shr 16 ls st σ) ls σ Q := rn_row rfl ls st σ Q
theorem r_37_16 (ls : a_LS) (st : List Value) (σ : a_HP) (Q : Option Value → a_HP → Prop) : Rn 37 16 ls st σ Q = acR 37 (o_pi (nI 1) 17 ls st σ) ls σ Q := rn_row rfl ls st σ Q
theorem r_37_17 (ls : a_LS) (st : List Value) (σ : a_HP) (Q : Option Value → a_HP → Prop) : Rn 37 17 ls st σ Q = acR 37 (o_bi f_and 18 ls st σ) ls σ Q := rn_row rfl ls st σ Q
theorem r_37_18 (ls : a_LS) (st : List Value) (σ : a_HP) (Q : Option Value → a_HP → Prop) : Rn 37 18 ls st σ Q = acR 37 (o_eq 40 21 ls st σ) ls σ Q := rn_row rfl ls st σ Q
theorem r_37_21 (ls : a_LS) (st : List Value) (σ : a_HP) (Q : Option Value → a_HP → Prop) : Rn 37 21 ls st σ Q = acR 37 (o_ldi 3 22 ls st σ) ls σ Q := rn_row rfl ls st σ Q
theorem r_37_22 (ls : a_LS) (st : List Value) (σ : a_HP) (Q : Option Value → a_HP → Prop) : Rn 37 22 ls st σ Q = acR 37 (o_ldi 0 23 ls st σ) ls σ Q := rn_row rfl ls st σ Q
theorem r_37_23 (ls : a_LS) (st : List Value) (σ : a_HP) (Q : Option Value → a_HP → Prop) : Rn 37 23 ls st σ Q = acR 37 (o_ldi 4 25 ls st σ) ls σ Q := rn_row rfl ls st σ Q
theorem r_37_25 (ls : a_LS) (st : List Value) (σ : a_HP) (Q : Option Value → a_HP → Prop) : Rn 37 25 ls st σ Q = acR 37 (o_ldi 1 26 ls st σ) ls σ Q := rn_row rfl ls st σ Q
theorem r_37_26 (ls : a_LS) (st : List Value) (σ : a_HP) (Q : Option Value → a_HP → Prop) : Rn 37 26 ls st σ Q = acR 37 (o_ldi 2 27 ls st σ) ls σ Q := rn_row rfl ls st σ Q
theorem r_37_27 (ls : a_LS) (st : List Value) (σ : a_HP) (Q : Option Value → a_HP → Prop) : Rn 37 27 ls st σ Q = acR 37 (o_pi (nI 0) 28 ls st σ) ls σ Q := rn_row rfl ls st σ Q
theorem r_37_28 (ls : a_LS) (st : List Value) (σ : a_HP) (Q : Option Value → a_HP → Prop) : Rn 37 28 ls st σ Q = acR 37 (o_ivs 120 4 31 ls st σ) ls σ Q := rn_row rfl ls st σ Q
theorem r_37_31 (ls : a_LS) (st : List Value) (σ : a_HP) (Q : Option Value → a_HP → Prop) : Rn 37 31 ls st σ Q = acR 37 (o_ldi 1 32 ls st σ) ls σ Q := rn_row rfl ls st σ Q
theorem r_37_32 (ls : a_LS) (st : List Value) (σ : a_HP) (Q : Option Value → a_HP → Prop) : Rn 37 32 ls st σ Q = acR 37 (o_ldi 2 33 ls st σ) ls σ Q := rn_row rfl ls st σ Q
theorem r_37_33 (ls : a_LS) (st : List Value) (σ : a_HP) (Q : Option Value → a_HP → Prop) : Rn 37 33 ls st σ Q = acR 37 (o_ivs 38 4 36 ls st σ) ls σ Q := rn_row rfl ls st σ Q
theorem r_37_36 (ls : a_LS) (st : List Value) (σ : a_HP) (Q : Option Value → a_HP → Prop) : Rn 37 36 ls st σ Q = acR 37 (o_ivs 207 2 39 ls st σ) ls σ Q := rn_row rfl ls st σ Q
theorem r_37_39 (ls : a_LS) (st : List Value) (σ : a_HP) (Q : Option Value → a_HP → Prop) : Rn 37 39 ls st σ Q = acR 37 (o_sti 3 40 ls st σ) ls σ Q := rn_row rfl ls st σ Q
theorem r_37_40 (ls : a_LS) (st : List Value) (σ : a_HP) (Q : Option Value → a_HP → Prop) : Rn 37 40 ls st σ Q = acR 37 (o_inc 4 (nI 1) 43 ls st σ) ls σ Q := rn_row rfl ls st σ Q
theorem r_37_43 (ls : a_LS) (st : List Value) (σ : a_HP) (Q : Option Value → a_HP → Prop) : Rn 37 43 ls st σ Q = acR 37 (o_go 5 ls st σ) ls σ Q := rn_row rfl ls st σ Q
theorem r_37_46 (ls : a_LS) (st : List Value) (σ : a_HP) (Q : Option Value → a_HP → Prop) : Rn 37 46 ls st σ Q = acR 37 (o_ldi 3 47 ls st σ) ls σ Q := rn_row rfl ls st σ Q
theorem r_37_47 (ls : a_LS) (st : List Value) (σ : a_HP) (Q : Option Value → a_HP → Prop) : Rn 37 47 ls st σ Q = acR 37 (o_ri ls st σ) ls σ Q := rn_row rfl ls st σ Q
/-! 38: NetLaw$Readings.countAlike(IIII)I -/
theorem cl_38 (x0 : Int32) (x1 : Int32) (x2 : Int32) (x3 : Int32) (σ : a_HP) (Q : Option Value → a_HP → Prop) : Cl 38 [.int x0, .int x1, .int x2, .int x3] σ Q = Rn 38 0 [some (.int x0), some (.int x1), some (.int x2), some (.int x3), none, none] [] σ Q := cl_of (Nat.le_of_ble_eq_true rfl) rfl σ Q
theorem r_38_0 (ls : a_LS) (st : List Value) (σ : a_HP) (Q : Option Value → a_HP → Prop) : Rn 38 0 ls st σ Q = acR 38 (o_pi (nI 0) 1 ls st σ) ls σ Q := rn_row rfl ls st σ Q
theorem r_38_1 (ls : a_LS) (st : List Value) (σ : a_HP) (Q : Option Value → a_HP → Prop) : Rn 38 1 ls st σ Q = acR 38 (o_sti 4 3 ls st σ) ls σ Q := rn_row rfl ls st σ Q
theorem r_38_3 (ls : a_LS) (st : List Value) (σ : a_HP) (Q : Option Value → a_HP → Prop) : Rn 38 3 ls st σ Q = acR 38 (o_pi (nI 0) 4 ls st σ) ls σ Q := rn_row rfl ls st σ Q
theorem r_38_4 (ls : a_LS) (st : List Value) (σ : a_HP) (Q : Option Value → a_HP → Prop) : Rn 38 4 ls st σ Q = acR 38 (o_sti 5 6 ls st σ) ls σ Q := rn_row rfl ls st σ Q
theorem r_38_6 (ls : a_LS) (st : List Value) (σ : a_HP) (Q : Option Value → a_HP → Prop) : Rn 38 6 ls st σ Q = acR 38 (o_ldi 5 8 ls st σ) ls σ Q := rn_row rfl ls st σ Q
theorem r_38_8 (ls : a_LS) (st : List Value) (σ : a_HP) (Q : Option Value → a_HP → Prop) : Rn 38 8 ls st σ Q = acR 38 (o_pi (nI 6) 10 ls st σ) ls σ Q := rn_row rfl ls st σ Q
theorem r_38_10 (ls : a_LS) (st : List Value) (σ : a_HP) (Q : Option Value → a_HP → Prop) : Rn 38 10 ls st σ Q = acR 38 (o_cge 43 13 ls st σ) ls σ Q := rn_row rfl ls st σ Q
theorem r_38_13 (ls : a_LS) (st : List Value) (σ : a_HP) (Q : Option Value → a_HP → Prop) : Rn 38 13 ls st σ Q = acR 38 (o_ldi 0 14 ls st σ) ls σ Q := rn_row rfl ls st σ Q
theorem r_38_14 (ls : a_LS) (st : List Value) (σ : a_HP) (Q : Option Value → a_HP → Prop) : Rn 38 14 ls st σ Q = acR 38 (o_ldi 5 16 ls st σ) ls σ Q := rn_row rfl ls st σ Q
theorem r_38_16 (ls : a_LS) (st : List Value) (σ : a_HP) (Q : Option Value → a_HP → Prop) : Rn 38 16 ls st σ Q = acR 38 (o_bi f_shr 17 ls st σ) ls σ Q := rn_row rfl ls st σ Q
theorem r_38_17 (ls : a_LS) (st : List Value) (σ : a_HP) (Q : Option Value → a_HP → Prop) : Rn 38 17 ls st σ Q = acR 38 (o_pi (nI 1) 18 ls st σ) ls σ Q := rn_row rfl ls st σ Q
theorem r_38_18 (ls : a_LS) (st : List Value) (σ : a_HP) (Q : Option Value → a_HP → Prop) : Rn 38 18 ls st σ Q = acR 38 (o_bi f_and 19 ls st σ) ls σ Q := rn_row rfl ls st σ Q
theorem r_38_19 (ls : a_LS) (st : List Value) (σ : a_HP) (Q : Option Value → a_HP → Prop) : Rn 38 19 ls st σ Q = acR 38 (o_eq 37 22 ls st σ) ls σ Q := rn_row rfl ls st σ Q
theorem r_38_22 (ls : a_LS) (st : List Value) (σ : a_HP) (Q : Option Value → a_HP → Prop) : Rn 38 22 ls st σ Q = acR 38 (o_ldi 5 24 ls st σ) ls σ Q := rn_row rfl ls st σ Q
theorem r_38_24 (ls : a_LS) (st : List Value) (σ : a_HP) (Q : Option Value → a_HP → Prop) : Rn 38 24 ls st σ Q = acR 38 (o_ldi 2 25 ls st σ) ls σ Q := rn_row rfl ls st σ Q
theorem r_38_25 (ls : a_LS) (st : List Value) (σ : a_HP) (Q : Option Value → a_HP → Prop) : Rn 38 25 ls st σ Q = acR 38 (o_ldi 3 26 ls st σ) ls σ Q := rn_row rfl ls st σ Q
theorem r_38_26 (ls : a_LS) (st : List Value) (σ : a_HP) (Q : Option Value → a_HP → Prop) : Rn 38 26 ls st σ Q = acR 38 (o_pi (nI 0) 27 ls st σ) ls σ Q := rn_row rfl ls st σ Q
theorem r_38_27 (ls : a_LS) (st : List Value) (σ : a_HP) (Q : Option Value → a_HP → Prop) : Rn 38 27 ls st σ Q = acR 38 (o_ivs 120 4 30 ls st σ) ls σ Q := rn_row rfl ls st σ Q
theorem r_38_30 (ls : a_LS) (st : List Value) (σ : a_HP) (Q : Option Value → a_HP → Prop) : Rn 38 30 ls st σ Q = acR 38 (o_ldi 1 31 ls st σ) ls σ Q := rn_row rfl ls st σ Q
theorem r_38_31 (ls : a_LS) (st : List Value) (σ : a_HP) (Q : Option Value → a_HP → Prop) : Rn 38 31 ls st σ Q = acR 38 (o_cne 37 34 ls st σ) ls σ Q := rn_row rfl ls st σ Q
theorem r_38_34 (ls : a_LS) (st : List Value) (σ : a_HP) (Q : Option Value → a_HP → Prop) : Rn 38 34 ls st σ Q = acR 38 (o_inc 4 (nI 1) 37 ls st σ) ls σ Q := rn_row rfl ls st σ Q
theorem r_38_37 (ls : a_LS) (st : List Value) (σ : a_HP) (Q : Option Value → a_HP → Prop) : Rn 38 37 ls st σ Q = acR 38 (o_inc 5 (nI 1) 40 ls st σ) ls σ Q := rn_row rfl ls st σ Q
theorem r_38_40 (ls : a_LS) (st : List Value) (σ : a_HP) (Q : Option Value → a_HP → Prop) : Rn 38 40 ls st σ Q = acR 38 (o_go 6 ls st σ) ls σ Q := rn_row rfl ls st σ Q
theorem r_38_43 (ls : a_LS) (st : List Value) (σ : a_HP) (Q : Option Value → a_HP → Prop) : Rn 38 43 ls st σ Q = acR 38 (o_ldi 4 45 ls st σ) ls σ Q := rn_row rfl ls st σ Q
theorem r_38_45 (ls : a_LS) (st : List Value) (σ : a_HP) (Q : Option Value → a_HP → Prop) : Rn 38 45 ls st σ Q = acR 38 (o_ri ls st σ) ls σ Q := rn_row rfl ls st σ Q
/-! 39: NetLaw$Readings.digestOn(J)J -/
theorem cl_39 (x0 : Nat) (x1 : Int64) (σ : a_HP) (Q : Option Value → a_HP → Prop) : Cl 39 [.ref x0, .long x1] σ Q = Rn 39 0 [some (.ref x0), some (.long x1), none, none, none, none] [] σ Q := cl_of (Nat.le_of_ble_eq_true rfl) rfl σ Q
theorem r_39_0 (ls : a_LS) (st : List Value) (σ : a_HP) (Q : Option Value → a_HP → Prop) : Rn 39 0 ls st σ Q = acR 39 (o_ldl 1 1 ls st σ) ls σ Q := rn_row rfl ls st σ Q
theorem r_39_1 (ls : a_LS) (st : List Value) (σ : a_HP) (Q : Option Value → a_HP → Prop) : Rn 39 1 ls st σ Q = acR 39 (o_stl 3 2 ls st σ) ls σ Q := rn_row rfl ls st σ Q
theorem r_39_2 (ls : a_LS) (st : List Value) (σ : a_HP) (Q : Option Value → a_HP → Prop) : Rn 39 2 ls st σ Q = acR 39 (o_pi (nI 0) 3 ls st σ) ls σ Q := rn_row rfl ls st σ Q
theorem r_39_3 (ls : a_LS) (st : List Value) (σ : a_HP) (Q : Option Value → a_HP → Prop) : Rn 39 3 ls st σ Q = acR 39 (o_sti 5 5 ls st σ) ls σ Q := rn_row rfl ls st σ Q
theorem r_39_5 (ls : a_LS) (st : List Value) (σ : a_HP) (Q : Option Value → a_HP → Prop) : Rn 39 5 ls st σ Q = acR 39 (o_ldi 5 7 ls st σ) ls σ Q := rn_row rfl ls st σ Q
theorem r_39_7 (ls : a_LS) (st : List Value) (σ : a_HP) (Q : Option Value → a_HP → Prop) : Rn 39 7 ls st σ Q = acR 39 (o_lda 0 8 ls st σ) ls σ Q := rn_row rfl ls st σ Q
theorem r_39_8 (ls : a_LS) (st : List Value) (σ : a_HP) (Q : Option Value → a_HP → Prop) : Rn 39 8 ls st σ Q = acR 39 (o_get 5 0 11 ls st σ) ls σ Q := rn_row rfl ls st σ Q
theorem r_39_11 (ls : a_LS) (st : List Value) (σ : a_HP) (Q : Option Value → a_HP → Prop) : Rn 39 11 ls st σ Q = acR 39 (o_cge 65 14 ls st σ) ls σ Q := rn_row rfl ls st σ Q
theorem r_39_14 (ls : a_LS) (st : List Value) (σ : a_HP) (Q : Option Value → a_HP → Prop) : Rn 39 14 ls st σ Q = acR 39 (o_pl (lN 31) 17 ls st σ) ls σ Q := rn_row rfl ls st σ Q
theorem r_39_17 (ls : a_LS) (st : List Value) (σ : a_HP) (Q : Option Value → a_HP → Prop) : Rn 39 17 ls st σ Q = acR 39 (o_ldl 3 18 ls st σ) ls σ Q := rn_row rfl ls st σ Q
theorem r_39_18 (ls : a_LS) (st : List Value) (σ : a_HP) (Q : Option Value → a_HP → Prop) : Rn 39 18 ls st σ Q = acR 39 (o_bl g_mul 19 ls st σ) ls σ Q := rn_row rfl ls st σ Q
theorem r_39_19 (ls : a_LS) (st : List Value) (σ : a_HP) (Q : Option Value → a_HP → Prop) : Rn 39 19 ls st σ Q = acR 39 (o_lda 0 20 ls st σ) ls σ Q := rn_row rfl ls st σ Q
theorem r_39_20 (ls : a_LS) (st : List Value) (σ : a_HP) (Q : Option Value → a_HP → Prop) : Rn 39 20 ls st σ Q = acR 39 (o_get 5 1 23 ls st σ) ls σ Q := rn_row rfl ls st σ Q
theorem r_39_23 (ls : a_LS) (st : List Value) (σ : a_HP) (Q : Option Value → a_HP → Prop) : Rn 39 23 ls st σ Q = acR 39 (o_ldi 5 25 ls st σ) ls σ Q := rn_row rfl ls st σ Q
theorem r_39_25 (ls : a_LS) (st : List Value) (σ : a_HP) (Q : Option Value → a_HP → Prop) : Rn 39 25 ls st σ Q = acR 39 (o_ial 26 ls st σ) ls σ Q := rn_row rfl ls st σ Q
theorem r_39_26 (ls : a_LS) (st : List Value) (σ : a_HP) (Q : Option Value → a_HP → Prop) : Rn 39 26 ls st σ Q = acR 39 (o_i2l 27 ls st σ) ls σ Q := rn_row rfl ls st σ Q
theorem r_39_27 (ls : a_LS) (st : List Value) (σ : a_HP) (Q : Option Value → a_HP → Prop) : Rn 39 27 ls st σ Q = acR 39 (o_bl g_add 28 ls st σ) ls σ Q := rn_row rfl ls st σ Q
theorem r_39_28 (ls : a_LS) (st : List Value) (σ : a_HP) (Q : Option Value → a_HP → Prop) : Rn 39 28 ls st σ Q = acR 39 (o_stl 3 29 ls st σ) ls σ Q := rn_row rfl ls st σ Q
theorem r_39_29 (ls : a_LS) (st : List Value) (σ : a_HP) (Q : Option Value → a_HP → Prop) : Rn 39 29 ls st σ Q = acR 39 (o_pl (lN 31) 32 ls st σ) ls σ Q := rn_row rfl ls st σ Q
theorem r_39_32 (ls : a_LS) (st : List Value) (σ : a_HP) (Q : Option Value → a_HP → Prop) : Rn 39 32 ls st σ Q = acR 39 (o_ldl 3 33 ls st σ) ls σ Q := rn_row rfl ls st σ Q
theorem r_39_33 (ls : a_LS) (st : List Value) (σ : a_HP) (Q : Option Value → a_HP → Prop) : Rn 39 33 ls st σ Q = acR 39 (o_bl g_mul 34 ls st σ) ls σ Q := rn_row rfl ls st σ Q
theorem r_39_34 (ls : a_LS) (st : List Value) (σ : a_HP) (Q : Option Value → a_HP → Prop) : Rn 39 34 ls st σ Q = acR 39 (o_lda 0 35 ls st σ) ls σ Q := rn_row rfl ls st σ Q
theorem r_39_35 (ls : a_LS) (st : List Value) (σ : a_HP) (Q : Option Value → a_HP → Prop) : Rn 39 35 ls st σ Q = acR 39 (o_get 5 2 38 ls st σ) ls σ Q := rn_row rfl ls st σ Q
theorem r_39_38 (ls : a_LS) (st : List Value) (σ : a_HP) (Q : Option Value → a_HP → Prop) : Rn 39 38 ls st σ Q = acR 39 (o_ldi 5 40 ls st σ) ls σ Q := rn_row rfl ls st σ Q
theorem r_39_40 (ls : a_LS) (st : List Value) (σ : a_HP) (Q : Option Value → a_HP → Prop) : Rn 39 40 ls st σ Q = acR 39 (o_ial 41 ls st σ) ls σ Q := rn_row rfl ls st σ Q
theorem r_39_41 (ls : a_LS) (st : List Value) (σ : a_HP) (Q : Option Value → a_HP → Prop) : Rn 39 41 ls st σ Q = acR 39 (o_i2l 42 ls st σ) ls σ Q := rn_row rfl ls st σ Q
theorem r_39_42 (ls : a_LS) (st : List Value) (σ : a_HP) (Q : Option Value → a_HP → Prop) : Rn 39 42 ls st σ Q = acR 39 (o_bl g_add 43 ls st σ) ls σ Q := rn_row rfl ls st σ Q
theorem r_39_43 (ls : a_LS) (st : List Value) (σ : a_HP) (Q : Option Value → a_HP → Prop) : Rn 39 43 ls st σ Q = acR 39 (o_stl 3 44 ls st σ) ls σ Q := rn_row rfl ls st σ Q
theorem r_39_44 (ls : a_LS) (st : List Value) (σ : a_HP) (Q : Option Value → a_HP → Prop) : Rn 39 44 ls st σ Q = acR 39 (o_pl (lN 31) 47 ls st σ) ls σ Q := rn_row rfl ls st σ Q
theorem r_39_47 (ls : a_LS) (st : List Value) (σ : a_HP) (Q : Option Value → a_HP → Prop) : Rn 39 47 ls st σ Q = acR 39 (o_ldl 3 48 ls st σ) ls σ Q := rn_row rfl ls st σ Q
theorem r_39_48 (ls : a_LS) (st : List Value) (σ : a_HP) (Q : Option Value → a_HP → Prop) : Rn 39 48 ls st σ Q = acR 39 (o_bl g_mul 49 ls st σ) ls σ Q := rn_row rfl ls st σ Q
theorem r_39_49 (ls : a_LS) (st : List Value) (σ : a_HP) (Q : Option Value → a_HP → Prop) : Rn 39 49 ls st σ Q = acR 39 (o_lda 0 50 ls st σ) ls σ Q := rn_row rfl ls st σ Q
theorem r_39_50 (ls : a_LS) (st : List Value) (σ : a_HP) (Q : Option Value → a_HP → Prop) : Rn 39 50 ls st σ Q = acR 39 (o_get 5 3 53 ls st σ) ls σ Q := rn_row rfl ls st σ Q
theorem r_39_53 (ls : a_LS) (st : List Value) (σ : a_HP) (Q : Option Value → a_HP → Prop) : Rn 39 53 ls st σ Q = acR 39 (o_ldi 5 55 ls st σ) ls σ Q := rn_row rfl ls st σ Q
theorem r_39_55 (ls : a_LS) (st : List Value) (σ : a_HP) (Q : Option Value → a_HP → Prop) : Rn 39 55 ls st σ Q = acR 39 (o_ial 56 ls st σ) ls σ Q := rn_row rfl ls st σ Q
theorem r_39_56 (ls : a_LS) (st : List Value) (σ : a_HP) (Q : Option Value → a_HP → Prop) : Rn 39 56 ls st σ Q = acR 39 (o_i2l 57 ls st σ) ls σ Q := rn_row rfl ls st σ Q
theorem r_39_57 (ls : a_LS) (st : List Value) (σ : a_HP) (Q : Option Value → a_HP → Prop) : Rn 39 57 ls st σ Q = acR 39 (o_bl g_add 58 ls st σ) ls σ Q := rn_row rfl ls st σ Q
theorem r_39_58 (ls : a_LS) (st : List Value) (σ : a_HP) (Q : Option Value → a_HP → Prop) : Rn 39 58 ls st σ Q = acR 39 (o_stl 3 59 ls st σ) ls σ Q := rn_row rfl ls st σ Q
theorem r_39_59 (ls : a_LS) (st : List Value) (σ : a_HP) (Q : Option Value → a_HP → Prop) : Rn 39 59 ls st σ Q = acR 39 (o_inc 5 (nI 1) 62 ls st σ) ls σ Q := rn_row rfl ls st σ Q
theorem r_39_62 (ls : a_LS) (st : List Value) (σ : a_HP) (Q : Option Value → a_HP → Prop) : Rn 39 62 ls st σ Q = acR 39 (o_go 5 ls st σ) ls σ Q := rn_row rfl ls st σ Q
theorem r_39_65 (ls : a_LS) (st : List Value) (σ : a_HP) (Q : Option Value → a_HP → Prop) : Rn 39 65 ls st σ Q = acR 39 (o_ldl 3 66 ls st σ) ls σ Q := rn_row rfl ls st σ Q
theorem r_39_66 (ls : a_LS) (st : List Value) (σ : a_HP) (Q : Option Value → a_HP → Prop) : Rn 39 66 ls st σ Q = acR 39 (o_rl ls st σ) ls σ Q := rn_row rfl ls st σ Q
/-! 40: NetLaw$Text.append(I)V -/
theorem cl_40 (x0 : Nat) (x1 : Int32) (σ : a_HP) (Q : Option Value → a_HP → Prop) : Cl 40 [.ref x0, .int x1] σ Q = Rn 40 0 [some (.ref x0), some (.int x1)] [] σ Q := cl_of (Nat.le_of_ble_eq_true rfl) rfl σ Q
theorem r_40_0 (ls : a_LS) (st : List Value) (σ : a_HP) (Q : Option Value → a_HP → Prop) : Rn 40 0 ls st σ Q = acR 40 (o_lda 0 1 ls st σ) ls σ Q := rn_row rfl ls st σ Q
theorem r_40_1 (ls : a_LS) (st : List Value) (σ : a_HP) (Q : Option Value → a_HP → Prop) : Rn 40 1 ls st σ Q = acR 40 (o_get 6 0 4 ls st σ) ls σ Q := rn_row rfl ls st σ Q
theorem r_40_4 (ls : a_LS) (st : List Value) (σ : a_HP) (Q : Option Value → a_HP → Prop) : Rn 40 4 ls st σ Q = acR 40 (o_pi (nI 150) 7 ls st σ) ls σ Q := rn_row rfl ls st σ Q
theorem r_40_7 (ls : a_LS) (st : List Value) (σ : a_HP) (Q : Option Value → a_HP → Prop) : Rn 40 7 ls st σ Q = acR 40 (o_cge 31 10 ls st σ) ls σ Q := rn_row rfl ls st σ Q
theorem r_40_10 (ls : a_LS) (st : List Value) (σ : a_HP) (Q : Option Value → a_HP → Prop) : Rn 40 10 ls st σ Q = acR 40 (o_lda 0 11 ls st σ) ls σ Q := rn_row rfl ls st σ Q
theorem r_40_11 (ls : a_LS) (st : List Value) (σ : a_HP) (Q : Option Value → a_HP → Prop) : Rn 40 11 ls st σ Q = acR 40 (o_get 6 2 14 ls st σ) ls σ Q := rn_row rfl ls st σ Q
theorem r_40_14 (ls : a_LS) (st : List Value) (σ : a_HP) (Q : Option Value → a_HP → Prop) : Rn 40 14 ls st σ Q = acR 40 (o_lda 0 15 ls st σ) ls σ Q := rn_row rfl ls st σ Q
theorem r_40_15 (ls : a_LS) (st : List Value) (σ : a_HP) (Q : Option Value → a_HP → Prop) : Rn 40 15 ls st σ Q = acR 40 (o_get 6 0 18 ls st σ) ls σ Q := rn_row rfl ls st σ Q
theorem r_40_18 (ls : a_LS) (st : List Value) (σ : a_HP) (Q : Option Value → a_HP → Prop) : Rn 40 18 ls st σ Q = acR 40 (o_ldi 1 19 ls st σ) ls σ Q := rn_row rfl ls st σ Q
theorem r_40_19 (ls : a_LS) (st : List Value) (σ : a_HP) (Q : Option Value → a_HP → Prop) : Rn 40 19 ls st σ Q = acR 40 (o_i2b 20 ls st σ) ls σ Q := rn_row rfl ls st σ Q
theorem r_40_20 (ls : a_LS) (st : List Value) (σ : a_HP) (Q : Option Value → a_HP → Prop) : Rn 40 20 ls st σ Q = acR 40 (o_bas 21 ls st σ) ls σ Q := rn_row rfl ls st σ Q
theorem r_40_21 (ls : a_LS) (st : List Value) (σ : a_HP) (Q : Option Value → a_HP → Prop) : Rn 40 21 ls st σ Q = acR 40 (o_lda 0 22 ls st σ) ls σ Q := rn_row rfl ls st σ Q
theorem r_40_22 (ls : a_LS) (st : List Value) (σ : a_HP) (Q : Option Value → a_HP → Prop) : Rn 40 22 ls st σ Q = acR 40 (o_dup 23 ls st σ) ls σ Q := rn_row rfl ls st σ Q
theorem r_40_23 (ls : a_LS) (st : List Value) (σ : a_HP) (Q : Option Value → a_HP → Prop) : Rn 40 23 ls st σ Q = acR 40 (o_get 6 0 26 ls st σ) ls σ Q := rn_row rfl ls st σ Q
theorem r_40_26 (ls : a_LS) (st : List Value) (σ : a_HP) (Q : Option Value → a_HP → Prop) : Rn 40 26 ls st σ Q = acR 40 (o_pi (nI 1) 27 ls st σ) ls σ Q := rn_row rfl ls st σ Q
theorem r_40_27 (ls : a_LS) (st : List Value) (σ : a_HP) (Q : Option Value → a_HP → Prop) : Rn 40 27 ls st σ Q = acR 40 (o_bi f_add 28 ls st σ) ls σ Q := rn_row rfl ls st σ Q
theorem r_40_28 (ls : a_LS) (st : List Value) (σ : a_HP) (Q : Option Value → a_HP → Prop) : Rn 40 28 ls st σ Q = acR 40 (o_put 6 0 31 ls st σ) ls σ Q := rn_row rfl ls st σ Q
theorem r_40_31 (ls : a_LS) (st : List Value) (σ : a_HP) (Q : Option Value → a_HP → Prop) : Rn 40 31 ls st σ Q = acR 40 (o_rv ls st σ) ls σ Q := rn_row rfl ls st σ Q
/-! 41: NetLaw$Text.itemWord(I)I -/
theorem cl_41 (x0 : Nat) (x1 : Int32) (σ : a_HP) (Q : Option Value → a_HP → Prop) : Cl 41 [.ref x0, .int x1] σ Q = Rn 41 0 [some (.ref x0), some (.int x1)] [] σ Q := cl_of (Nat.le_of_ble_eq_true rfl) rfl σ Q
theorem r_41_0 (ls : a_LS) (st : List Value) (σ : a_HP) (Q : Option Value → a_HP → Prop) : Rn 41 0 ls st σ Q = acR 41 (o_lda 0 1 ls st σ) ls σ Q := rn_row rfl ls st σ Q
theorem r_41_1 (ls : a_LS) (st : List Value) (σ : a_HP) (Q : Option Value → a_HP → Prop) : Rn 41 1 ls st σ Q = acR 41 (o_get 6 3 4 ls st σ) ls σ Q := rn_row rfl ls st σ Q
theorem r_41_4 (ls : a_LS) (st : List Value) (σ : a_HP) (Q : Option Value → a_HP → Prop) : Rn 41 4 ls st σ Q = acR 41 (o_ldi 1 5 ls st σ) ls σ Q := rn_row rfl ls st σ Q
theorem r_41_5 (ls : a_LS) (st : List Value) (σ : a_HP) (Q : Option Value → a_HP → Prop) : Rn 41 5 ls st σ Q = acR 41 (o_pi (nI 5) 6 ls st σ) ls σ Q := rn_row rfl ls st σ Q
theorem r_41_6 (ls : a_LS) (st : List Value) (σ : a_HP) (Q : Option Value → a_HP → Prop) : Rn 41 6 ls st σ Q = acR 41 (o_bi f_mul 7 ls st σ) ls σ Q := rn_row rfl ls st σ Q
theorem r_41_7 (ls : a_LS) (st : List Value) (σ : a_HP) (Q : Option Value → a_HP → Prop) : Rn 41 7 ls st σ Q = acR 41 (o_ial 8 ls st σ) ls σ Q := rn_row rfl ls st σ Q
theorem r_41_8 (ls : a_LS) (st : List Value) (σ : a_HP) (Q : Option Value → a_HP → Prop) : Rn 41 8 ls st σ Q = acR 41 (o_ri ls st σ) ls σ Q := rn_row rfl ls st σ Q
/-! 42: NetLaw$Text.itemNumber(II)I -/
theorem cl_42 (x0 : Nat) (x1 : Int32) (x2 : Int32) (σ : a_HP) (Q : Option Value → a_HP → Prop) : Cl 42 [.ref x0, .int x1, .int x2] σ Q = Rn 42 0 [some (.ref x0), some (.int x1), some (.int x2)] [] σ Q := cl_of (Nat.le_of_ble_eq_true rfl) rfl σ Q
theorem r_42_0 (ls : a_LS) (st : List Value) (σ : a_HP) (Q : Option Value → a_HP → Prop) : Rn 42 0 ls st σ Q = acR 42 (o_lda 0 1 ls st σ) ls σ Q := rn_row rfl ls st σ Q
theorem r_42_1 (ls : a_LS) (st : List Value) (σ : a_HP) (Q : Option Value → a_HP → Prop) : Rn 42 1 ls st σ Q = acR 42 (o_get 6 3 4 ls st σ) ls σ Q := rn_row rfl ls st σ Q
theorem r_42_4 (ls : a_LS) (st : List Value) (σ : a_HP) (Q : Option Value → a_HP → Prop) : Rn 42 4 ls st σ Q = acR 42 (o_ldi 1 5 ls st σ) ls σ Q := rn_row rfl ls st σ Q
theorem r_42_5 (ls : a_LS) (st : List Value) (σ : a_HP) (Q : Option Value → a_HP → Prop) : Rn 42 5 ls st σ Q = acR 42 (o_pi (nI 5) 6 ls st σ) ls σ Q := rn_row rfl ls st σ Q
theorem r_42_6 (ls : a_LS) (st : List Value) (σ : a_HP) (Q : Option Value → a_HP → Prop) : Rn 42 6 ls st σ Q = acR 42 (o_bi f_mul 7 ls st σ) ls σ Q := rn_row rfl ls st σ Q
theorem r_42_7 (ls : a_LS) (st : List Value) (σ : a_HP) (Q : Option Value → a_HP → Prop) : Rn 42 7 ls st σ Q = acR 42 (o_pi (nI 1) 8 ls st σ) ls σ Q := rn_row rfl ls st σ Q
theorem r_42_8 (ls : a_LS) (st : List Value) (σ : a_HP) (Q : Option Value → a_HP → Prop) : Rn 42 8 ls st σ Q = acR 42 (o_bi f_add 9 ls st σ) ls σ Q := rn_row rfl ls st σ Q
theorem r_42_9 (ls : a_LS) (st : List Value) (σ : a_HP) (Q : Option Value → a_HP → Prop) : Rn 42 9 ls st σ Q = acR 42 (o_ldi 2 10 ls st σ) ls σ Q := rn_row rfl ls st σ Q
theorem r_42_10 (ls : a_LS) (st : List Value) (σ : a_HP) (Q : Option Value → a_HP → Prop) : Rn 42 10 ls st σ Q = acR 42 (o_bi f_add 11 ls st σ) ls σ Q := rn_row rfl ls st σ Q
theorem r_42_11 (ls : a_LS) (st : List Value) (σ : a_HP) (Q : Option Value → a_HP → Prop) : Rn 42 11 ls st σ Q = acR 42 (o_ial 12 ls st σ) ls σ Q := rn_row rfl ls st σ Q
theorem r_42_12 (ls : a_LS) (st : List Value) (σ : a_HP) (Q : Option Value → a_HP → Prop) : Rn 42 12 ls st σ Q = acR 42 (o_ri ls st σ) ls σ Q := rn_row rfl ls st σ Q
/-! 43: NetLaw$Text.findFault()I -/
theorem cl_43 (x0 : Nat) (σ : a_HP) (Q : Option Value → a_HP → Prop) : Cl 43 [.ref x0] σ Q = Rn 43 0 [some (.ref x0), none] [] σ Q := cl_of (Nat.le_of_ble_eq_true rfl) rfl σ Q
theorem r_43_0 (ls : a_LS) (st : List Value) (σ : a_HP) (Q : Option Value → a_HP → Prop) : Rn 43 0 ls st σ Q = acR 43 (o_lda 0 1 ls st σ) ls σ Q := rn_row rfl ls st σ Q
theorem r_43_1 (ls : a_LS) (st : List Value) (σ : a_HP) (Q : Option Value → a_HP → Prop) : Rn 43 1 ls st σ Q = acR 43 (o_pi (nI 0) 2 ls st σ) ls σ Q := rn_row rfl ls st σ Q
theorem r_43_2 (ls : a_LS) (st : List Value) (σ : a_HP) (Q : Option Value → a_HP → Prop) : Rn 43 2 ls st σ Q = acR 43 (o_put 6 4 5 ls st σ) ls σ Q := rn_row rfl ls st σ Q
theorem r_43_5 (ls : a_LS) (st : List Value) (σ : a_HP) (Q : Option Value → a_HP → Prop) : Rn 43 5 ls st σ Q = acR 43 (o_lda 0 6 ls st σ) ls σ Q := rn_row rfl ls st σ Q
theorem r_43_6 (ls : a_LS) (st : List Value) (σ : a_HP) (Q : Option Value → a_HP → Prop) : Rn 43 6 ls st σ Q = acR 43 (o_pi (nI 0) 7 ls st σ) ls σ Q := rn_row rfl ls st σ Q
theorem r_43_7 (ls : a_LS) (st : List Value) (σ : a_HP) (Q : Option Value → a_HP → Prop) : Rn 43 7 ls st σ Q = acR 43 (o_put 6 1 10 ls st σ) ls σ Q := rn_row rfl ls st σ Q
theorem r_43_10 (ls : a_LS) (st : List Value) (σ : a_HP) (Q : Option Value → a_HP → Prop) : Rn 43 10 ls st σ Q = acR 43 (o_pi (nI 0) 11 ls st σ) ls σ Q := rn_row rfl ls st σ Q
theorem r_43_11 (ls : a_LS) (st : List Value) (σ : a_HP) (Q : Option Value → a_HP → Prop) : Rn 43 11 ls st σ Q = acR 43 (o_sti 1 12 ls st σ) ls σ Q := rn_row rfl ls st σ Q
theorem r_43_12 (ls : a_LS) (st : List Value) (σ : a_HP) (Q : Option Value → a_HP → Prop) : Rn 43 12 ls st σ Q = acR 43 (o_ldi 1 13 ls st σ) ls σ Q := rn_row rfl ls st σ Q
theorem r_43_13 (ls : a_LS) (st : List Value) (σ : a_HP) (Q : Option Value → a_HP → Prop) : Rn 43 13 ls st σ Q = acR 43 (o_pi (nI 22) 15 ls st σ) ls σ Q := rn_row rfl ls st σ Q
theorem r_43_15 (ls : a_LS) (st : List Value) (σ : a_HP) (Q : Option Value → a_HP → Prop) : Rn 43 15 ls st σ Q = acR 43 (o_cge 67 18 ls st σ) ls σ Q := rn_row rfl ls st σ Q
theorem r_43_18 (ls : a_LS) (st : List Value) (σ : a_HP) (Q : Option Value → a_HP → Prop) : Rn 43 18 ls st σ Q = acR 43 (o_lda 0 19 ls st σ) ls σ Q := rn_row rfl ls st σ Q
theorem r_43_19 (ls : a_LS) (st : List Value) (σ : a_HP) (Q : Option Value → a_HP → Prop) : Rn 43 19 ls st σ Q = acR 43 (o_ivv 6 45 0 22 ls st σ) ls σ Q := rn_row rfl ls st σ Q
theorem r_43_22 (ls : a_LS) (st : List Value) (σ : a_HP) (Q : Option Value → a_HP → Prop) : Rn 43 22 ls st σ Q = acR 43 (o_lda 0 23 ls st σ) ls σ Q := rn_row rfl ls st σ Q
theorem r_43_23 (ls : a_LS) (st : List Value) (σ : a_HP) (Q : Option Value → a_HP → Prop) : Rn 43 23 ls st σ Q = acR 43 (o_get 6 5 26 ls st σ) ls σ Q := rn_row rfl ls st σ Q
theorem r_43_26 (ls : a_LS) (st : List Value) (σ : a_HP) (Q : Option Value → a_HP → Prop) : Rn 43 26 ls st σ Q = acR 43 (o_pi (nI 5) 27 ls st σ) ls σ Q := rn_row rfl ls st σ Q
theorem r_43_27 (ls : a_LS) (st : List Value) (σ : a_HP) (Q : Option Value → a_HP → Prop) : Rn 43 27 ls st σ Q = acR 43 (o_cne 39 30 ls st σ) ls σ Q := rn_row rfl ls st σ Q
theorem r_43_30 (ls : a_LS) (st : List Value) (σ : a_HP) (Q : Option Value → a_HP → Prop) : Rn 43 30 ls st σ Q = acR 43 (o_lda 0 31 ls st σ) ls σ Q := rn_row rfl ls st σ Q
theorem r_43_31 (ls : a_LS) (st : List Value) (σ : a_HP) (Q : Option Value → a_HP → Prop) : Rn 43 31 ls st σ Q = acR 43 (o_get 6 1 34 ls st σ) ls σ Q := rn_row rfl ls st σ Q
theorem r_43_34 (ls : a_LS) (st : List Value) (σ : a_HP) (Q : Option Value → a_HP → Prop) : Rn 43 34 ls st σ Q = acR 43 (o_le 39 37 ls st σ) ls σ Q := rn_row rfl ls st σ Q
theorem r_43_37 (ls : a_LS) (st : List Value) (σ : a_HP) (Q : Option Value → a_HP → Prop) : Rn 43 37 ls st σ Q = acR 43 (o_pi (-1) 38 ls st σ) ls σ Q := rn_row rfl ls st σ Q
theorem r_43_38 (ls : a_LS) (st : List Value) (σ : a_HP) (Q : Option Value → a_HP → Prop) : Rn 43 38 ls st σ Q = acR 43 (o_ri ls st σ) ls σ Q := rn_row rfl ls st σ Q
theorem r_43_39 (ls : a_LS) (st : List Value) (σ : a_HP) (Q : Option Value → a_HP → Prop) : Rn 43 39 ls st σ Q = acR 43 (o_lda 0 40 ls st σ) ls σ Q := rn_row rfl ls st σ Q
theorem r_43_40 (ls : a_LS) (st : List Value) (σ : a_HP) (Q : Option Value → a_HP → Prop) : Rn 43 40 ls st σ Q = acR 43 (o_ivv 6 44 0 43 ls st σ) ls σ Q := rn_row rfl ls st σ Q
theorem r_43_43 (ls : a_LS) (st : List Value) (σ : a_HP) (Q : Option Value → a_HP → Prop) : Rn 43 43 ls st σ Q = acR 43 (o_ne 51 46 ls st σ) ls σ Q := rn_row rfl ls st σ Q
theorem r_43_46 (ls : a_LS) (st : List Value) (σ : a_HP) (Q : Option Value → a_HP → Prop) : Rn 43 46 ls st σ Q = acR 43 (o_lda 0 47 ls st σ) ls σ Q := rn_row rfl ls st σ Q
theorem r_43_47 (ls : a_LS) (st : List Value) (σ : a_HP) (Q : Option Value → a_HP → Prop) : Rn 43 47 ls st σ Q = acR 43 (o_get 6 6 50 ls st σ) ls σ Q := rn_row rfl ls st σ Q
theorem r_43_50 (ls : a_LS) (st : List Value) (σ : a_HP) (Q : Option Value → a_HP → Prop) : Rn 43 50 ls st σ Q = acR 43 (o_ri ls st σ) ls σ Q := rn_row rfl ls st σ Q
theorem r_43_51 (ls : a_LS) (st : List Value) (σ : a_HP) (Q : Option Value → a_HP → Prop) : Rn 43 51 ls st σ Q = acR 43 (o_lda 0 52 ls st σ) ls σ Q := rn_row rfl ls st σ Q
theorem r_43_52 (ls : a_LS) (st : List Value) (σ : a_HP) (Q : Option Value → a_HP → Prop) : Rn 43 52 ls st σ Q = acR 43 (o_dup 53 ls st σ) ls σ Q := rn_row rfl ls st σ Q
theorem r_43_53 (ls : a_LS) (st : List Value) (σ : a_HP) (Q : Option Value → a_HP → Prop) : Rn 43 53 ls st σ Q = acR 43 (o_get 6 1 56 ls st σ) ls σ Q := rn_row rfl ls st σ Q
theorem r_43_56 (ls : a_LS) (st : List Value) (σ : a_HP) (Q : Option Value → a_HP → Prop) : Rn 43 56 ls st σ Q = acR 43 (o_pi (nI 1) 57 ls st σ) ls σ Q := rn_row rfl ls st σ Q
theorem r_43_57 (ls : a_LS) (st : List Value) (σ : a_HP) (Q : Option Value → a_HP → Prop) : Rn 43 57 ls st σ Q = acR 43 (o_bi f_add 58 ls st σ) ls σ Q := rn_row rfl ls st σ Q
theorem r_43_58 (ls : a_LS) (st : List Value) (σ : a_HP) (Q : Option Value → a_HP → Prop) : Rn 43 58 ls st σ Q = acR 43 (o_put 6 1 61 ls st σ) ls σ Q := rn_row rfl ls st σ Q
theorem r_43_61 (ls : a_LS) (st : List Value) (σ : a_HP) (Q : Option Value → a_HP → Prop) : Rn 43 61 ls st σ Q = acR 43 (o_inc 1 (nI 1) 64 ls st σ) ls σ Q := rn_row rfl ls st σ Q
theorem r_43_64 (ls : a_LS) (st : List Value) (σ : a_HP) (Q : Option Value → a_HP → Prop) : Rn 43 64 ls st σ Q = acR 43 (o_go 12 ls st σ) ls σ Q := rn_row rfl ls st σ Q
theorem r_43_67 (ls : a_LS) (st : List Value) (σ : a_HP) (Q : Option Value → a_HP → Prop) : Rn 43 67 ls st σ Q = acR 43 (o_lda 0 68 ls st σ) ls σ Q := rn_row rfl ls st σ Q
theorem r_43_68 (ls : a_LS) (st : List Value) (σ : a_HP) (Q : Option Value → a_HP → Prop) : Rn 43 68 ls st σ Q = acR 43 (o_get 6 0 71 ls st σ) ls σ Q := rn_row rfl ls st σ Q
theorem r_43_71 (ls : a_LS) (st : List Value) (σ : a_HP) (Q : Option Value → a_HP → Prop) : Rn 43 71 ls st σ Q = acR 43 (o_ri ls st σ) ls σ Q := rn_row rfl ls st σ Q
/-! 44: NetLaw$Text.takeItem()Z -/
theorem cl_44 (x0 : Nat) (σ : a_HP) (Q : Option Value → a_HP → Prop) : Cl 44 [.ref x0] σ Q = Rn 44 0 [some (.ref x0), none, none, none, none] [] σ Q := cl_of (Nat.le_of_ble_eq_true rfl) rfl σ Q
theorem r_44_0 (ls : a_LS) (st : List Value) (σ : a_HP) (Q : Option Value → a_HP → Prop) : Rn 44 0 ls st σ Q = acR 44 (o_lda 0 1 ls st σ) ls σ Q := rn_row rfl ls st σ Q
theorem r_44_1 (ls : a_LS) (st : List Value) (σ : a_HP) (Q : Option Value → a_HP → Prop) : Rn 44 1 ls st σ Q = acR 44 (o_get 6 1 4 ls st σ) ls σ Q := rn_row rfl ls st σ Q
theorem r_44_4 (ls : a_LS) (st : List Value) (σ : a_HP) (Q : Option Value → a_HP → Prop) : Rn 44 4 ls st σ Q = acR 44 (o_ne 22 7 ls st σ) ls σ Q := rn_row rfl ls st σ Q
theorem r_44_7 (ls : a_LS) (st : List Value) (σ : a_HP) (Q : Option Value → a_HP → Prop) : Rn 44 7 ls st σ Q = acR 44 (o_lda 0 8 ls st σ) ls σ Q := rn_row rfl ls st σ Q
theorem r_44_8 (ls : a_LS) (st : List Value) (σ : a_HP) (Q : Option Value → a_HP → Prop) : Rn 44 8 ls st σ Q = acR 44 (o_get 6 5 11 ls st σ) ls σ Q := rn_row rfl ls st σ Q
theorem r_44_11 (ls : a_LS) (st : List Value) (σ : a_HP) (Q : Option Value → a_HP → Prop) : Rn 44 11 ls st σ Q = acR 44 (o_ne 18 14 ls st σ) ls σ Q := rn_row rfl ls st σ Q
theorem r_44_14 (ls : a_LS) (st : List Value) (σ : a_HP) (Q : Option Value → a_HP → Prop) : Rn 44 14 ls st σ Q = acR 44 (o_pi (nI 1) 15 ls st σ) ls σ Q := rn_row rfl ls st σ Q
theorem r_44_15 (ls : a_LS) (st : List Value) (σ : a_HP) (Q : Option Value → a_HP → Prop) : Rn 44 15 ls st σ Q = acR 44 (o_go 43 ls st σ) ls σ Q := rn_row rfl ls st σ Q
theorem r_44_18 (ls : a_LS) (st : List Value) (σ : a_HP) (Q : Option Value → a_HP → Prop) : Rn 44 18 ls st σ Q = acR 44 (o_pi (nI 0) 19 ls st σ) ls σ Q := rn_row rfl ls st σ Q
theorem r_44_19 (ls : a_LS) (st : List Value) (σ : a_HP) (Q : Option Value → a_HP → Prop) : Rn 44 19 ls st σ Q = acR 44 (o_go 43 ls st σ) ls σ Q := rn_row rfl ls st σ Q
theorem r_44_22 (ls : a_LS) (st : List Value) (σ : a_HP) (Q : Option Value → a_HP → Prop) : Rn 44 22 ls st σ Q = acR 44 (o_lda 0 23 ls st σ) ls σ Q := rn_row rfl ls st σ Q
theorem r_44_23 (ls : a_LS) (st : List Value) (σ : a_HP) (Q : Option Value → a_HP → Prop) : Rn 44 23 ls st σ Q = acR 44 (o_get 6 5 26 ls st σ) ls σ Q := rn_row rfl ls st σ Q
theorem r_44_26 (ls : a_LS) (st : List Value) (σ : a_HP) (Q : Option Value → a_HP → Prop) : Rn 44 26 ls st σ Q = acR 44 (o_pi (nI 1) 27 ls st σ) ls σ Q := rn_row rfl ls st σ Q
theorem r_44_27 (ls : a_LS) (st : List Value) (σ : a_HP) (Q : Option Value → a_HP → Prop) : Rn 44 27 ls st σ Q = acR 44 (o_ceq 38 30 ls st σ) ls σ Q := rn_row rfl ls st σ Q
theorem r_44_30 (ls : a_LS) (st : List Value) (σ : a_HP) (Q : Option Value → a_HP → Prop) : Rn 44 30 ls st σ Q = acR 44 (o_lda 0 31 ls st σ) ls σ Q := rn_row rfl ls st σ Q
theorem r_44_31 (ls : a_LS) (st : List Value) (σ : a_HP) (Q : Option Value → a_HP → Prop) : Rn 44 31 ls st σ Q = acR 44 (o_get 6 5 34 ls st σ) ls σ Q := rn_row rfl ls st σ Q
theorem r_44_34 (ls : a_LS) (st : List Value) (σ : a_HP) (Q : Option Value → a_HP → Prop) : Rn 44 34 ls st σ Q = acR 44 (o_pi (nI 2) 35 ls st σ) ls σ Q := rn_row rfl ls st σ Q
theorem r_44_35 (ls : a_LS) (st : List Value) (σ : a_HP) (Q : Option Value → a_HP → Prop) : Rn 44 35 ls st σ Q = acR 44 (o_cne 42 38 ls st σ) ls σ Q := rn_row rfl ls st σ Q
theorem r_44_38 (ls : a_LS) (st : List Value) (σ : a_HP) (Q : Option Value → a_HP → Prop) : Rn 44 38 ls st σ Q = acR 44 (o_pi (nI 1) 39 ls st σ) ls σ Q := rn_row rfl ls st σ Q
theorem r_44_39 (ls : a_LS) (st : List Value) (σ : a_HP) (Q : Option Value → a_HP → Prop) : Rn 44 39 ls st σ Q = acR 44 (o_go 43 ls st σ) ls σ Q := rn_row rfl ls st σ Q
theorem r_44_42 (ls : a_LS) (st : List Value) (σ : a_HP) (Q : Option Value → a_HP → Prop) : Rn 44 42 ls st σ Q = acR 44 (o_pi (nI 0) 43 ls st σ) ls σ Q := rn_row rfl ls st σ Q
theorem r_44_43 (ls : a_LS) (st : List Value) (σ : a_HP) (Q : Option Value → a_HP → Prop) : Rn 44 43 ls st σ Q = acR 44 (o_sti 1 44 ls st σ) ls σ Q := rn_row rfl ls st σ Q
theorem r_44_44 (ls : a_LS) (st : List Value) (σ : a_HP) (Q : Option Value → a_HP → Prop) : Rn 44 44 ls st σ Q = acR 44 (o_ldi 1 45 ls st σ) ls σ Q := rn_row rfl ls st σ Q
theorem r_44_45 (ls : a_LS) (st : List Value) (σ : a_HP) (Q : Option Value → a_HP → Prop) : Rn 44 45 ls st σ Q = acR 44 (o_ne 50 48 ls st σ) ls σ Q := rn_row rfl ls st σ Q
theorem r_44_48 (ls : a_LS) (st : List Value) (σ : a_HP) (Q : Option Value → a_HP → Prop) : Rn 44 48 ls st σ Q = acR 44 (o_pi (nI 0) 49 ls st σ) ls σ Q := rn_row rfl ls st σ Q
theorem r_44_49 (ls : a_LS) (st : List Value) (σ : a_HP) (Q : Option Value → a_HP → Prop) : Rn 44 49 ls st σ Q = acR 44 (o_rz ls st σ) ls σ Q := rn_row rfl ls st σ Q
theorem r_44_50 (ls : a_LS) (st : List Value) (σ : a_HP) (Q : Option Value → a_HP → Prop) : Rn 44 50 ls st σ Q = acR 44 (o_lda 0 51 ls st σ) ls σ Q := rn_row rfl ls st σ Q
theorem r_44_51 (ls : a_LS) (st : List Value) (σ : a_HP) (Q : Option Value → a_HP → Prop) : Rn 44 51 ls st σ Q = acR 44 (o_get 6 1 54 ls st σ) ls σ Q := rn_row rfl ls st σ Q
theorem r_44_54 (ls : a_LS) (st : List Value) (σ : a_HP) (Q : Option Value → a_HP → Prop) : Rn 44 54 ls st σ Q = acR 44 (o_pi (nI 5) 55 ls st σ) ls σ Q := rn_row rfl ls st σ Q
theorem r_44_55 (ls : a_LS) (st : List Value) (σ : a_HP) (Q : Option Value → a_HP → Prop) : Rn 44 55 ls st σ Q = acR 44 (o_bi f_mul 56 ls st σ) ls σ Q := rn_row rfl ls st σ Q
theorem r_44_56 (ls : a_LS) (st : List Value) (σ : a_HP) (Q : Option Value → a_HP → Prop) : Rn 44 56 ls st σ Q = acR 44 (o_sti 2 57 ls st σ) ls σ Q := rn_row rfl ls st σ Q
theorem r_44_57 (ls : a_LS) (st : List Value) (σ : a_HP) (Q : Option Value → a_HP → Prop) : Rn 44 57 ls st σ Q = acR 44 (o_lda 0 58 ls st σ) ls σ Q := rn_row rfl ls st σ Q
theorem r_44_58 (ls : a_LS) (st : List Value) (σ : a_HP) (Q : Option Value → a_HP → Prop) : Rn 44 58 ls st σ Q = acR 44 (o_get 6 3 61 ls st σ) ls σ Q := rn_row rfl ls st σ Q
theorem r_44_61 (ls : a_LS) (st : List Value) (σ : a_HP) (Q : Option Value → a_HP → Prop) : Rn 44 61 ls st σ Q = acR 44 (o_ldi 2 62 ls st σ) ls σ Q := rn_row rfl ls st σ Q
theorem r_44_62 (ls : a_LS) (st : List Value) (σ : a_HP) (Q : Option Value → a_HP → Prop) : Rn 44 62 ls st σ Q = acR 44 (o_lda 0 63 ls st σ) ls σ Q := rn_row rfl ls st σ Q
theorem r_44_63 (ls : a_LS) (st : List Value) (σ : a_HP) (Q : Option Value → a_HP → Prop) : Rn 44 63 ls st σ Q = acR 44 (o_get 6 5 66 ls st σ) ls σ Q := rn_row rfl ls st σ Q
theorem r_44_66 (ls : a_LS) (st : List Value) (σ : a_HP) (Q : Option Value → a_HP → Prop) : Rn 44 66 ls st σ Q = acR 44 (o_ias 67 ls st σ) ls σ Q := rn_row rfl ls st σ Q
theorem r_44_67 (ls : a_LS) (st : List Value) (σ : a_HP) (Q : Option Value → a_HP → Prop) : Rn 44 67 ls st σ Q = acR 44 (o_lda 0 68 ls st σ) ls σ Q := rn_row rfl ls st σ Q
theorem r_44_68 (ls : a_LS) (st : List Value) (σ : a_HP) (Q : Option Value → a_HP → Prop) : Rn 44 68 ls st σ Q = acR 44 (o_get 6 5 71 ls st σ) ls σ Q := rn_row rfl ls st σ Q
theorem r_44_71 (ls : a_LS) (st : List Value) (σ : a_HP) (Q : Option Value → a_HP → Prop) : Rn 44 71 ls st σ Q = acR 44 (o_pi (nI 1) 72 ls st σ) ls σ Q := rn_row rfl ls st σ Q
theorem r_44_72 (ls : a_LS) (st : List Value) (σ : a_HP) (Q : Option Value → a_HP → Prop) : Rn 44 72 ls st σ Q = acR 44 (o_cne 79 75 ls st σ) ls σ Q := rn_row rfl ls st σ Q
theorem r_44_75 (ls : a_LS) (st : List Value) (σ : a_HP) (Q : Option Value → a_HP → Prop) : Rn 44 75 ls st σ Q = acR 44 (o_pi (nI 4) 76 ls st σ) ls σ Q := rn_row rfl ls st σ Q
theorem r_44_76 (ls : a_LS) (st : List Value) (σ : a_HP) (Q : Option Value → a_HP → Prop) : Rn 44 76 ls st σ Q = acR 44 (o_go 80 ls st σ) ls σ Q := rn_row rfl ls st σ Q
theorem r_44_79 (ls : a_LS) (st : List Value) (σ : a_HP) (Q : Option Value → a_HP → Prop) : Rn 44 79 ls st σ Q = acR 44 (o_pi (nI 2) 80 ls st σ) ls σ Q := rn_row rfl ls st σ Q
theorem r_44_80 (ls : a_LS) (st : List Value) (σ : a_HP) (Q : Option Value → a_HP → Prop) : Rn 44 80 ls st σ Q = acR 44 (o_sti 3 81 ls st σ) ls σ Q := rn_row rfl ls st σ Q
theorem r_44_81 (ls : a_LS) (st : List Value) (σ : a_HP) (Q : Option Value → a_HP → Prop) : Rn 44 81 ls st σ Q = acR 44 (o_pi (nI 1) 82 ls st σ) ls σ Q := rn_row rfl ls st σ Q
theorem r_44_82 (ls : a_LS) (st : List Value) (σ : a_HP) (Q : Option Value → a_HP → Prop) : Rn 44 82 ls st σ Q = acR 44 (o_sti 4 84 ls st σ) ls σ Q := rn_row rfl ls st σ Q
theorem r_44_84 (ls : a_LS) (st : List Value) (σ : a_HP) (Q : Option Value → a_HP → Prop) : Rn 44 84 ls st σ Q = acR 44 (o_ldi 4 86 ls st σ) ls σ Q := rn_row rfl ls st σ Q
theorem r_44_86 (ls : a_LS) (st : List Value) (σ : a_HP) (Q : Option Value → a_HP → Prop) : Rn 44 86 ls st σ Q = acR 44 (o_ldi 3 87 ls st σ) ls σ Q := rn_row rfl ls st σ Q
theorem r_44_87 (ls : a_LS) (st : List Value) (σ : a_HP) (Q : Option Value → a_HP → Prop) : Rn 44 87 ls st σ Q = acR 44 (o_cgt 123 90 ls st σ) ls σ Q := rn_row rfl ls st σ Q
theorem r_44_90 (ls : a_LS) (st : List Value) (σ : a_HP) (Q : Option Value → a_HP → Prop) : Rn 44 90 ls st σ Q = acR 44 (o_lda 0 91 ls st σ) ls σ Q := rn_row rfl ls st σ Q
theorem r_44_91 (ls : a_LS) (st : List Value) (σ : a_HP) (Q : Option Value → a_HP → Prop) : Rn 44 91 ls st σ Q = acR 44 (o_ivv 6 45 0 94 ls st σ) ls σ Q := rn_row rfl ls st σ Q
theorem r_44_94 (ls : a_LS) (st : List Value) (σ : a_HP) (Q : Option Value → a_HP → Prop) : Rn 44 94 ls st σ Q = acR 44 (o_lda 0 95 ls st σ) ls σ Q := rn_row rfl ls st σ Q
theorem r_44_95 (ls : a_LS) (st : List Value) (σ : a_HP) (Q : Option Value → a_HP → Prop) : Rn 44 95 ls st σ Q = acR 44 (o_get 6 5 98 ls st σ) ls σ Q := rn_row rfl ls st σ Q
theorem r_44_98 (ls : a_LS) (st : List Value) (σ : a_HP) (Q : Option Value → a_HP → Prop) : Rn 44 98 ls st σ Q = acR 44 (o_pi (nI 3) 99 ls st σ) ls σ Q := rn_row rfl ls st σ Q
theorem r_44_99 (ls : a_LS) (st : List Value) (σ : a_HP) (Q : Option Value → a_HP → Prop) : Rn 44 99 ls st σ Q = acR 44 (o_ceq 104 102 ls st σ) ls σ Q := rn_row rfl ls st σ Q
theorem r_44_102 (ls : a_LS) (st : List Value) (σ : a_HP) (Q : Option Value → a_HP → Prop) : Rn 44 102 ls st σ Q = acR 44 (o_pi (nI 0) 103 ls st σ) ls σ Q := rn_row rfl ls st σ Q
theorem r_44_103 (ls : a_LS) (st : List Value) (σ : a_HP) (Q : Option Value → a_HP → Prop) : Rn 44 103 ls st σ Q = acR 44 (o_rz ls st σ) ls σ Q := rn_row rfl ls st σ Q
theorem r_44_104 (ls : a_LS) (st : List Value) (σ : a_HP) (Q : Option Value → a_HP → Prop) : Rn 44 104 ls st σ Q = acR 44 (o_lda 0 105 ls st σ) ls σ Q := rn_row rfl ls st σ Q
theorem r_44_105 (ls : a_LS) (st : List Value) (σ : a_HP) (Q : Option Value → a_HP → Prop) : Rn 44 105 ls st σ Q = acR 44 (o_get 6 3 108 ls st σ) ls σ Q := rn_row rfl ls st σ Q
theorem r_44_108 (ls : a_LS) (st : List Value) (σ : a_HP) (Q : Option Value → a_HP → Prop) : Rn 44 108 ls st σ Q = acR 44 (o_ldi 2 109 ls st σ) ls σ Q := rn_row rfl ls st σ Q
theorem r_44_109 (ls : a_LS) (st : List Value) (σ : a_HP) (Q : Option Value → a_HP → Prop) : Rn 44 109 ls st σ Q = acR 44 (o_ldi 4 111 ls st σ) ls σ Q := rn_row rfl ls st σ Q
theorem r_44_111 (ls : a_LS) (st : List Value) (σ : a_HP) (Q : Option Value → a_HP → Prop) : Rn 44 111 ls st σ Q = acR 44 (o_bi f_add 112 ls st σ) ls σ Q := rn_row rfl ls st σ Q
theorem r_44_112 (ls : a_LS) (st : List Value) (σ : a_HP) (Q : Option Value → a_HP → Prop) : Rn 44 112 ls st σ Q = acR 44 (o_lda 0 113 ls st σ) ls σ Q := rn_row rfl ls st σ Q
theorem r_44_113 (ls : a_LS) (st : List Value) (σ : a_HP) (Q : Option Value → a_HP → Prop) : Rn 44 113 ls st σ Q = acR 44 (o_get 6 7 116 ls st σ) ls σ Q := rn_row rfl ls st σ Q
theorem r_44_116 (ls : a_LS) (st : List Value) (σ : a_HP) (Q : Option Value → a_HP → Prop) : Rn 44 116 ls st σ Q = acR 44 (o_ias 117 ls st σ) ls σ Q := rn_row rfl ls st σ Q
theorem r_44_117 (ls : a_LS) (st : List Value) (σ : a_HP) (Q : Option Value → a_HP → Prop) : Rn 44 117 ls st σ Q = acR 44 (o_inc 4 (nI 1) 120 ls st σ) ls σ Q := rn_row rfl ls st σ Q
theorem r_44_120 (ls : a_LS) (st : List Value) (σ : a_HP) (Q : Option Value → a_HP → Prop) : Rn 44 120 ls st σ Q = acR 44 (o_go 84 ls st σ) ls σ Q := rn_row rfl ls st σ Q
theorem r_44_123 (ls : a_LS) (st : List Value) (σ : a_HP) (Q : Option Value → a_HP → Prop) : Rn 44 123 ls st σ Q = acR 44 (o_lda 0 124 ls st σ) ls σ Q := rn_row rfl ls st σ Q
theorem r_44_124 (ls : a_LS) (st : List Value) (σ : a_HP) (Q : Option Value → a_HP → Prop) : Rn 44 124 ls st σ Q = acR 44 (o_ivv 6 45 0 127 ls st σ) ls σ Q := rn_row rfl ls st σ Q
theorem r_44_127 (ls : a_LS) (st : List Value) (σ : a_HP) (Q : Option Value → a_HP → Prop) : Rn 44 127 ls st σ Q = acR 44 (o_lda 0 128 ls st σ) ls σ Q := rn_row rfl ls st σ Q
theorem r_44_128 (ls : a_LS) (st : List Value) (σ : a_HP) (Q : Option Value → a_HP → Prop) : Rn 44 128 ls st σ Q = acR 44 (o_get 6 5 131 ls st σ) ls σ Q := rn_row rfl ls st σ Q
theorem r_44_131 (ls : a_LS) (st : List Value) (σ : a_HP) (Q : Option Value → a_HP → Prop) : Rn 44 131 ls st σ Q = acR 44 (o_pi (nI 4) 132 ls st σ) ls σ Q := rn_row rfl ls st σ Q
theorem r_44_132 (ls : a_LS) (st : List Value) (σ : a_HP) (Q : Option Value → a_HP → Prop) : Rn 44 132 ls st σ Q = acR 44 (o_cne 139 135 ls st σ) ls σ Q := rn_row rfl ls st σ Q
theorem r_44_135 (ls : a_LS) (st : List Value) (σ : a_HP) (Q : Option Value → a_HP → Prop) : Rn 44 135 ls st σ Q = acR 44 (o_pi (nI 1) 136 ls st σ) ls σ Q := rn_row rfl ls st σ Q
theorem r_44_136 (ls : a_LS) (st : List Value) (σ : a_HP) (Q : Option Value → a_HP → Prop) : Rn 44 136 ls st σ Q = acR 44 (o_go 140 ls st σ) ls σ Q := rn_row rfl ls st σ Q
theorem r_44_139 (ls : a_LS) (st : List Value) (σ : a_HP) (Q : Option Value → a_HP → Prop) : Rn 44 139 ls st σ Q = acR 44 (o_pi (nI 0) 140 ls st σ) ls σ Q := rn_row rfl ls st σ Q
theorem r_44_140 (ls : a_LS) (st : List Value) (σ : a_HP) (Q : Option Value → a_HP → Prop) : Rn 44 140 ls st σ Q = acR 44 (o_rz ls st σ) ls σ Q := rn_row rfl ls st σ Q
/-! 45: NetLaw$Text.takeToken()V -/
theorem cl_45 (x0 : Nat) (σ : a_HP) (Q : Option Value → a_HP → Prop) : Cl 45 [.ref x0] σ Q = Rn 45 0 [some (.ref x0)] [] σ Q := cl_of (Nat.le_of_ble_eq_true rfl) rfl σ Q
theorem r_45_0 (ls : a_LS) (st : List Value) (σ : a_HP) (Q : Option Value → a_HP → Prop) : Rn 45 0 ls st σ Q = acR 45 (o_lda 0 1 ls st σ) ls σ Q := rn_row rfl ls st σ Q
theorem r_45_1 (ls : a_LS) (st : List Value) (σ : a_HP) (Q : Option Value → a_HP → Prop) : Rn 45 1 ls st σ Q = acR 45 (o_get 6 4 4 ls st σ) ls σ Q := rn_row rfl ls st σ Q
theorem r_45_4 (ls : a_LS) (st : List Value) (σ : a_HP) (Q : Option Value → a_HP → Prop) : Rn 45 4 ls st σ Q = acR 45 (o_lda 0 5 ls st σ) ls σ Q := rn_row rfl ls st σ Q
theorem r_45_5 (ls : a_LS) (st : List Value) (σ : a_HP) (Q : Option Value → a_HP → Prop) : Rn 45 5 ls st σ Q = acR 45 (o_get 6 0 8 ls st σ) ls σ Q := rn_row rfl ls st σ Q
theorem r_45_8 (ls : a_LS) (st : List Value) (σ : a_HP) (Q : Option Value → a_HP → Prop) : Rn 45 8 ls st σ Q = acR 45 (o_cge 38 11 ls st σ) ls σ Q := rn_row rfl ls st σ Q
theorem r_45_11 (ls : a_LS) (st : List Value) (σ : a_HP) (Q : Option Value → a_HP → Prop) : Rn 45 11 ls st σ Q = acR 45 (o_lda 0 12 ls st σ) ls σ Q := rn_row rfl ls st σ Q
theorem r_45_12 (ls : a_LS) (st : List Value) (σ : a_HP) (Q : Option Value → a_HP → Prop) : Rn 45 12 ls st σ Q = acR 45 (o_get 6 2 15 ls st σ) ls σ Q := rn_row rfl ls st σ Q
theorem r_45_15 (ls : a_LS) (st : List Value) (σ : a_HP) (Q : Option Value → a_HP → Prop) : Rn 45 15 ls st σ Q = acR 45 (o_lda 0 16 ls st σ) ls σ Q := rn_row rfl ls st σ Q
theorem r_45_16 (ls : a_LS) (st : List Value) (σ : a_HP) (Q : Option Value → a_HP → Prop) : Rn 45 16 ls st σ Q = acR 45 (o_get 6 4 19 ls st σ) ls σ Q := rn_row rfl ls st σ Q
theorem r_45_19 (ls : a_LS) (st : List Value) (σ : a_HP) (Q : Option Value → a_HP → Prop) : Rn 45 19 ls st σ Q = acR 45 (o_bal 20 ls st σ) ls σ Q := rn_row rfl ls st σ Q
theorem r_45_20 (ls : a_LS) (st : List Value) (σ : a_HP) (Q : Option Value → a_HP → Prop) : Rn 45 20 ls st σ Q = acR 45 (o_pi (nI 32) 22 ls st σ) ls σ Q := rn_row rfl ls st σ Q
theorem r_45_22 (ls : a_LS) (st : List Value) (σ : a_HP) (Q : Option Value → a_HP → Prop) : Rn 45 22 ls st σ Q = acR 45 (o_cne 38 25 ls st σ) ls σ Q := rn_row rfl ls st σ Q
theorem r_45_25 (ls : a_LS) (st : List Value) (σ : a_HP) (Q : Option Value → a_HP → Prop) : Rn 45 25 ls st σ Q = acR 45 (o_lda 0 26 ls st σ) ls σ Q := rn_row rfl ls st σ Q
theorem r_45_26 (ls : a_LS) (st : List Value) (σ : a_HP) (Q : Option Value → a_HP → Prop) : Rn 45 26 ls st σ Q = acR 45 (o_dup 27 ls st σ) ls σ Q := rn_row rfl ls st σ Q
theorem r_45_27 (ls : a_LS) (st : List Value) (σ : a_HP) (Q : Option Value → a_HP → Prop) : Rn 45 27 ls st σ Q = acR 45 (o_get 6 4 30 ls st σ) ls σ Q := rn_row rfl ls st σ Q
theorem r_45_30 (ls : a_LS) (st : List Value) (σ : a_HP) (Q : Option Value → a_HP → Prop) : Rn 45 30 ls st σ Q = acR 45 (o_pi (nI 1) 31 ls st σ) ls σ Q := rn_row rfl ls st σ Q
theorem r_45_31 (ls : a_LS) (st : List Value) (σ : a_HP) (Q : Option Value → a_HP → Prop) : Rn 45 31 ls st σ Q = acR 45 (o_bi f_add 32 ls st σ) ls σ Q := rn_row rfl ls st σ Q
theorem r_45_32 (ls : a_LS) (st : List Value) (σ : a_HP) (Q : Option Value → a_HP → Prop) : Rn 45 32 ls st σ Q = acR 45 (o_put 6 4 35 ls st σ) ls σ Q := rn_row rfl ls st σ Q
theorem r_45_35 (ls : a_LS) (st : List Value) (σ : a_HP) (Q : Option Value → a_HP → Prop) : Rn 45 35 ls st σ Q = acR 45 (o_go 0 ls st σ) ls σ Q := rn_row rfl ls st σ Q
theorem r_45_38 (ls : a_LS) (st : List Value) (σ : a_HP) (Q : Option Value → a_HP → Prop) : Rn 45 38 ls st σ Q = acR 45 (o_lda 0 39 ls st σ) ls σ Q := rn_row rfl ls st σ Q
theorem r_45_39 (ls : a_LS) (st : List Value) (σ : a_HP) (Q : Option Value → a_HP → Prop) : Rn 45 39 ls st σ Q = acR 45 (o_lda 0 40 ls st σ) ls σ Q := rn_row rfl ls st σ Q
theorem r_45_40 (ls : a_LS) (st : List Value) (σ : a_HP) (Q : Option Value → a_HP → Prop) : Rn 45 40 ls st σ Q = acR 45 (o_get 6 4 43 ls st σ) ls σ Q := rn_row rfl ls st σ Q
theorem r_45_43 (ls : a_LS) (st : List Value) (σ : a_HP) (Q : Option Value → a_HP → Prop) : Rn 45 43 ls st σ Q = acR 45 (o_put 6 6 46 ls st σ) ls σ Q := rn_row rfl ls st σ Q
theorem r_45_46 (ls : a_LS) (st : List Value) (σ : a_HP) (Q : Option Value → a_HP → Prop) : Rn 45 46 ls st σ Q = acR 45 (o_lda 0 47 ls st σ) ls σ Q := rn_row rfl ls st σ Q
theorem r_45_47 (ls : a_LS) (st : List Value) (σ : a_HP) (Q : Option Value → a_HP → Prop) : Rn 45 47 ls st σ Q = acR 45 (o_get 6 4 50 ls st σ) ls σ Q := rn_row rfl ls st σ Q
theorem r_45_50 (ls : a_LS) (st : List Value) (σ : a_HP) (Q : Option Value → a_HP → Prop) : Rn 45 50 ls st σ Q = acR 45 (o_lda 0 51 ls st σ) ls σ Q := rn_row rfl ls st σ Q
theorem r_45_51 (ls : a_LS) (st : List Value) (σ : a_HP) (Q : Option Value → a_HP → Prop) : Rn 45 51 ls st σ Q = acR 45 (o_get 6 0 54 ls st σ) ls σ Q := rn_row rfl ls st σ Q
theorem r_45_54 (ls : a_LS) (st : List Value) (σ : a_HP) (Q : Option Value → a_HP → Prop) : Rn 45 54 ls st σ Q = acR 45 (o_clt 65 57 ls st σ) ls σ Q := rn_row rfl ls st σ Q
theorem r_45_57 (ls : a_LS) (st : List Value) (σ : a_HP) (Q : Option Value → a_HP → Prop) : Rn 45 57 ls st σ Q = acR 45 (o_lda 0 58 ls st σ) ls σ Q := rn_row rfl ls st σ Q
theorem r_45_58 (ls : a_LS) (st : List Value) (σ : a_HP) (Q : Option Value → a_HP → Prop) : Rn 45 58 ls st σ Q = acR 45 (o_pi (nI 5) 59 ls st σ) ls σ Q := rn_row rfl ls st σ Q
theorem r_45_59 (ls : a_LS) (st : List Value) (σ : a_HP) (Q : Option Value → a_HP → Prop) : Rn 45 59 ls st σ Q = acR 45 (o_put 6 5 62 ls st σ) ls σ Q := rn_row rfl ls st σ Q
theorem r_45_62 (ls : a_LS) (st : List Value) (σ : a_HP) (Q : Option Value → a_HP → Prop) : Rn 45 62 ls st σ Q = acR 45 (o_go 143 ls st σ) ls σ Q := rn_row rfl ls st σ Q
theorem r_45_65 (ls : a_LS) (st : List Value) (σ : a_HP) (Q : Option Value → a_HP → Prop) : Rn 45 65 ls st σ Q = acR 45 (o_lda 0 66 ls st σ) ls σ Q := rn_row rfl ls st σ Q
theorem r_45_66 (ls : a_LS) (st : List Value) (σ : a_HP) (Q : Option Value → a_HP → Prop) : Rn 45 66 ls st σ Q = acR 45 (o_get 6 2 69 ls st σ) ls σ Q := rn_row rfl ls st σ Q
theorem r_45_69 (ls : a_LS) (st : List Value) (σ : a_HP) (Q : Option Value → a_HP → Prop) : Rn 45 69 ls st σ Q = acR 45 (o_lda 0 70 ls st σ) ls σ Q := rn_row rfl ls st σ Q
theorem r_45_70 (ls : a_LS) (st : List Value) (σ : a_HP) (Q : Option Value → a_HP → Prop) : Rn 45 70 ls st σ Q = acR 45 (o_get 6 4 73 ls st σ) ls σ Q := rn_row rfl ls st σ Q
theorem r_45_73 (ls : a_LS) (st : List Value) (σ : a_HP) (Q : Option Value → a_HP → Prop) : Rn 45 73 ls st σ Q = acR 45 (o_bal 74 ls st σ) ls σ Q := rn_row rfl ls st σ Q
theorem r_45_74 (ls : a_LS) (st : List Value) (σ : a_HP) (Q : Option Value → a_HP → Prop) : Rn 45 74 ls st σ Q = acR 45 (o_ivs 49 1 77 ls st σ) ls σ Q := rn_row rfl ls st σ Q
theorem r_45_77 (ls : a_LS) (st : List Value) (σ : a_HP) (Q : Option Value → a_HP → Prop) : Rn 45 77 ls st σ Q = acR 45 (o_eq 87 80 ls st σ) ls σ Q := rn_row rfl ls st σ Q
theorem r_45_80 (ls : a_LS) (st : List Value) (σ : a_HP) (Q : Option Value → a_HP → Prop) : Rn 45 80 ls st σ Q = acR 45 (o_lda 0 81 ls st σ) ls σ Q := rn_row rfl ls st σ Q
theorem r_45_81 (ls : a_LS) (st : List Value) (σ : a_HP) (Q : Option Value → a_HP → Prop) : Rn 45 81 ls st σ Q = acR 45 (o_ivv 6 46 0 84 ls st σ) ls σ Q := rn_row rfl ls st σ Q
theorem r_45_84 (ls : a_LS) (st : List Value) (σ : a_HP) (Q : Option Value → a_HP → Prop) : Rn 45 84 ls st σ Q = acR 45 (o_go 143 ls st σ) ls σ Q := rn_row rfl ls st σ Q
theorem r_45_87 (ls : a_LS) (st : List Value) (σ : a_HP) (Q : Option Value → a_HP → Prop) : Rn 45 87 ls st σ Q = acR 45 (o_lda 0 88 ls st σ) ls σ Q := rn_row rfl ls st σ Q
theorem r_45_88 (ls : a_LS) (st : List Value) (σ : a_HP) (Q : Option Value → a_HP → Prop) : Rn 45 88 ls st σ Q = acR 45 (o_get 6 2 91 ls st σ) ls σ Q := rn_row rfl ls st σ Q
theorem r_45_91 (ls : a_LS) (st : List Value) (σ : a_HP) (Q : Option Value → a_HP → Prop) : Rn 45 91 ls st σ Q = acR 45 (o_lda 0 92 ls st σ) ls σ Q := rn_row rfl ls st σ Q
theorem r_45_92 (ls : a_LS) (st : List Value) (σ : a_HP) (Q : Option Value → a_HP → Prop) : Rn 45 92 ls st σ Q = acR 45 (o_get 6 4 95 ls st σ) ls σ Q := rn_row rfl ls st σ Q
theorem r_45_95 (ls : a_LS) (st : List Value) (σ : a_HP) (Q : Option Value → a_HP → Prop) : Rn 45 95 ls st σ Q = acR 45 (o_bal 96 ls st σ) ls σ Q := rn_row rfl ls st σ Q
theorem r_45_96 (ls : a_LS) (st : List Value) (σ : a_HP) (Q : Option Value → a_HP → Prop) : Rn 45 96 ls st σ Q = acR 45 (o_ivs 50 1 99 ls st σ) ls σ Q := rn_row rfl ls st σ Q
theorem r_45_99 (ls : a_LS) (st : List Value) (σ : a_HP) (Q : Option Value → a_HP → Prop) : Rn 45 99 ls st σ Q = acR 45 (o_eq 109 102 ls st σ) ls σ Q := rn_row rfl ls st σ Q
theorem r_45_102 (ls : a_LS) (st : List Value) (σ : a_HP) (Q : Option Value → a_HP → Prop) : Rn 45 102 ls st σ Q = acR 45 (o_lda 0 103 ls st σ) ls σ Q := rn_row rfl ls st σ Q
theorem r_45_103 (ls : a_LS) (st : List Value) (σ : a_HP) (Q : Option Value → a_HP → Prop) : Rn 45 103 ls st σ Q = acR 45 (o_ivv 6 48 0 106 ls st σ) ls σ Q := rn_row rfl ls st σ Q
theorem r_45_106 (ls : a_LS) (st : List Value) (σ : a_HP) (Q : Option Value → a_HP → Prop) : Rn 45 106 ls st σ Q = acR 45 (o_go 143 ls st σ) ls σ Q := rn_row rfl ls st σ Q
theorem r_45_109 (ls : a_LS) (st : List Value) (σ : a_HP) (Q : Option Value → a_HP → Prop) : Rn 45 109 ls st σ Q = acR 45 (o_lda 0 110 ls st σ) ls σ Q := rn_row rfl ls st σ Q
theorem r_45_110 (ls : a_LS) (st : List Value) (σ : a_HP) (Q : Option Value → a_HP → Prop) : Rn 45 110 ls st σ Q = acR 45 (o_lda 0 111 ls st σ) ls σ Q := rn_row rfl ls st σ Q
theorem r_45_111 (ls : a_LS) (st : List Value) (σ : a_HP) (Q : Option Value → a_HP → Prop) : Rn 45 111 ls st σ Q = acR 45 (o_get 6 2 114 ls st σ) ls σ Q := rn_row rfl ls st σ Q
theorem r_45_114 (ls : a_LS) (st : List Value) (σ : a_HP) (Q : Option Value → a_HP → Prop) : Rn 45 114 ls st σ Q = acR 45 (o_lda 0 115 ls st σ) ls σ Q := rn_row rfl ls st σ Q
theorem r_45_115 (ls : a_LS) (st : List Value) (σ : a_HP) (Q : Option Value → a_HP → Prop) : Rn 45 115 ls st σ Q = acR 45 (o_get 6 4 118 ls st σ) ls σ Q := rn_row rfl ls st σ Q
theorem r_45_118 (ls : a_LS) (st : List Value) (σ : a_HP) (Q : Option Value → a_HP → Prop) : Rn 45 118 ls st σ Q = acR 45 (o_bal 119 ls st σ) ls σ Q := rn_row rfl ls st σ Q
theorem r_45_119 (ls : a_LS) (st : List Value) (σ : a_HP) (Q : Option Value → a_HP → Prop) : Rn 45 119 ls st σ Q = acR 45 (o_pi (nI 59) 121 ls st σ) ls σ Q := rn_row rfl ls st σ Q
theorem r_45_121 (ls : a_LS) (st : List Value) (σ : a_HP) (Q : Option Value → a_HP → Prop) : Rn 45 121 ls st σ Q = acR 45 (o_cne 128 124 ls st σ) ls σ Q := rn_row rfl ls st σ Q
theorem r_45_124 (ls : a_LS) (st : List Value) (σ : a_HP) (Q : Option Value → a_HP → Prop) : Rn 45 124 ls st σ Q = acR 45 (o_pi (nI 4) 125 ls st σ) ls σ Q := rn_row rfl ls st σ Q
theorem r_45_125 (ls : a_LS) (st : List Value) (σ : a_HP) (Q : Option Value → a_HP → Prop) : Rn 45 125 ls st σ Q = acR 45 (o_go 130 ls st σ) ls σ Q := rn_row rfl ls st σ Q
theorem r_45_128 (ls : a_LS) (st : List Value) (σ : a_HP) (Q : Option Value → a_HP → Prop) : Rn 45 128 ls st σ Q = acR 45 (o_pi (nI 6) 130 ls st σ) ls σ Q := rn_row rfl ls st σ Q
theorem r_45_130 (ls : a_LS) (st : List Value) (σ : a_HP) (Q : Option Value → a_HP → Prop) : Rn 45 130 ls st σ Q = acR 45 (o_put 6 5 133 ls st σ) ls σ Q := rn_row rfl ls st σ Q
theorem r_45_133 (ls : a_LS) (st : List Value) (σ : a_HP) (Q : Option Value → a_HP → Prop) : Rn 45 133 ls st σ Q = acR 45 (o_lda 0 134 ls st σ) ls σ Q := rn_row rfl ls st σ Q
theorem r_45_134 (ls : a_LS) (st : List Value) (σ : a_HP) (Q : Option Value → a_HP → Prop) : Rn 45 134 ls st σ Q = acR 45 (o_dup 135 ls st σ) ls σ Q := rn_row rfl ls st σ Q
theorem r_45_135 (ls : a_LS) (st : List Value) (σ : a_HP) (Q : Option Value → a_HP → Prop) : Rn 45 135 ls st σ Q = acR 45 (o_get 6 4 138 ls st σ) ls σ Q := rn_row rfl ls st σ Q
theorem r_45_138 (ls : a_LS) (st : List Value) (σ : a_HP) (Q : Option Value → a_HP → Prop) : Rn 45 138 ls st σ Q = acR 45 (o_pi (nI 1) 139 ls st σ) ls σ Q := rn_row rfl ls st σ Q
theorem r_45_139 (ls : a_LS) (st : List Value) (σ : a_HP) (Q : Option Value → a_HP → Prop) : Rn 45 139 ls st σ Q = acR 45 (o_bi f_add 140 ls st σ) ls σ Q := rn_row rfl ls st σ Q
theorem r_45_140 (ls : a_LS) (st : List Value) (σ : a_HP) (Q : Option Value → a_HP → Prop) : Rn 45 140 ls st σ Q = acR 45 (o_put 6 4 143 ls st σ) ls σ Q := rn_row rfl ls st σ Q
theorem r_45_143 (ls : a_LS) (st : List Value) (σ : a_HP) (Q : Option Value → a_HP → Prop) : Rn 45 143 ls st σ Q = acR 45 (o_rv ls st σ) ls σ Q := rn_row rfl ls st σ Q
/-! 46: NetLaw$Text.takeWord()V -/
theorem cl_46 (x0 : Nat) (σ : a_HP) (Q : Option Value → a_HP → Prop) : Cl 46 [.ref x0] σ Q = Rn 46 0 [some (.ref x0)] [] σ Q := cl_of (Nat.le_of_ble_eq_true rfl) rfl σ Q
theorem r_46_0 (ls : a_LS) (st : List Value) (σ : a_HP) (Q : Option Value → a_HP → Prop) : Rn 46 0 ls st σ Q = acR 46 (o_lda 0 1 ls st σ) ls σ Q := rn_row rfl ls st σ Q
theorem r_46_1 (ls : a_LS) (st : List Value) (σ : a_HP) (Q : Option Value → a_HP → Prop) : Rn 46 1 ls st σ Q = acR 46 (o_get 6 4 4 ls st σ) ls σ Q := rn_row rfl ls st σ Q
theorem r_46_4 (ls : a_LS) (st : List Value) (σ : a_HP) (Q : Option Value → a_HP → Prop) : Rn 46 4 ls st σ Q = acR 46 (o_lda 0 5 ls st σ) ls σ Q := rn_row rfl ls st σ Q
theorem r_46_5 (ls : a_LS) (st : List Value) (σ : a_HP) (Q : Option Value → a_HP → Prop) : Rn 46 5 ls st σ Q = acR 46 (o_get 6 0 8 ls st σ) ls σ Q := rn_row rfl ls st σ Q
theorem r_46_8 (ls : a_LS) (st : List Value) (σ : a_HP) (Q : Option Value → a_HP → Prop) : Rn 46 8 ls st σ Q = acR 46 (o_cge 39 11 ls st σ) ls σ Q := rn_row rfl ls st σ Q
theorem r_46_11 (ls : a_LS) (st : List Value) (σ : a_HP) (Q : Option Value → a_HP → Prop) : Rn 46 11 ls st σ Q = acR 46 (o_lda 0 12 ls st σ) ls σ Q := rn_row rfl ls st σ Q
theorem r_46_12 (ls : a_LS) (st : List Value) (σ : a_HP) (Q : Option Value → a_HP → Prop) : Rn 46 12 ls st σ Q = acR 46 (o_get 6 2 15 ls st σ) ls σ Q := rn_row rfl ls st σ Q
theorem r_46_15 (ls : a_LS) (st : List Value) (σ : a_HP) (Q : Option Value → a_HP → Prop) : Rn 46 15 ls st σ Q = acR 46 (o_lda 0 16 ls st σ) ls σ Q := rn_row rfl ls st σ Q
theorem r_46_16 (ls : a_LS) (st : List Value) (σ : a_HP) (Q : Option Value → a_HP → Prop) : Rn 46 16 ls st σ Q = acR 46 (o_get 6 4 19 ls st σ) ls σ Q := rn_row rfl ls st σ Q
theorem r_46_19 (ls : a_LS) (st : List Value) (σ : a_HP) (Q : Option Value → a_HP → Prop) : Rn 46 19 ls st σ Q = acR 46 (o_bal 20 ls st σ) ls σ Q := rn_row rfl ls st σ Q
theorem r_46_20 (ls : a_LS) (st : List Value) (σ : a_HP) (Q : Option Value → a_HP → Prop) : Rn 46 20 ls st σ Q = acR 46 (o_ivs 49 1 23 ls st σ) ls σ Q := rn_row rfl ls st σ Q
theorem r_46_23 (ls : a_LS) (st : List Value) (σ : a_HP) (Q : Option Value → a_HP → Prop) : Rn 46 23 ls st σ Q = acR 46 (o_eq 39 26 ls st σ) ls σ Q := rn_row rfl ls st σ Q
theorem r_46_26 (ls : a_LS) (st : List Value) (σ : a_HP) (Q : Option Value → a_HP → Prop) : Rn 46 26 ls st σ Q = acR 46 (o_lda 0 27 ls st σ) ls σ Q := rn_row rfl ls st σ Q
theorem r_46_27 (ls : a_LS) (st : List Value) (σ : a_HP) (Q : Option Value → a_HP → Prop) : Rn 46 27 ls st σ Q = acR 46 (o_dup 28 ls st σ) ls σ Q := rn_row rfl ls st σ Q
theorem r_46_28 (ls : a_LS) (st : List Value) (σ : a_HP) (Q : Option Value → a_HP → Prop) : Rn 46 28 ls st σ Q = acR 46 (o_get 6 4 31 ls st σ) ls σ Q := rn_row rfl ls st σ Q
theorem r_46_31 (ls : a_LS) (st : List Value) (σ : a_HP) (Q : Option Value → a_HP → Prop) : Rn 46 31 ls st σ Q = acR 46 (o_pi (nI 1) 32 ls st σ) ls σ Q := rn_row rfl ls st σ Q
theorem r_46_32 (ls : a_LS) (st : List Value) (σ : a_HP) (Q : Option Value → a_HP → Prop) : Rn 46 32 ls st σ Q = acR 46 (o_bi f_add 33 ls st σ) ls σ Q := rn_row rfl ls st σ Q
theorem r_46_33 (ls : a_LS) (st : List Value) (σ : a_HP) (Q : Option Value → a_HP → Prop) : Rn 46 33 ls st σ Q = acR 46 (o_put 6 4 36 ls st σ) ls σ Q := rn_row rfl ls st σ Q
theorem r_46_36 (ls : a_LS) (st : List Value) (σ : a_HP) (Q : Option Value → a_HP → Prop) : Rn 46 36 ls st σ Q = acR 46 (o_go 0 ls st σ) ls σ Q := rn_row rfl ls st σ Q
theorem r_46_39 (ls : a_LS) (st : List Value) (σ : a_HP) (Q : Option Value → a_HP → Prop) : Rn 46 39 ls st σ Q = acR 46 (o_lda 0 40 ls st σ) ls σ Q := rn_row rfl ls st σ Q
theorem r_46_40 (ls : a_LS) (st : List Value) (σ : a_HP) (Q : Option Value → a_HP → Prop) : Rn 46 40 ls st σ Q = acR 46 (o_lds 0 42 ls st σ) ls σ Q := rn_row rfl ls st σ Q
theorem r_46_42 (ls : a_LS) (st : List Value) (σ : a_HP) (Q : Option Value → a_HP → Prop) : Rn 46 42 ls st σ Q = acR 46 (o_ivv 6 47 1 45 ls st σ) ls σ Q := rn_row rfl ls st σ Q
theorem r_46_45 (ls : a_LS) (st : List Value) (σ : a_HP) (Q : Option Value → a_HP → Prop) : Rn 46 45 ls st σ Q = acR 46 (o_eq 56 48 ls st σ) ls σ Q := rn_row rfl ls st σ Q
theorem r_46_48 (ls : a_LS) (st : List Value) (σ : a_HP) (Q : Option Value → a_HP → Prop) : Rn 46 48 ls st σ Q = acR 46 (o_lda 0 49 ls st σ) ls σ Q := rn_row rfl ls st σ Q
theorem r_46_49 (ls : a_LS) (st : List Value) (σ : a_HP) (Q : Option Value → a_HP → Prop) : Rn 46 49 ls st σ Q = acR 46 (o_pi (nI 0) 50 ls st σ) ls σ Q := rn_row rfl ls st σ Q
theorem r_46_50 (ls : a_LS) (st : List Value) (σ : a_HP) (Q : Option Value → a_HP → Prop) : Rn 46 50 ls st σ Q = acR 46 (o_put 6 5 53 ls st σ) ls σ Q := rn_row rfl ls st σ Q
theorem r_46_53 (ls : a_LS) (st : List Value) (σ : a_HP) (Q : Option Value → a_HP → Prop) : Rn 46 53 ls st σ Q = acR 46 (o_go 92 ls st σ) ls σ Q := rn_row rfl ls st σ Q
theorem r_46_56 (ls : a_LS) (st : List Value) (σ : a_HP) (Q : Option Value → a_HP → Prop) : Rn 46 56 ls st σ Q = acR 46 (o_lda 0 57 ls st σ) ls σ Q := rn_row rfl ls st σ Q
theorem r_46_57 (ls : a_LS) (st : List Value) (σ : a_HP) (Q : Option Value → a_HP → Prop) : Rn 46 57 ls st σ Q = acR 46 (o_lds 1 59 ls st σ) ls σ Q := rn_row rfl ls st σ Q
theorem r_46_59 (ls : a_LS) (st : List Value) (σ : a_HP) (Q : Option Value → a_HP → Prop) : Rn 46 59 ls st σ Q = acR 46 (o_ivv 6 47 1 62 ls st σ) ls σ Q := rn_row rfl ls st σ Q
theorem r_46_62 (ls : a_LS) (st : List Value) (σ : a_HP) (Q : Option Value → a_HP → Prop) : Rn 46 62 ls st σ Q = acR 46 (o_eq 73 65 ls st σ) ls σ Q := rn_row rfl ls st σ Q
theorem r_46_65 (ls : a_LS) (st : List Value) (σ : a_HP) (Q : Option Value → a_HP → Prop) : Rn 46 65 ls st σ Q = acR 46 (o_lda 0 66 ls st σ) ls σ Q := rn_row rfl ls st σ Q
theorem r_46_66 (ls : a_LS) (st : List Value) (σ : a_HP) (Q : Option Value → a_HP → Prop) : Rn 46 66 ls st σ Q = acR 46 (o_pi (nI 1) 67 ls st σ) ls σ Q := rn_row rfl ls st σ Q
theorem r_46_67 (ls : a_LS) (st : List Value) (σ : a_HP) (Q : Option Value → a_HP → Prop) : Rn 46 67 ls st σ Q = acR 46 (o_put 6 5 70 ls st σ) ls σ Q := rn_row rfl ls st σ Q
theorem r_46_70 (ls : a_LS) (st : List Value) (σ : a_HP) (Q : Option Value → a_HP → Prop) : Rn 46 70 ls st σ Q = acR 46 (o_go 92 ls st σ) ls σ Q := rn_row rfl ls st σ Q
theorem r_46_73 (ls : a_LS) (st : List Value) (σ : a_HP) (Q : Option Value → a_HP → Prop) : Rn 46 73 ls st σ Q = acR 46 (o_lda 0 74 ls st σ) ls σ Q := rn_row rfl ls st σ Q
theorem r_46_74 (ls : a_LS) (st : List Value) (σ : a_HP) (Q : Option Value → a_HP → Prop) : Rn 46 74 ls st σ Q = acR 46 (o_lda 0 75 ls st σ) ls σ Q := rn_row rfl ls st σ Q
theorem r_46_75 (ls : a_LS) (st : List Value) (σ : a_HP) (Q : Option Value → a_HP → Prop) : Rn 46 75 ls st σ Q = acR 46 (o_lds 2 77 ls st σ) ls σ Q := rn_row rfl ls st σ Q
theorem r_46_77 (ls : a_LS) (st : List Value) (σ : a_HP) (Q : Option Value → a_HP → Prop) : Rn 46 77 ls st σ Q = acR 46 (o_ivv 6 47 1 80 ls st σ) ls σ Q := rn_row rfl ls st σ Q
theorem r_46_80 (ls : a_LS) (st : List Value) (σ : a_HP) (Q : Option Value → a_HP → Prop) : Rn 46 80 ls st σ Q = acR 46 (o_eq 87 83 ls st σ) ls σ Q := rn_row rfl ls st σ Q
theorem r_46_83 (ls : a_LS) (st : List Value) (σ : a_HP) (Q : Option Value → a_HP → Prop) : Rn 46 83 ls st σ Q = acR 46 (o_pi (nI 2) 84 ls st σ) ls σ Q := rn_row rfl ls st σ Q
theorem r_46_84 (ls : a_LS) (st : List Value) (σ : a_HP) (Q : Option Value → a_HP → Prop) : Rn 46 84 ls st σ Q = acR 46 (o_go 89 ls st σ) ls σ Q := rn_row rfl ls st σ Q
theorem r_46_87 (ls : a_LS) (st : List Value) (σ : a_HP) (Q : Option Value → a_HP → Prop) : Rn 46 87 ls st σ Q = acR 46 (o_pi (nI 6) 89 ls st σ) ls σ Q := rn_row rfl ls st σ Q
theorem r_46_89 (ls : a_LS) (st : List Value) (σ : a_HP) (Q : Option Value → a_HP → Prop) : Rn 46 89 ls st σ Q = acR 46 (o_put 6 5 92 ls st σ) ls σ Q := rn_row rfl ls st σ Q
theorem r_46_92 (ls : a_LS) (st : List Value) (σ : a_HP) (Q : Option Value → a_HP → Prop) : Rn 46 92 ls st σ Q = acR 46 (o_rv ls st σ) ls σ Q := rn_row rfl ls st σ Q
/-! 47: NetLaw$Text.tokenIs(Ljava/lang/String;)Z -/
theorem cl_47 (x0 : Nat) (x1 : Nat) (σ : a_HP) (Q : Option Value → a_HP → Prop) : Cl 47 [.ref x0, .ref x1] σ Q = Rn 47 0 [some (.ref x0), some (.ref x1), none] [] σ Q := cl_of (Nat.le_of_ble_eq_true rfl) rfl σ Q
theorem r_47_0 (ls : a_LS) (st : List Value) (σ : a_HP) (Q : Option Value → a_HP → Prop) : Rn 47 0 ls st σ Q = acR 47 (o_lda 0 1 ls st σ) ls σ Q := rn_row rfl ls st σ Q
theorem r_47_1 (ls : a_LS) (st : List Value) (σ : a_HP) (Q : Option Value → a_HP → Prop) : Rn 47 1 ls st σ Q = acR 47 (o_get 6 4 4 ls st σ) ls σ Q := rn_row rfl ls st σ Q
theorem r_47_4 (ls : a_LS) (st : List Value) (σ : a_HP) (Q : Option Value → a_HP → Prop) : Rn 47 4 ls st σ Q = acR 47 (o_lda 0 5 ls st σ) ls σ Q := rn_row rfl ls st σ Q
theorem r_47_5 (ls : a_LS) (st : List Value) (σ : a_HP) (Q : Option Value → a_HP → Prop) : Rn 47 5 ls st σ Q = acR 47 (o_get 6 6 8 ls st σ) ls σ Q := rn_row rfl ls st σ Q
theorem r_47_8 (ls : a_LS) (st : List Value) (σ : a_HP) (Q : Option Value → a_HP → Prop) : Rn 47 8 ls st σ Q = acR 47 (o_bi f_sub 9 ls st σ) ls σ Q := rn_row rfl ls st σ Q
theorem r_47_9 (ls : a_LS) (st : List Value) (σ : a_HP) (Q : Option Value → a_HP → Prop) : Rn 47 9 ls st σ Q = acR 47 (o_lda 1 10 ls st σ) ls σ Q := rn_row rfl ls st σ Q
theorem r_47_10 (ls : a_LS) (st : List Value) (σ : a_HP) (Q : Option Value → a_HP → Prop) : Rn 47 10 ls st σ Q = acR 47 (o_sln 13 ls st σ) ls σ Q := rn_row rfl ls st σ Q
theorem r_47_13 (ls : a_LS) (st : List Value) (σ : a_HP) (Q : Option Value → a_HP → Prop) : Rn 47 13 ls st σ Q = acR 47 (o_ceq 18 16 ls st σ) ls σ Q := rn_row rfl ls st σ Q
theorem r_47_16 (ls : a_LS) (st : List Value) (σ : a_HP) (Q : Option Value → a_HP → Prop) : Rn 47 16 ls st σ Q = acR 47 (o_pi (nI 0) 17 ls st σ) ls σ Q := rn_row rfl ls st σ Q
theorem r_47_17 (ls : a_LS) (st : List Value) (σ : a_HP) (Q : Option Value → a_HP → Prop) : Rn 47 17 ls st σ Q = acR 47 (o_rz ls st σ) ls σ Q := rn_row rfl ls st σ Q
theorem r_47_18 (ls : a_LS) (st : List Value) (σ : a_HP) (Q : Option Value → a_HP → Prop) : Rn 47 18 ls st σ Q = acR 47 (o_pi (nI 0) 19 ls st σ) ls σ Q := rn_row rfl ls st σ Q
theorem r_47_19 (ls : a_LS) (st : List Value) (σ : a_HP) (Q : Option Value → a_HP → Prop) : Rn 47 19 ls st σ Q = acR 47 (o_sti 2 20 ls st σ) ls σ Q := rn_row rfl ls st σ Q
theorem r_47_20 (ls : a_LS) (st : List Value) (σ : a_HP) (Q : Option Value → a_HP → Prop) : Rn 47 20 ls st σ Q = acR 47 (o_ldi 2 21 ls st σ) ls σ Q := rn_row rfl ls st σ Q
theorem r_47_21 (ls : a_LS) (st : List Value) (σ : a_HP) (Q : Option Value → a_HP → Prop) : Rn 47 21 ls st σ Q = acR 47 (o_lda 1 22 ls st σ) ls σ Q := rn_row rfl ls st σ Q
theorem r_47_22 (ls : a_LS) (st : List Value) (σ : a_HP) (Q : Option Value → a_HP → Prop) : Rn 47 22 ls st σ Q = acR 47 (o_sln 25 ls st σ) ls σ Q := rn_row rfl ls st σ Q
theorem r_47_25 (ls : a_LS) (st : List Value) (σ : a_HP) (Q : Option Value → a_HP → Prop) : Rn 47 25 ls st σ Q = acR 47 (o_cge 55 28 ls st σ) ls σ Q := rn_row rfl ls st σ Q
theorem r_47_28 (ls : a_LS) (st : List Value) (σ : a_HP) (Q : Option Value → a_HP → Prop) : Rn 47 28 ls st σ Q = acR 47 (o_lda 0 29 ls st σ) ls σ Q := rn_row rfl ls st σ Q
theorem r_47_29 (ls : a_LS) (st : List Value) (σ : a_HP) (Q : Option Value → a_HP → Prop) : Rn 47 29 ls st σ Q = acR 47 (o_get 6 2 32 ls st σ) ls σ Q := rn_row rfl ls st σ Q
theorem r_47_32 (ls : a_LS) (st : List Value) (σ : a_HP) (Q : Option Value → a_HP → Prop) : Rn 47 32 ls st σ Q = acR 47 (o_lda 0 33 ls st σ) ls σ Q := rn_row rfl ls st σ Q
theorem r_47_33 (ls : a_LS) (st : List Value) (σ : a_HP) (Q : Option Value → a_HP → Prop) : Rn 47 33 ls st σ Q = acR 47 (o_get 6 6 36 ls st σ) ls σ Q := rn_row rfl ls st σ Q
theorem r_47_36 (ls : a_LS) (st : List Value) (σ : a_HP) (Q : Option Value → a_HP → Prop) : Rn 47 36 ls st σ Q = acR 47 (o_ldi 2 37 ls st σ) ls σ Q := rn_row rfl ls st σ Q
theorem r_47_37 (ls : a_LS) (st : List Value) (σ : a_HP) (Q : Option Value → a_HP → Prop) : Rn 47 37 ls st σ Q = acR 47 (o_bi f_add 38 ls st σ) ls σ Q := rn_row rfl ls st σ Q
theorem r_47_38 (ls : a_LS) (st : List Value) (σ : a_HP) (Q : Option Value → a_HP → Prop) : Rn 47 38 ls st σ Q = acR 47 (o_bal 39 ls st σ) ls σ Q := rn_row rfl ls st σ Q
theorem r_47_39 (ls : a_LS) (st : List Value) (σ : a_HP) (Q : Option Value → a_HP → Prop) : Rn 47 39 ls st σ Q = acR 47 (o_lda 1 40 ls st σ) ls σ Q := rn_row rfl ls st σ Q
theorem r_47_40 (ls : a_LS) (st : List Value) (σ : a_HP) (Q : Option Value → a_HP → Prop) : Rn 47 40 ls st σ Q = acR 47 (o_ldi 2 41 ls st σ) ls σ Q := rn_row rfl ls st σ Q
theorem r_47_41 (ls : a_LS) (st : List Value) (σ : a_HP) (Q : Option Value → a_HP → Prop) : Rn 47 41 ls st σ Q = acR 47 (o_sch 44 ls st σ) ls σ Q := rn_row rfl ls st σ Q
theorem r_47_44 (ls : a_LS) (st : List Value) (σ : a_HP) (Q : Option Value → a_HP → Prop) : Rn 47 44 ls st σ Q = acR 47 (o_ceq 49 47 ls st σ) ls σ Q := rn_row rfl ls st σ Q
theorem r_47_47 (ls : a_LS) (st : List Value) (σ : a_HP) (Q : Option Value → a_HP → Prop) : Rn 47 47 ls st σ Q = acR 47 (o_pi (nI 0) 48 ls st σ) ls σ Q := rn_row rfl ls st σ Q
theorem r_47_48 (ls : a_LS) (st : List Value) (σ : a_HP) (Q : Option Value → a_HP → Prop) : Rn 47 48 ls st σ Q = acR 47 (o_rz ls st σ) ls σ Q := rn_row rfl ls st σ Q
theorem r_47_49 (ls : a_LS) (st : List Value) (σ : a_HP) (Q : Option Value → a_HP → Prop) : Rn 47 49 ls st σ Q = acR 47 (o_inc 2 (nI 1) 52 ls st σ) ls σ Q := rn_row rfl ls st σ Q
theorem r_47_52 (ls : a_LS) (st : List Value) (σ : a_HP) (Q : Option Value → a_HP → Prop) : Rn 47 52 ls st σ Q = acR 47 (o_go 20 ls st σ) ls σ Q := rn_row rfl ls st σ Q
theorem r_47_55 (ls : a_LS) (st : List Value) (σ : a_HP) (Q : Option Value → a_HP → Prop) : Rn 47 55 ls st σ Q = acR 47 (o_pi (nI 1) 56 ls st σ) ls σ Q := rn_row rfl ls st σ Q
theorem r_47_56 (ls : a_LS) (st : List Value) (σ : a_HP) (Q : Option Value → a_HP → Prop) : Rn 47 56 ls st σ Q = acR 47 (o_rz ls st σ) ls σ Q := rn_row rfl ls st σ Q
/-! 48: NetLaw$Text.takeNumber()V -/
theorem cl_48 (x0 : Nat) (σ : a_HP) (Q : Option Value → a_HP → Prop) : Cl 48 [.ref x0] σ Q = Rn 48 0 [some (.ref x0)] [] σ Q := cl_of (Nat.le_of_ble_eq_true rfl) rfl σ Q
theorem r_48_0 (ls : a_LS) (st : List Value) (σ : a_HP) (Q : Option Value → a_HP → Prop) : Rn 48 0 ls st σ Q = acR 48 (o_lda 0 1 ls st σ) ls σ Q := rn_row rfl ls st σ Q
theorem r_48_1 (ls : a_LS) (st : List Value) (σ : a_HP) (Q : Option Value → a_HP → Prop) : Rn 48 1 ls st σ Q = acR 48 (o_pi (nI 0) 2 ls st σ) ls σ Q := rn_row rfl ls st σ Q
theorem r_48_2 (ls : a_LS) (st : List Value) (σ : a_HP) (Q : Option Value → a_HP → Prop) : Rn 48 2 ls st σ Q = acR 48 (o_put 6 7 5 ls st σ) ls σ Q := rn_row rfl ls st σ Q
theorem r_48_5 (ls : a_LS) (st : List Value) (σ : a_HP) (Q : Option Value → a_HP → Prop) : Rn 48 5 ls st σ Q = acR 48 (o_lda 0 6 ls st σ) ls σ Q := rn_row rfl ls st σ Q
theorem r_48_6 (ls : a_LS) (st : List Value) (σ : a_HP) (Q : Option Value → a_HP → Prop) : Rn 48 6 ls st σ Q = acR 48 (o_get 6 4 9 ls st σ) ls σ Q := rn_row rfl ls st σ Q
theorem r_48_9 (ls : a_LS) (st : List Value) (σ : a_HP) (Q : Option Value → a_HP → Prop) : Rn 48 9 ls st σ Q = acR 48 (o_lda 0 10 ls st σ) ls σ Q := rn_row rfl ls st σ Q
theorem r_48_10 (ls : a_LS) (st : List Value) (σ : a_HP) (Q : Option Value → a_HP → Prop) : Rn 48 10 ls st σ Q = acR 48 (o_get 6 0 13 ls st σ) ls σ Q := rn_row rfl ls st σ Q
theorem r_48_13 (ls : a_LS) (st : List Value) (σ : a_HP) (Q : Option Value → a_HP → Prop) : Rn 48 13 ls st σ Q = acR 48 (o_cge 68 16 ls st σ) ls σ Q := rn_row rfl ls st σ Q
theorem r_48_16 (ls : a_LS) (st : List Value) (σ : a_HP) (Q : Option Value → a_HP → Prop) : Rn 48 16 ls st σ Q = acR 48 (o_lda 0 17 ls st σ) ls σ Q := rn_row rfl ls st σ Q
theorem r_48_17 (ls : a_LS) (st : List Value) (σ : a_HP) (Q : Option Value → a_HP → Prop) : Rn 48 17 ls st σ Q = acR 48 (o_get 6 2 20 ls st σ) ls σ Q := rn_row rfl ls st σ Q
theorem r_48_20 (ls : a_LS) (st : List Value) (σ : a_HP) (Q : Option Value → a_HP → Prop) : Rn 48 20 ls st σ Q = acR 48 (o_lda 0 21 ls st σ) ls σ Q := rn_row rfl ls st σ Q
theorem r_48_21 (ls : a_LS) (st : List Value) (σ : a_HP) (Q : Option Value → a_HP → Prop) : Rn 48 21 ls st σ Q = acR 48 (o_get 6 4 24 ls st σ) ls σ Q := rn_row rfl ls st σ Q
theorem r_48_24 (ls : a_LS) (st : List Value) (σ : a_HP) (Q : Option Value → a_HP → Prop) : Rn 48 24 ls st σ Q = acR 48 (o_bal 25 ls st σ) ls σ Q := rn_row rfl ls st σ Q
theorem r_48_25 (ls : a_LS) (st : List Value) (σ : a_HP) (Q : Option Value → a_HP → Prop) : Rn 48 25 ls st σ Q = acR 48 (o_ivs 50 1 28 ls st σ) ls σ Q := rn_row rfl ls st σ Q
theorem r_48_28 (ls : a_LS) (st : List Value) (σ : a_HP) (Q : Option Value → a_HP → Prop) : Rn 48 28 ls st σ Q = acR 48 (o_eq 68 31 ls st σ) ls σ Q := rn_row rfl ls st σ Q
theorem r_48_31 (ls : a_LS) (st : List Value) (σ : a_HP) (Q : Option Value → a_HP → Prop) : Rn 48 31 ls st σ Q = acR 48 (o_lda 0 32 ls st σ) ls σ Q := rn_row rfl ls st σ Q
theorem r_48_32 (ls : a_LS) (st : List Value) (σ : a_HP) (Q : Option Value → a_HP → Prop) : Rn 48 32 ls st σ Q = acR 48 (o_pi (nI 10) 34 ls st σ) ls σ Q := rn_row rfl ls st σ Q
theorem r_48_34 (ls : a_LS) (st : List Value) (σ : a_HP) (Q : Option Value → a_HP → Prop) : Rn 48 34 ls st σ Q = acR 48 (o_lda 0 35 ls st σ) ls σ Q := rn_row rfl ls st σ Q
theorem r_48_35 (ls : a_LS) (st : List Value) (σ : a_HP) (Q : Option Value → a_HP → Prop) : Rn 48 35 ls st σ Q = acR 48 (o_get 6 7 38 ls st σ) ls σ Q := rn_row rfl ls st σ Q
theorem r_48_38 (ls : a_LS) (st : List Value) (σ : a_HP) (Q : Option Value → a_HP → Prop) : Rn 48 38 ls st σ Q = acR 48 (o_bi f_mul 39 ls st σ) ls σ Q := rn_row rfl ls st σ Q
theorem r_48_39 (ls : a_LS) (st : List Value) (σ : a_HP) (Q : Option Value → a_HP → Prop) : Rn 48 39 ls st σ Q = acR 48 (o_lda 0 40 ls st σ) ls σ Q := rn_row rfl ls st σ Q
theorem r_48_40 (ls : a_LS) (st : List Value) (σ : a_HP) (Q : Option Value → a_HP → Prop) : Rn 48 40 ls st σ Q = acR 48 (o_get 6 2 43 ls st σ) ls σ Q := rn_row rfl ls st σ Q
theorem r_48_43 (ls : a_LS) (st : List Value) (σ : a_HP) (Q : Option Value → a_HP → Prop) : Rn 48 43 ls st σ Q = acR 48 (o_lda 0 44 ls st σ) ls σ Q := rn_row rfl ls st σ Q
theorem r_48_44 (ls : a_LS) (st : List Value) (σ : a_HP) (Q : Option Value → a_HP → Prop) : Rn 48 44 ls st σ Q = acR 48 (o_get 6 4 47 ls st σ) ls σ Q := rn_row rfl ls st σ Q
theorem r_48_47 (ls : a_LS) (st : List Value) (σ : a_HP) (Q : Option Value → a_HP → Prop) : Rn 48 47 ls st σ Q = acR 48 (o_bal 48 ls st σ) ls σ Q := rn_row rfl ls st σ Q
theorem r_48_48 (ls : a_LS) (st : List Value) (σ : a_HP) (Q : Option Value → a_HP → Prop) : Rn 48 48 ls st σ Q = acR 48 (o_bi f_add 49 ls st σ) ls σ Q := rn_row rfl ls st σ Q
theorem r_48_49 (ls : a_LS) (st : List Value) (σ : a_HP) (Q : Option Value → a_HP → Prop) : Rn 48 49 ls st σ Q = acR 48 (o_pi (nI 48) 51 ls st σ) ls σ Q := rn_row rfl ls st σ Q
theorem r_48_51 (ls : a_LS) (st : List Value) (σ : a_HP) (Q : Option Value → a_HP → Prop) : Rn 48 51 ls st σ Q = acR 48 (o_bi f_sub 52 ls st σ) ls σ Q := rn_row rfl ls st σ Q
theorem r_48_52 (ls : a_LS) (st : List Value) (σ : a_HP) (Q : Option Value → a_HP → Prop) : Rn 48 52 ls st σ Q = acR 48 (o_put 6 7 55 ls st σ) ls σ Q := rn_row rfl ls st σ Q
theorem r_48_55 (ls : a_LS) (st : List Value) (σ : a_HP) (Q : Option Value → a_HP → Prop) : Rn 48 55 ls st σ Q = acR 48 (o_lda 0 56 ls st σ) ls σ Q := rn_row rfl ls st σ Q
theorem r_48_56 (ls : a_LS) (st : List Value) (σ : a_HP) (Q : Option Value → a_HP → Prop) : Rn 48 56 ls st σ Q = acR 48 (o_dup 57 ls st σ) ls σ Q := rn_row rfl ls st σ Q
theorem r_48_57 (ls : a_LS) (st : List Value) (σ : a_HP) (Q : Option Value → a_HP → Prop) : Rn 48 57 ls st σ Q = acR 48 (o_get 6 4 60 ls st σ) ls σ Q := rn_row rfl ls st σ Q
theorem r_48_60 (ls : a_LS) (st : List Value) (σ : a_HP) (Q : Option Value → a_HP → Prop) : Rn 48 60 ls st σ Q = acR 48 (o_pi (nI 1) 61 ls st σ) ls σ Q := rn_row rfl ls st σ Q
theorem r_48_61 (ls : a_LS) (st : List Value) (σ : a_HP) (Q : Option Value → a_HP → Prop) : Rn 48 61 ls st σ Q = acR 48 (o_bi f_add 62 ls st σ) ls σ Q := rn_row rfl ls st σ Q
theorem r_48_62 (ls : a_LS) (st : List Value) (σ : a_HP) (Q : Option Value → a_HP → Prop) : Rn 48 62 ls st σ Q = acR 48 (o_put 6 4 65 ls st σ) ls σ Q := rn_row rfl ls st σ Q
theorem r_48_65 (ls : a_LS) (st : List Value) (σ : a_HP) (Q : Option Value → a_HP → Prop) : Rn 48 65 ls st σ Q = acR 48 (o_go 5 ls st σ) ls σ Q := rn_row rfl ls st σ Q
theorem r_48_68 (ls : a_LS) (st : List Value) (σ : a_HP) (Q : Option Value → a_HP → Prop) : Rn 48 68 ls st σ Q = acR 48 (o_lda 0 69 ls st σ) ls σ Q := rn_row rfl ls st σ Q
theorem r_48_69 (ls : a_LS) (st : List Value) (σ : a_HP) (Q : Option Value → a_HP → Prop) : Rn 48 69 ls st σ Q = acR 48 (o_lda 0 70 ls st σ) ls σ Q := rn_row rfl ls st σ Q
theorem r_48_70 (ls : a_LS) (st : List Value) (σ : a_HP) (Q : Option Value → a_HP → Prop) : Rn 48 70 ls st σ Q = acR 48 (o_get 6 4 73 ls st σ) ls σ Q := rn_row rfl ls st σ Q
theorem r_48_73 (ls : a_LS) (st : List Value) (σ : a_HP) (Q : Option Value → a_HP → Prop) : Rn 48 73 ls st σ Q = acR 48 (o_lda 0 74 ls st σ) ls σ Q := rn_row rfl ls st σ Q
theorem r_48_74 (ls : a_LS) (st : List Value) (σ : a_HP) (Q : Option Value → a_HP → Prop) : Rn 48 74 ls st σ Q = acR 48 (o_get 6 6 77 ls st σ) ls σ Q := rn_row rfl ls st σ Q
theorem r_48_77 (ls : a_LS) (st : List Value) (σ : a_HP) (Q : Option Value → a_HP → Prop) : Rn 48 77 ls st σ Q = acR 48 (o_bi f_sub 78 ls st σ) ls σ Q := rn_row rfl ls st σ Q
theorem r_48_78 (ls : a_LS) (st : List Value) (σ : a_HP) (Q : Option Value → a_HP → Prop) : Rn 48 78 ls st σ Q = acR 48 (o_pi (nI 2) 79 ls st σ) ls σ Q := rn_row rfl ls st σ Q
theorem r_48_79 (ls : a_LS) (st : List Value) (σ : a_HP) (Q : Option Value → a_HP → Prop) : Rn 48 79 ls st σ Q = acR 48 (o_cgt 86 82 ls st σ) ls σ Q := rn_row rfl ls st σ Q
theorem r_48_82 (ls : a_LS) (st : List Value) (σ : a_HP) (Q : Option Value → a_HP → Prop) : Rn 48 82 ls st σ Q = acR 48 (o_pi (nI 3) 83 ls st σ) ls σ Q := rn_row rfl ls st σ Q
theorem r_48_83 (ls : a_LS) (st : List Value) (σ : a_HP) (Q : Option Value → a_HP → Prop) : Rn 48 83 ls st σ Q = acR 48 (o_go 88 ls st σ) ls σ Q := rn_row rfl ls st σ Q
theorem r_48_86 (ls : a_LS) (st : List Value) (σ : a_HP) (Q : Option Value → a_HP → Prop) : Rn 48 86 ls st σ Q = acR 48 (o_pi (nI 6) 88 ls st σ) ls σ Q := rn_row rfl ls st σ Q
theorem r_48_88 (ls : a_LS) (st : List Value) (σ : a_HP) (Q : Option Value → a_HP → Prop) : Rn 48 88 ls st σ Q = acR 48 (o_put 6 5 91 ls st σ) ls σ Q := rn_row rfl ls st σ Q
theorem r_48_91 (ls : a_LS) (st : List Value) (σ : a_HP) (Q : Option Value → a_HP → Prop) : Rn 48 91 ls st σ Q = acR 48 (o_rv ls st σ) ls σ Q := rn_row rfl ls st σ Q
/-! 49: NetLaw$Text.isLetter(I)Z -/
theorem cl_49 (x0 : Int32) (σ : a_HP) (Q : Option Value → a_HP → Prop) : Cl 49 [.int x0] σ Q = Rn 49 0 [some (.int x0)] [] σ Q := cl_of (Nat.le_of_ble_eq_true rfl) rfl σ Q
theorem r_49_0 (ls : a_LS) (st : List Value) (σ : a_HP) (Q : Option Value → a_HP → Prop) : Rn 49 0 ls st σ Q = acR 49 (o_ldi 0 1 ls st σ) ls σ Q := rn_row rfl ls st σ Q
theorem r_49_1 (ls : a_LS) (st : List Value) (σ : a_HP) (Q : Option Value → a_HP → Prop) : Rn 49 1 ls st σ Q = acR 49 (o_pi (nI 97) 3 ls st σ) ls σ Q := rn_row rfl ls st σ Q
theorem r_49_3 (ls : a_LS) (st : List Value) (σ : a_HP) (Q : Option Value → a_HP → Prop) : Rn 49 3 ls st σ Q = acR 49 (o_clt 16 6 ls st σ) ls σ Q := rn_row rfl ls st σ Q
theorem r_49_6 (ls : a_LS) (st : List Value) (σ : a_HP) (Q : Option Value → a_HP → Prop) : Rn 49 6 ls st σ Q = acR 49 (o_ldi 0 7 ls st σ) ls σ Q := rn_row rfl ls st σ Q
theorem r_49_7 (ls : a_LS) (st : List Value) (σ : a_HP) (Q : Option Value → a_HP → Prop) : Rn 49 7 ls st σ Q = acR 49 (o_pi (nI 122) 9 ls st σ) ls σ Q := rn_row rfl ls st σ Q
theorem r_49_9 (ls : a_LS) (st : List Value) (σ : a_HP) (Q : Option Value → a_HP → Prop) : Rn 49 9 ls st σ Q = acR 49 (o_cgt 16 12 ls st σ) ls σ Q := rn_row rfl ls st σ Q
theorem r_49_12 (ls : a_LS) (st : List Value) (σ : a_HP) (Q : Option Value → a_HP → Prop) : Rn 49 12 ls st σ Q = acR 49 (o_pi (nI 1) 13 ls st σ) ls σ Q := rn_row rfl ls st σ Q
theorem r_49_13 (ls : a_LS) (st : List Value) (σ : a_HP) (Q : Option Value → a_HP → Prop) : Rn 49 13 ls st σ Q = acR 49 (o_go 17 ls st σ) ls σ Q := rn_row rfl ls st σ Q
theorem r_49_16 (ls : a_LS) (st : List Value) (σ : a_HP) (Q : Option Value → a_HP → Prop) : Rn 49 16 ls st σ Q = acR 49 (o_pi (nI 0) 17 ls st σ) ls σ Q := rn_row rfl ls st σ Q
theorem r_49_17 (ls : a_LS) (st : List Value) (σ : a_HP) (Q : Option Value → a_HP → Prop) : Rn 49 17 ls st σ Q = acR 49 (o_rz ls st σ) ls σ Q := rn_row rfl ls st σ Q
/-! 50: NetLaw$Text.isFigure(I)Z -/
theorem cl_50 (x0 : Int32) (σ : a_HP) (Q : Option Value → a_HP → Prop) : Cl 50 [.int x0] σ Q = Rn 50 0 [some (.int x0)] [] σ Q := cl_of (Nat.le_of_ble_eq_true rfl) rfl σ Q
theorem r_50_0 (ls : a_LS) (st : List Value) (σ : a_HP) (Q : Option Value → a_HP → Prop) : Rn 50 0 ls st σ Q = acR 50 (o_ldi 0 1 ls st σ) ls σ Q := rn_row rfl ls st σ Q
theorem r_50_1 (ls : a_LS) (st : List Value) (σ : a_HP) (Q : Option Value → a_HP → Prop) : Rn 50 1 ls st σ Q = acR 50 (o_pi (nI 48) 3 ls st σ) ls σ Q := rn_row rfl ls st σ Q
theorem r_50_3 (ls : a_LS) (st : List Value) (σ : a_HP) (Q : Option Value → a_HP → Prop) : Rn 50 3 ls st σ Q = acR 50 (o_clt 16 6 ls st σ) ls σ Q := rn_row rfl ls st σ Q
theorem r_50_6 (ls : a_LS) (st : List Value) (σ : a_HP) (Q : Option Value → a_HP → Prop) : Rn 50 6 ls st σ Q = acR 50 (o_ldi 0 7 ls st σ) ls σ Q := rn_row rfl ls st σ Q
theorem r_50_7 (ls : a_LS) (st : List Value) (σ : a_HP) (Q : Option Value → a_HP → Prop) : Rn 50 7 ls st σ Q = acR 50 (o_pi (nI 57) 9 ls st σ) ls σ Q := rn_row rfl ls st σ Q
theorem r_50_9 (ls : a_LS) (st : List Value) (σ : a_HP) (Q : Option Value → a_HP → Prop) : Rn 50 9 ls st σ Q = acR 50 (o_cgt 16 12 ls st σ) ls σ Q := rn_row rfl ls st σ Q
theorem r_50_12 (ls : a_LS) (st : List Value) (σ : a_HP) (Q : Option Value → a_HP → Prop) : Rn 50 12 ls st σ Q = acR 50 (o_pi (nI 1) 13 ls st σ) ls σ Q := rn_row rfl ls st σ Q
theorem r_50_13 (ls : a_LS) (st : List Value) (σ : a_HP) (Q : Option Value → a_HP → Prop) : Rn 50 13 ls st σ Q = acR 50 (o_go 17 ls st σ) ls σ Q := rn_row rfl ls st σ Q
theorem r_50_16 (ls : a_LS) (st : List Value) (σ : a_HP) (Q : Option Value → a_HP → Prop) : Rn 50 16 ls st σ Q = acR 50 (o_pi (nI 0) 17 ls st σ) ls σ Q := rn_row rfl ls st σ Q
theorem r_50_17 (ls : a_LS) (st : List Value) (σ : a_HP) (Q : Option Value → a_HP → Prop) : Rn 50 17 ls st σ Q = acR 50 (o_rz ls st σ) ls σ Q := rn_row rfl ls st σ Q
/-! 51: NetLaw.net(II)I -/
theorem cl_51 (x0 : Nat) (x1 : Int32) (x2 : Int32) (σ : a_HP) (Q : Option Value → a_HP → Prop) : Cl 51 [.ref x0, .int x1, .int x2] σ Q = Rn 51 0 [some (.ref x0), some (.int x1), some (.int x2), none] [] σ Q := cl_of (Nat.le_of_ble_eq_true rfl) rfl σ Q
theorem r_51_0 (ls : a_LS) (st : List Value) (σ : a_HP) (Q : Option Value → a_HP → Prop) : Rn 51 0 ls st σ Q = acR 51 (o_ldi 1 1 ls st σ) ls σ Q := rn_row rfl ls st σ Q
theorem r_51_1 (ls : a_LS) (st : List Value) (σ : a_HP) (Q : Option Value → a_HP → Prop) : Rn 51 1 ls st σ Q = acR 51 (o_ldi 2 2 ls st σ) ls σ Q := rn_row rfl ls st σ Q
theorem r_51_2 (ls : a_LS) (st : List Value) (σ : a_HP) (Q : Option Value → a_HP → Prop) : Rn 51 2 ls st σ Q = acR 51 (o_ivs 95 2 5 ls st σ) ls σ Q := rn_row rfl ls st σ Q
theorem r_51_5 (ls : a_LS) (st : List Value) (σ : a_HP) (Q : Option Value → a_HP → Prop) : Rn 51 5 ls st σ Q = acR 51 (o_ne 13 8 ls st σ) ls σ Q := rn_row rfl ls st σ Q
theorem r_51_8 (ls : a_LS) (st : List Value) (σ : a_HP) (Q : Option Value → a_HP → Prop) : Rn 51 8 ls st σ Q = acR 51 (o_lda 0 9 ls st σ) ls σ Q := rn_row rfl ls st σ Q
theorem r_51_9 (ls : a_LS) (st : List Value) (σ : a_HP) (Q : Option Value → a_HP → Prop) : Rn 51 9 ls st σ Q = acR 51 (o_ivv 7 87 0 12 ls st σ) ls σ Q := rn_row rfl ls st σ Q
theorem r_51_12 (ls : a_LS) (st : List Value) (σ : a_HP) (Q : Option Value → a_HP → Prop) : Rn 51 12 ls st σ Q = acR 51 (o_ri ls st σ) ls σ Q := rn_row rfl ls st σ Q
theorem r_51_13 (ls : a_LS) (st : List Value) (σ : a_HP) (Q : Option Value → a_HP → Prop) : Rn 51 13 ls st σ Q = acR 51 (o_lda 0 14 ls st σ) ls σ Q := rn_row rfl ls st σ Q
theorem r_51_14 (ls : a_LS) (st : List Value) (σ : a_HP) (Q : Option Value → a_HP → Prop) : Rn 51 14 ls st σ Q = acR 51 (o_get 7 0 17 ls st σ) ls σ Q := rn_row rfl ls st σ Q
theorem r_51_17 (ls : a_LS) (st : List Value) (σ : a_HP) (Q : Option Value → a_HP → Prop) : Rn 51 17 ls st σ Q = acR 51 (o_ivv 3 20 0 20 ls st σ) ls σ Q := rn_row rfl ls st σ Q
theorem r_51_20 (ls : a_LS) (st : List Value) (σ : a_HP) (Q : Option Value → a_HP → Prop) : Rn 51 20 ls st σ Q = acR 51 (o_sti 3 21 ls st σ) ls σ Q := rn_row rfl ls st σ Q
theorem r_51_21 (ls : a_LS) (st : List Value) (σ : a_HP) (Q : Option Value → a_HP → Prop) : Rn 51 21 ls st σ Q = acR 51 (o_lda 0 22 ls st σ) ls σ Q := rn_row rfl ls st σ Q
theorem r_51_22 (ls : a_LS) (st : List Value) (σ : a_HP) (Q : Option Value → a_HP → Prop) : Rn 51 22 ls st σ Q = acR 51 (o_ldi 1 23 ls st σ) ls σ Q := rn_row rfl ls st σ Q
theorem r_51_23 (ls : a_LS) (st : List Value) (σ : a_HP) (Q : Option Value → a_HP → Prop) : Rn 51 23 ls st σ Q = acR 51 (o_ldi 2 24 ls st σ) ls σ Q := rn_row rfl ls st σ Q
theorem r_51_24 (ls : a_LS) (st : List Value) (σ : a_HP) (Q : Option Value → a_HP → Prop) : Rn 51 24 ls st σ Q = acR 51 (o_ivv 7 99 2 27 ls st σ) ls σ Q := rn_row rfl ls st σ Q
theorem r_51_27 (ls : a_LS) (st : List Value) (σ : a_HP) (Q : Option Value → a_HP → Prop) : Rn 51 27 ls st σ Q = acR 51 (o_ldi 3 28 ls st σ) ls σ Q := rn_row rfl ls st σ Q
theorem r_51_28 (ls : a_LS) (st : List Value) (σ : a_HP) (Q : Option Value → a_HP → Prop) : Rn 51 28 ls st σ Q = acR 51 (o_ri ls st σ) ls σ Q := rn_row rfl ls st σ Q
/-! 52: NetLaw.rain(I)I -/
theorem cl_52 (x0 : Nat) (x1 : Int32) (σ : a_HP) (Q : Option Value → a_HP → Prop) : Cl 52 [.ref x0, .int x1] σ Q = Rn 52 0 [some (.ref x0), some (.int x1), none] [] σ Q := cl_of (Nat.le_of_ble_eq_true rfl) rfl σ Q
theorem r_52_0 (ls : a_LS) (st : List Value) (σ : a_HP) (Q : Option Value → a_HP → Prop) : Rn 52 0 ls st σ Q = acR 52 (o_ldi 1 1 ls st σ) ls σ Q := rn_row rfl ls st σ Q
theorem r_52_1 (ls : a_LS) (st : List Value) (σ : a_HP) (Q : Option Value → a_HP → Prop) : Rn 52 1 ls st σ Q = acR 52 (o_pi (nI 0) 2 ls st σ) ls σ Q := rn_row rfl ls st σ Q
theorem r_52_2 (ls : a_LS) (st : List Value) (σ : a_HP) (Q : Option Value → a_HP → Prop) : Rn 52 2 ls st σ Q = acR 52 (o_pi (nI 1) 3 ls st σ) ls σ Q := rn_row rfl ls st σ Q
theorem r_52_3 (ls : a_LS) (st : List Value) (σ : a_HP) (Q : Option Value → a_HP → Prop) : Rn 52 3 ls st σ Q = acR 52 (o_ivs 91 3 6 ls st σ) ls σ Q := rn_row rfl ls st σ Q
theorem r_52_6 (ls : a_LS) (st : List Value) (σ : a_HP) (Q : Option Value → a_HP → Prop) : Rn 52 6 ls st σ Q = acR 52 (o_ne 14 9 ls st σ) ls σ Q := rn_row rfl ls st σ Q
theorem r_52_9 (ls : a_LS) (st : List Value) (σ : a_HP) (Q : Option Value → a_HP → Prop) : Rn 52 9 ls st σ Q = acR 52 (o_lda 0 10 ls st σ) ls σ Q := rn_row rfl ls st σ Q
theorem r_52_10 (ls : a_LS) (st : List Value) (σ : a_HP) (Q : Option Value → a_HP → Prop) : Rn 52 10 ls st σ Q = acR 52 (o_ivv 7 87 0 13 ls st σ) ls σ Q := rn_row rfl ls st σ Q
theorem r_52_13 (ls : a_LS) (st : List Value) (σ : a_HP) (Q : Option Value → a_HP → Prop) : Rn 52 13 ls st σ Q = acR 52 (o_ri ls st σ) ls σ Q := rn_row rfl ls st σ Q
theorem r_52_14 (ls : a_LS) (st : List Value) (σ : a_HP) (Q : Option Value → a_HP → Prop) : Rn 52 14 ls st σ Q = acR 52 (o_lda 0 15 ls st σ) ls σ Q := rn_row rfl ls st σ Q
theorem r_52_15 (ls : a_LS) (st : List Value) (σ : a_HP) (Q : Option Value → a_HP → Prop) : Rn 52 15 ls st σ Q = acR 52 (o_get 7 0 18 ls st σ) ls σ Q := rn_row rfl ls st σ Q
theorem r_52_18 (ls : a_LS) (st : List Value) (σ : a_HP) (Q : Option Value → a_HP → Prop) : Rn 52 18 ls st σ Q = acR 52 (o_get 3 0 21 ls st σ) ls σ Q := rn_row rfl ls st σ Q
theorem r_52_21 (ls : a_LS) (st : List Value) (σ : a_HP) (Q : Option Value → a_HP → Prop) : Rn 52 21 ls st σ Q = acR 52 (o_sti 2 22 ls st σ) ls σ Q := rn_row rfl ls st σ Q
theorem r_52_22 (ls : a_LS) (st : List Value) (σ : a_HP) (Q : Option Value → a_HP → Prop) : Rn 52 22 ls st σ Q = acR 52 (o_lda 0 23 ls st σ) ls σ Q := rn_row rfl ls st σ Q
theorem r_52_23 (ls : a_LS) (st : List Value) (σ : a_HP) (Q : Option Value → a_HP → Prop) : Rn 52 23 ls st σ Q = acR 52 (o_get 7 0 26 ls st σ) ls σ Q := rn_row rfl ls st σ Q
theorem r_52_26 (ls : a_LS) (st : List Value) (σ : a_HP) (Q : Option Value → a_HP → Prop) : Rn 52 26 ls st σ Q = acR 52 (o_ldi 1 27 ls st σ) ls σ Q := rn_row rfl ls st σ Q
theorem r_52_27 (ls : a_LS) (st : List Value) (σ : a_HP) (Q : Option Value → a_HP → Prop) : Rn 52 27 ls st σ Q = acR 52 (o_put 3 0 30 ls st σ) ls σ Q := rn_row rfl ls st σ Q
theorem r_52_30 (ls : a_LS) (st : List Value) (σ : a_HP) (Q : Option Value → a_HP → Prop) : Rn 52 30 ls st σ Q = acR 52 (o_ldi 2 31 ls st σ) ls σ Q := rn_row rfl ls st σ Q
theorem r_52_31 (ls : a_LS) (st : List Value) (σ : a_HP) (Q : Option Value → a_HP → Prop) : Rn 52 31 ls st σ Q = acR 52 (o_ri ls st σ) ls σ Q := rn_row rfl ls st σ Q
/-! 53: NetLaw.twine(I)I -/
theorem cl_53 (x0 : Nat) (x1 : Int32) (σ : a_HP) (Q : Option Value → a_HP → Prop) : Cl 53 [.ref x0, .int x1] σ Q = Rn 53 0 [some (.ref x0), some (.int x1), none] [] σ Q := cl_of (Nat.le_of_ble_eq_true rfl) rfl σ Q
theorem r_53_0 (ls : a_LS) (st : List Value) (σ : a_HP) (Q : Option Value → a_HP → Prop) : Rn 53 0 ls st σ Q = acR 53 (o_ldi 1 1 ls st σ) ls σ Q := rn_row rfl ls st σ Q
theorem r_53_1 (ls : a_LS) (st : List Value) (σ : a_HP) (Q : Option Value → a_HP → Prop) : Rn 53 1 ls st σ Q = acR 53 (o_pi (nI 0) 2 ls st σ) ls σ Q := rn_row rfl ls st σ Q
theorem r_53_2 (ls : a_LS) (st : List Value) (σ : a_HP) (Q : Option Value → a_HP → Prop) : Rn 53 2 ls st σ Q = acR 53 (o_pi (nI 99) 4 ls st σ) ls σ Q := rn_row rfl ls st σ Q
theorem r_53_4 (ls : a_LS) (st : List Value) (σ : a_HP) (Q : Option Value → a_HP → Prop) : Rn 53 4 ls st σ Q = acR 53 (o_ivs 91 3 7 ls st σ) ls σ Q := rn_row rfl ls st σ Q
theorem r_53_7 (ls : a_LS) (st : List Value) (σ : a_HP) (Q : Option Value → a_HP → Prop) : Rn 53 7 ls st σ Q = acR 53 (o_ne 15 10 ls st σ) ls σ Q := rn_row rfl ls st σ Q
theorem r_53_10 (ls : a_LS) (st : List Value) (σ : a_HP) (Q : Option Value → a_HP → Prop) : Rn 53 10 ls st σ Q = acR 53 (o_lda 0 11 ls st σ) ls σ Q := rn_row rfl ls st σ Q
theorem r_53_11 (ls : a_LS) (st : List Value) (σ : a_HP) (Q : Option Value → a_HP → Prop) : Rn 53 11 ls st σ Q = acR 53 (o_ivv 7 87 0 14 ls st σ) ls σ Q := rn_row rfl ls st σ Q
theorem r_53_14 (ls : a_LS) (st : List Value) (σ : a_HP) (Q : Option Value → a_HP → Prop) : Rn 53 14 ls st σ Q = acR 53 (o_ri ls st σ) ls σ Q := rn_row rfl ls st σ Q
theorem r_53_15 (ls : a_LS) (st : List Value) (σ : a_HP) (Q : Option Value → a_HP → Prop) : Rn 53 15 ls st σ Q = acR 53 (o_lda 0 16 ls st σ) ls σ Q := rn_row rfl ls st σ Q
theorem r_53_16 (ls : a_LS) (st : List Value) (σ : a_HP) (Q : Option Value → a_HP → Prop) : Rn 53 16 ls st σ Q = acR 53 (o_get 7 0 19 ls st σ) ls σ Q := rn_row rfl ls st σ Q
theorem r_53_19 (ls : a_LS) (st : List Value) (σ : a_HP) (Q : Option Value → a_HP → Prop) : Rn 53 19 ls st σ Q = acR 53 (o_get 3 1 22 ls st σ) ls σ Q := rn_row rfl ls st σ Q
theorem r_53_22 (ls : a_LS) (st : List Value) (σ : a_HP) (Q : Option Value → a_HP → Prop) : Rn 53 22 ls st σ Q = acR 53 (o_sti 2 23 ls st σ) ls σ Q := rn_row rfl ls st σ Q
theorem r_53_23 (ls : a_LS) (st : List Value) (σ : a_HP) (Q : Option Value → a_HP → Prop) : Rn 53 23 ls st σ Q = acR 53 (o_lda 0 24 ls st σ) ls σ Q := rn_row rfl ls st σ Q
theorem r_53_24 (ls : a_LS) (st : List Value) (σ : a_HP) (Q : Option Value → a_HP → Prop) : Rn 53 24 ls st σ Q = acR 53 (o_get 7 0 27 ls st σ) ls σ Q := rn_row rfl ls st σ Q
theorem r_53_27 (ls : a_LS) (st : List Value) (σ : a_HP) (Q : Option Value → a_HP → Prop) : Rn 53 27 ls st σ Q = acR 53 (o_ldi 1 28 ls st σ) ls σ Q := rn_row rfl ls st σ Q
theorem r_53_28 (ls : a_LS) (st : List Value) (σ : a_HP) (Q : Option Value → a_HP → Prop) : Rn 53 28 ls st σ Q = acR 53 (o_put 3 1 31 ls st σ) ls σ Q := rn_row rfl ls st σ Q
theorem r_53_31 (ls : a_LS) (st : List Value) (σ : a_HP) (Q : Option Value → a_HP → Prop) : Rn 53 31 ls st σ Q = acR 53 (o_ldi 2 32 ls st σ) ls σ Q := rn_row rfl ls st σ Q
theorem r_53_32 (ls : a_LS) (st : List Value) (σ : a_HP) (Q : Option Value → a_HP → Prop) : Rn 53 32 ls st σ Q = acR 53 (o_ri ls st σ) ls σ Q := rn_row rfl ls st σ Q
/-! 54: NetLaw.hands(I)I -/
theorem cl_54 (x0 : Nat) (x1 : Int32) (σ : a_HP) (Q : Option Value → a_HP → Prop) : Cl 54 [.ref x0, .int x1] σ Q = Rn 54 0 [some (.ref x0), some (.int x1), none] [] σ Q := cl_of (Nat.le_of_ble_eq_true rfl) rfl σ Q
theorem r_54_0 (ls : a_LS) (st : List Value) (σ : a_HP) (Q : Option Value → a_HP → Prop) : Rn 54 0 ls st σ Q = acR 54 (o_ldi 1 1 ls st σ) ls σ Q := rn_row rfl ls st σ Q
theorem r_54_1 (ls : a_LS) (st : List Value) (σ : a_HP) (Q : Option Value → a_HP → Prop) : Rn 54 1 ls st σ Q = acR 54 (o_pi (nI 0) 2 ls st σ) ls σ Q := rn_row rfl ls st σ Q
theorem r_54_2 (ls : a_LS) (st : List Value) (σ : a_HP) (Q : Option Value → a_HP → Prop) : Rn 54 2 ls st σ Q = acR 54 (o_pi (nI 65535) 4 ls st σ) ls σ Q := rn_row rfl ls st σ Q
theorem r_54_4 (ls : a_LS) (st : List Value) (σ : a_HP) (Q : Option Value → a_HP → Prop) : Rn 54 4 ls st σ Q = acR 54 (o_ivs 91 3 7 ls st σ) ls σ Q := rn_row rfl ls st σ Q
theorem r_54_7 (ls : a_LS) (st : List Value) (σ : a_HP) (Q : Option Value → a_HP → Prop) : Rn 54 7 ls st σ Q = acR 54 (o_ne 15 10 ls st σ) ls σ Q := rn_row rfl ls st σ Q
theorem r_54_10 (ls : a_LS) (st : List Value) (σ : a_HP) (Q : Option Value → a_HP → Prop) : Rn 54 10 ls st σ Q = acR 54 (o_lda 0 11 ls st σ) ls σ Q := rn_row rfl ls st σ Q
theorem r_54_11 (ls : a_LS) (st : List Value) (σ : a_HP) (Q : Option Value → a_HP → Prop) : Rn 54 11 ls st σ Q = acR 54 (o_ivv 7 87 0 14 ls st σ) ls σ Q := rn_row rfl ls st σ Q
theorem r_54_14 (ls : a_LS) (st : List Value) (σ : a_HP) (Q : Option Value → a_HP → Prop) : Rn 54 14 ls st σ Q = acR 54 (o_ri ls st σ) ls σ Q := rn_row rfl ls st σ Q
theorem r_54_15 (ls : a_LS) (st : List Value) (σ : a_HP) (Q : Option Value → a_HP → Prop) : Rn 54 15 ls st σ Q = acR 54 (o_lda 0 16 ls st σ) ls σ Q := rn_row rfl ls st σ Q
theorem r_54_16 (ls : a_LS) (st : List Value) (σ : a_HP) (Q : Option Value → a_HP → Prop) : Rn 54 16 ls st σ Q = acR 54 (o_get 7 0 19 ls st σ) ls σ Q := rn_row rfl ls st σ Q
theorem r_54_19 (ls : a_LS) (st : List Value) (σ : a_HP) (Q : Option Value → a_HP → Prop) : Rn 54 19 ls st σ Q = acR 54 (o_get 3 2 22 ls st σ) ls σ Q := rn_row rfl ls st σ Q
theorem r_54_22 (ls : a_LS) (st : List Value) (σ : a_HP) (Q : Option Value → a_HP → Prop) : Rn 54 22 ls st σ Q = acR 54 (o_sti 2 23 ls st σ) ls σ Q := rn_row rfl ls st σ Q
theorem r_54_23 (ls : a_LS) (st : List Value) (σ : a_HP) (Q : Option Value → a_HP → Prop) : Rn 54 23 ls st σ Q = acR 54 (o_lda 0 24 ls st σ) ls σ Q := rn_row rfl ls st σ Q
theorem r_54_24 (ls : a_LS) (st : List Value) (σ : a_HP) (Q : Option Value → a_HP → Prop) : Rn 54 24 ls st σ Q = acR 54 (o_get 7 0 27 ls st σ) ls σ Q := rn_row rfl ls st σ Q
theorem r_54_27 (ls : a_LS) (st : List Value) (σ : a_HP) (Q : Option Value → a_HP → Prop) : Rn 54 27 ls st σ Q = acR 54 (o_ldi 1 28 ls st σ) ls σ Q := rn_row rfl ls st σ Q
theorem r_54_28 (ls : a_LS) (st : List Value) (σ : a_HP) (Q : Option Value → a_HP → Prop) : Rn 54 28 ls st σ Q = acR 54 (o_put 3 2 31 ls st σ) ls σ Q := rn_row rfl ls st σ Q
theorem r_54_31 (ls : a_LS) (st : List Value) (σ : a_HP) (Q : Option Value → a_HP → Prop) : Rn 54 31 ls st σ Q = acR 54 (o_ldi 2 32 ls st σ) ls σ Q := rn_row rfl ls st σ Q
theorem r_54_32 (ls : a_LS) (st : List Value) (σ : a_HP) (Q : Option Value → a_HP → Prop) : Rn 54 32 ls st σ Q = acR 54 (o_ri ls st σ) ls σ Q := rn_row rfl ls st σ Q
/-! 55: NetLaw.wide(II)I -/
theorem cl_55 (x0 : Nat) (x1 : Int32) (x2 : Int32) (σ : a_HP) (Q : Option Value → a_HP → Prop) : Cl 55 [.ref x0, .int x1, .int x2] σ Q = Rn 55 0 [some (.ref x0), some (.int x1), some (.int x2), none] [] σ Q := cl_of (Nat.le_of_ble_eq_true rfl) rfl σ Q
theorem r_55_0 (ls : a_LS) (st : List Value) (σ : a_HP) (Q : Option Value → a_HP → Prop) : Rn 55 0 ls st σ Q = acR 55 (o_ldi 1 1 ls st σ) ls σ Q := rn_row rfl ls st σ Q
theorem r_55_1 (ls : a_LS) (st : List Value) (σ : a_HP) (Q : Option Value → a_HP → Prop) : Rn 55 1 ls st σ Q = acR 55 (o_ldi 2 2 ls st σ) ls σ Q := rn_row rfl ls st σ Q
theorem r_55_2 (ls : a_LS) (st : List Value) (σ : a_HP) (Q : Option Value → a_HP → Prop) : Rn 55 2 ls st σ Q = acR 55 (o_ivs 97 2 5 ls st σ) ls σ Q := rn_row rfl ls st σ Q
theorem r_55_5 (ls : a_LS) (st : List Value) (σ : a_HP) (Q : Option Value → a_HP → Prop) : Rn 55 5 ls st σ Q = acR 55 (o_ne 13 8 ls st σ) ls σ Q := rn_row rfl ls st σ Q
theorem r_55_8 (ls : a_LS) (st : List Value) (σ : a_HP) (Q : Option Value → a_HP → Prop) : Rn 55 8 ls st σ Q = acR 55 (o_lda 0 9 ls st σ) ls σ Q := rn_row rfl ls st σ Q
theorem r_55_9 (ls : a_LS) (st : List Value) (σ : a_HP) (Q : Option Value → a_HP → Prop) : Rn 55 9 ls st σ Q = acR 55 (o_ivv 7 87 0 12 ls st σ) ls σ Q := rn_row rfl ls st σ Q
theorem r_55_12 (ls : a_LS) (st : List Value) (σ : a_HP) (Q : Option Value → a_HP → Prop) : Rn 55 12 ls st σ Q = acR 55 (o_ri ls st σ) ls σ Q := rn_row rfl ls st σ Q
theorem r_55_13 (ls : a_LS) (st : List Value) (σ : a_HP) (Q : Option Value → a_HP → Prop) : Rn 55 13 ls st σ Q = acR 55 (o_lda 0 14 ls st σ) ls σ Q := rn_row rfl ls st σ Q
theorem r_55_14 (ls : a_LS) (st : List Value) (σ : a_HP) (Q : Option Value → a_HP → Prop) : Rn 55 14 ls st σ Q = acR 55 (o_get 7 0 17 ls st σ) ls σ Q := rn_row rfl ls st σ Q
theorem r_55_17 (ls : a_LS) (st : List Value) (σ : a_HP) (Q : Option Value → a_HP → Prop) : Rn 55 17 ls st σ Q = acR 55 (o_get 3 7 20 ls st σ) ls σ Q := rn_row rfl ls st σ Q
theorem r_55_20 (ls : a_LS) (st : List Value) (σ : a_HP) (Q : Option Value → a_HP → Prop) : Rn 55 20 ls st σ Q = acR 55 (o_ldi 1 21 ls st σ) ls σ Q := rn_row rfl ls st σ Q
theorem r_55_21 (ls : a_LS) (st : List Value) (σ : a_HP) (Q : Option Value → a_HP → Prop) : Rn 55 21 ls st σ Q = acR 55 (o_ial 22 ls st σ) ls σ Q := rn_row rfl ls st σ Q
theorem r_55_22 (ls : a_LS) (st : List Value) (σ : a_HP) (Q : Option Value → a_HP → Prop) : Rn 55 22 ls st σ Q = acR 55 (o_sti 3 23 ls st σ) ls σ Q := rn_row rfl ls st σ Q
theorem r_55_23 (ls : a_LS) (st : List Value) (σ : a_HP) (Q : Option Value → a_HP → Prop) : Rn 55 23 ls st σ Q = acR 55 (o_lda 0 24 ls st σ) ls σ Q := rn_row rfl ls st σ Q
theorem r_55_24 (ls : a_LS) (st : List Value) (σ : a_HP) (Q : Option Value → a_HP → Prop) : Rn 55 24 ls st σ Q = acR 55 (o_get 7 0 27 ls st σ) ls σ Q := rn_row rfl ls st σ Q
theorem r_55_27 (ls : a_LS) (st : List Value) (σ : a_HP) (Q : Option Value → a_HP → Prop) : Rn 55 27 ls st σ Q = acR 55 (o_get 3 7 30 ls st σ) ls σ Q := rn_row rfl ls st σ Q
theorem r_55_30 (ls : a_LS) (st : List Value) (σ : a_HP) (Q : Option Value → a_HP → Prop) : Rn 55 30 ls st σ Q = acR 55 (o_ldi 1 31 ls st σ) ls σ Q := rn_row rfl ls st σ Q
theorem r_55_31 (ls : a_LS) (st : List Value) (σ : a_HP) (Q : Option Value → a_HP → Prop) : Rn 55 31 ls st σ Q = acR 55 (o_ldi 2 32 ls st σ) ls σ Q := rn_row rfl ls st σ Q
theorem r_55_32 (ls : a_LS) (st : List Value) (σ : a_HP) (Q : Option Value → a_HP → Prop) : Rn 55 32 ls st σ Q = acR 55 (o_ias 33 ls st σ) ls σ Q := rn_row rfl ls st σ Q
theorem r_55_33 (ls : a_LS) (st : List Value) (σ : a_HP) (Q : Option Value → a_HP → Prop) : Rn 55 33 ls st σ Q = acR 55 (o_ldi 3 34 ls st σ) ls σ Q := rn_row rfl ls st σ Q
theorem r_55_34 (ls : a_LS) (st : List Value) (σ : a_HP) (Q : Option Value → a_HP → Prop) : Rn 55 34 ls st σ Q = acR 55 (o_ri ls st σ) ls σ Q := rn_row rfl ls st σ Q
/-! 56: NetLaw.tie(IIII)I -/
theorem cl_56 (x0 : Nat) (x1 : Int32) (x2 : Int32) (x3 : Int32) (x4 : Int32) (σ : a_HP) (Q : Option Value → a_HP → Prop) : Cl 56 [.ref x0, .int x1, .int x2, .int x3, .int x4] σ Q = Rn 56 0 [some (.ref x0), some (.int x1), some (.int x2), some (.int x3), some (.int x4), none] [] σ Q := cl_of (Nat.le_of_ble_eq_true rfl) rfl σ Q
theorem r_56_0 (ls : a_LS) (st : List Value) (σ : a_HP) (Q : Option Value → a_HP → Prop) : Rn 56 0 ls st σ Q = acR 56 (o_ldi 1 1 ls st σ) ls σ Q := rn_row rfl ls st σ Q
theorem r_56_1 (ls : a_LS) (st : List Value) (σ : a_HP) (Q : Option Value → a_HP → Prop) : Rn 56 1 ls st σ Q = acR 56 (o_ldi 2 2 ls st σ) ls σ Q := rn_row rfl ls st σ Q
theorem r_56_2 (ls : a_LS) (st : List Value) (σ : a_HP) (Q : Option Value → a_HP → Prop) : Rn 56 2 ls st σ Q = acR 56 (o_ldi 3 3 ls st σ) ls σ Q := rn_row rfl ls st σ Q
theorem r_56_3 (ls : a_LS) (st : List Value) (σ : a_HP) (Q : Option Value → a_HP → Prop) : Rn 56 3 ls st σ Q = acR 56 (o_ldi 4 5 ls st σ) ls σ Q := rn_row rfl ls st σ Q
theorem r_56_5 (ls : a_LS) (st : List Value) (σ : a_HP) (Q : Option Value → a_HP → Prop) : Rn 56 5 ls st σ Q = acR 56 (o_ivs 96 4 8 ls st σ) ls σ Q := rn_row rfl ls st σ Q
theorem r_56_8 (ls : a_LS) (st : List Value) (σ : a_HP) (Q : Option Value → a_HP → Prop) : Rn 56 8 ls st σ Q = acR 56 (o_ne 16 11 ls st σ) ls σ Q := rn_row rfl ls st σ Q
theorem r_56_11 (ls : a_LS) (st : List Value) (σ : a_HP) (Q : Option Value → a_HP → Prop) : Rn 56 11 ls st σ Q = acR 56 (o_lda 0 12 ls st σ) ls σ Q := rn_row rfl ls st σ Q
theorem r_56_12 (ls : a_LS) (st : List Value) (σ : a_HP) (Q : Option Value → a_HP → Prop) : Rn 56 12 ls st σ Q = acR 56 (o_ivv 7 87 0 15 ls st σ) ls σ Q := rn_row rfl ls st σ Q
theorem r_56_15 (ls : a_LS) (st : List Value) (σ : a_HP) (Q : Option Value → a_HP → Prop) : Rn 56 15 ls st σ Q = acR 56 (o_ri ls st σ) ls σ Q := rn_row rfl ls st σ Q
theorem r_56_16 (ls : a_LS) (st : List Value) (σ : a_HP) (Q : Option Value → a_HP → Prop) : Rn 56 16 ls st σ Q = acR 56 (o_lda 0 17 ls st σ) ls σ Q := rn_row rfl ls st σ Q
theorem r_56_17 (ls : a_LS) (st : List Value) (σ : a_HP) (Q : Option Value → a_HP → Prop) : Rn 56 17 ls st σ Q = acR 56 (o_get 7 0 20 ls st σ) ls σ Q := rn_row rfl ls st σ Q
theorem r_56_20 (ls : a_LS) (st : List Value) (σ : a_HP) (Q : Option Value → a_HP → Prop) : Rn 56 20 ls st σ Q = acR 56 (o_get 3 5 23 ls st σ) ls σ Q := rn_row rfl ls st σ Q
theorem r_56_23 (ls : a_LS) (st : List Value) (σ : a_HP) (Q : Option Value → a_HP → Prop) : Rn 56 23 ls st σ Q = acR 56 (o_ldi 1 24 ls st σ) ls σ Q := rn_row rfl ls st σ Q
theorem r_56_24 (ls : a_LS) (st : List Value) (σ : a_HP) (Q : Option Value → a_HP → Prop) : Rn 56 24 ls st σ Q = acR 56 (o_ial 25 ls st σ) ls σ Q := rn_row rfl ls st σ Q
theorem r_56_25 (ls : a_LS) (st : List Value) (σ : a_HP) (Q : Option Value → a_HP → Prop) : Rn 56 25 ls st σ Q = acR 56 (o_sti 5 27 ls st σ) ls σ Q := rn_row rfl ls st σ Q
theorem r_56_27 (ls : a_LS) (st : List Value) (σ : a_HP) (Q : Option Value → a_HP → Prop) : Rn 56 27 ls st σ Q = acR 56 (o_lda 0 28 ls st σ) ls σ Q := rn_row rfl ls st σ Q
theorem r_56_28 (ls : a_LS) (st : List Value) (σ : a_HP) (Q : Option Value → a_HP → Prop) : Rn 56 28 ls st σ Q = acR 56 (o_get 7 1 31 ls st σ) ls σ Q := rn_row rfl ls st σ Q
theorem r_56_31 (ls : a_LS) (st : List Value) (σ : a_HP) (Q : Option Value → a_HP → Prop) : Rn 56 31 ls st σ Q = acR 56 (o_lda 0 32 ls st σ) ls σ Q := rn_row rfl ls st σ Q
theorem r_56_32 (ls : a_LS) (st : List Value) (σ : a_HP) (Q : Option Value → a_HP → Prop) : Rn 56 32 ls st σ Q = acR 56 (o_get 7 0 35 ls st σ) ls σ Q := rn_row rfl ls st σ Q
theorem r_56_35 (ls : a_LS) (st : List Value) (σ : a_HP) (Q : Option Value → a_HP → Prop) : Rn 56 35 ls st σ Q = acR 56 (o_ivv 4 29 1 38 ls st σ) ls σ Q := rn_row rfl ls st σ Q
theorem r_56_38 (ls : a_LS) (st : List Value) (σ : a_HP) (Q : Option Value → a_HP → Prop) : Rn 56 38 ls st σ Q = acR 56 (o_lda 0 39 ls st σ) ls σ Q := rn_row rfl ls st σ Q
theorem r_56_39 (ls : a_LS) (st : List Value) (σ : a_HP) (Q : Option Value → a_HP → Prop) : Rn 56 39 ls st σ Q = acR 56 (o_get 7 0 42 ls st σ) ls σ Q := rn_row rfl ls st σ Q
theorem r_56_42 (ls : a_LS) (st : List Value) (σ : a_HP) (Q : Option Value → a_HP → Prop) : Rn 56 42 ls st σ Q = acR 56 (o_ldi 1 43 ls st σ) ls σ Q := rn_row rfl ls st σ Q
theorem r_56_43 (ls : a_LS) (st : List Value) (σ : a_HP) (Q : Option Value → a_HP → Prop) : Rn 56 43 ls st σ Q = acR 56 (o_ldi 2 44 ls st σ) ls σ Q := rn_row rfl ls st σ Q
theorem r_56_44 (ls : a_LS) (st : List Value) (σ : a_HP) (Q : Option Value → a_HP → Prop) : Rn 56 44 ls st σ Q = acR 56 (o_ldi 3 45 ls st σ) ls σ Q := rn_row rfl ls st σ Q
theorem r_56_45 (ls : a_LS) (st : List Value) (σ : a_HP) (Q : Option Value → a_HP → Prop) : Rn 56 45 ls st σ Q = acR 56 (o_ldi 4 47 ls st σ) ls σ Q := rn_row rfl ls st σ Q
theorem r_56_47 (ls : a_LS) (st : List Value) (σ : a_HP) (Q : Option Value → a_HP → Prop) : Rn 56 47 ls st σ Q = acR 56 (o_ivv 3 18 4 50 ls st σ) ls σ Q := rn_row rfl ls st σ Q
theorem r_56_50 (ls : a_LS) (st : List Value) (σ : a_HP) (Q : Option Value → a_HP → Prop) : Rn 56 50 ls st σ Q = acR 56 (o_ldi 5 52 ls st σ) ls σ Q := rn_row rfl ls st σ Q
theorem r_56_52 (ls : a_LS) (st : List Value) (σ : a_HP) (Q : Option Value → a_HP → Prop) : Rn 56 52 ls st σ Q = acR 56 (o_ri ls st σ) ls σ Q := rn_row rfl ls st σ Q
/-! 57: NetLaw.mend(II)I -/
theorem cl_57 (x0 : Nat) (x1 : Int32) (x2 : Int32) (σ : a_HP) (Q : Option Value → a_HP → Prop) : Cl 57 [.ref x0, .int x1, .int x2] σ Q = Rn 57 0 [some (.ref x0), some (.int x1), some (.int x2)] [] σ Q := cl_of (Nat.le_of_ble_eq_true rfl) rfl σ Q
theorem r_57_0 (ls : a_LS) (st : List Value) (σ : a_HP) (Q : Option Value → a_HP → Prop) : Rn 57 0 ls st σ Q = acR 57 (o_ldi 1 1 ls st σ) ls σ Q := rn_row rfl ls st σ Q
theorem r_57_1 (ls : a_LS) (st : List Value) (σ : a_HP) (Q : Option Value → a_HP → Prop) : Rn 57 1 ls st σ Q = acR 57 (o_ivs 92 1 4 ls st σ) ls σ Q := rn_row rfl ls st σ Q
theorem r_57_4 (ls : a_LS) (st : List Value) (σ : a_HP) (Q : Option Value → a_HP → Prop) : Rn 57 4 ls st σ Q = acR 57 (o_eq 17 7 ls st σ) ls σ Q := rn_row rfl ls st σ Q
theorem r_57_7 (ls : a_LS) (st : List Value) (σ : a_HP) (Q : Option Value → a_HP → Prop) : Rn 57 7 ls st σ Q = acR 57 (o_ldi 2 8 ls st σ) ls σ Q := rn_row rfl ls st σ Q
theorem r_57_8 (ls : a_LS) (st : List Value) (σ : a_HP) (Q : Option Value → a_HP → Prop) : Rn 57 8 ls st σ Q = acR 57 (o_pi (nI 1) 9 ls st σ) ls σ Q := rn_row rfl ls st σ Q
theorem r_57_9 (ls : a_LS) (st : List Value) (σ : a_HP) (Q : Option Value → a_HP → Prop) : Rn 57 9 ls st σ Q = acR 57 (o_pi (nI 9) 11 ls st σ) ls σ Q := rn_row rfl ls st σ Q
theorem r_57_11 (ls : a_LS) (st : List Value) (σ : a_HP) (Q : Option Value → a_HP → Prop) : Rn 57 11 ls st σ Q = acR 57 (o_ivs 91 3 14 ls st σ) ls σ Q := rn_row rfl ls st σ Q
theorem r_57_14 (ls : a_LS) (st : List Value) (σ : a_HP) (Q : Option Value → a_HP → Prop) : Rn 57 14 ls st σ Q = acR 57 (o_ne 22 17 ls st σ) ls σ Q := rn_row rfl ls st σ Q
theorem r_57_17 (ls : a_LS) (st : List Value) (σ : a_HP) (Q : Option Value → a_HP → Prop) : Rn 57 17 ls st σ Q = acR 57 (o_lda 0 18 ls st σ) ls σ Q := rn_row rfl ls st σ Q
theorem r_57_18 (ls : a_LS) (st : List Value) (σ : a_HP) (Q : Option Value → a_HP → Prop) : Rn 57 18 ls st σ Q = acR 57 (o_ivv 7 87 0 21 ls st σ) ls σ Q := rn_row rfl ls st σ Q
theorem r_57_21 (ls : a_LS) (st : List Value) (σ : a_HP) (Q : Option Value → a_HP → Prop) : Rn 57 21 ls st σ Q = acR 57 (o_ri ls st σ) ls σ Q := rn_row rfl ls st σ Q
theorem r_57_22 (ls : a_LS) (st : List Value) (σ : a_HP) (Q : Option Value → a_HP → Prop) : Rn 57 22 ls st σ Q = acR 57 (o_lda 0 23 ls st σ) ls σ Q := rn_row rfl ls st σ Q
theorem r_57_23 (ls : a_LS) (st : List Value) (σ : a_HP) (Q : Option Value → a_HP → Prop) : Rn 57 23 ls st σ Q = acR 57 (o_get 7 0 26 ls st σ) ls σ Q := rn_row rfl ls st σ Q
theorem r_57_26 (ls : a_LS) (st : List Value) (σ : a_HP) (Q : Option Value → a_HP → Prop) : Rn 57 26 ls st σ Q = acR 57 (o_ldi 1 27 ls st σ) ls σ Q := rn_row rfl ls st σ Q
theorem r_57_27 (ls : a_LS) (st : List Value) (σ : a_HP) (Q : Option Value → a_HP → Prop) : Rn 57 27 ls st σ Q = acR 57 (o_ivv 3 19 1 30 ls st σ) ls σ Q := rn_row rfl ls st σ Q
theorem r_57_30 (ls : a_LS) (st : List Value) (σ : a_HP) (Q : Option Value → a_HP → Prop) : Rn 57 30 ls st σ Q = acR 57 (o_ne 60 33 ls st σ) ls σ Q := rn_row rfl ls st σ Q
theorem r_57_33 (ls : a_LS) (st : List Value) (σ : a_HP) (Q : Option Value → a_HP → Prop) : Rn 57 33 ls st σ Q = acR 57 (o_lda 0 34 ls st σ) ls σ Q := rn_row rfl ls st σ Q
theorem r_57_34 (ls : a_LS) (st : List Value) (σ : a_HP) (Q : Option Value → a_HP → Prop) : Rn 57 34 ls st σ Q = acR 57 (o_get 7 0 37 ls st σ) ls σ Q := rn_row rfl ls st σ Q
theorem r_57_37 (ls : a_LS) (st : List Value) (σ : a_HP) (Q : Option Value → a_HP → Prop) : Rn 57 37 ls st σ Q = acR 57 (o_get 3 5 40 ls st σ) ls σ Q := rn_row rfl ls st σ Q
theorem r_57_40 (ls : a_LS) (st : List Value) (σ : a_HP) (Q : Option Value → a_HP → Prop) : Rn 57 40 ls st σ Q = acR 57 (o_ldi 1 41 ls st σ) ls σ Q := rn_row rfl ls st σ Q
theorem r_57_41 (ls : a_LS) (st : List Value) (σ : a_HP) (Q : Option Value → a_HP → Prop) : Rn 57 41 ls st σ Q = acR 57 (o_ial 42 ls st σ) ls σ Q := rn_row rfl ls st σ Q
theorem r_57_42 (ls : a_LS) (st : List Value) (σ : a_HP) (Q : Option Value → a_HP → Prop) : Rn 57 42 ls st σ Q = acR 57 (o_ldi 2 43 ls st σ) ls σ Q := rn_row rfl ls st σ Q
theorem r_57_43 (ls : a_LS) (st : List Value) (σ : a_HP) (Q : Option Value → a_HP → Prop) : Rn 57 43 ls st σ Q = acR 57 (o_bi f_add 44 ls st σ) ls σ Q := rn_row rfl ls st σ Q
theorem r_57_44 (ls : a_LS) (st : List Value) (σ : a_HP) (Q : Option Value → a_HP → Prop) : Rn 57 44 ls st σ Q = acR 57 (o_pi (nI 9) 46 ls st σ) ls σ Q := rn_row rfl ls st σ Q
theorem r_57_46 (ls : a_LS) (st : List Value) (σ : a_HP) (Q : Option Value → a_HP → Prop) : Rn 57 46 ls st σ Q = acR 57 (o_cgt 60 49 ls st σ) ls σ Q := rn_row rfl ls st σ Q
theorem r_57_49 (ls : a_LS) (st : List Value) (σ : a_HP) (Q : Option Value → a_HP → Prop) : Rn 57 49 ls st σ Q = acR 57 (o_ldi 2 50 ls st σ) ls σ Q := rn_row rfl ls st σ Q
theorem r_57_50 (ls : a_LS) (st : List Value) (σ : a_HP) (Q : Option Value → a_HP → Prop) : Rn 57 50 ls st σ Q = acR 57 (o_lda 0 51 ls st σ) ls σ Q := rn_row rfl ls st σ Q
theorem r_57_51 (ls : a_LS) (st : List Value) (σ : a_HP) (Q : Option Value → a_HP → Prop) : Rn 57 51 ls st σ Q = acR 57 (o_get 7 0 54 ls st σ) ls σ Q := rn_row rfl ls st σ Q
theorem r_57_54 (ls : a_LS) (st : List Value) (σ : a_HP) (Q : Option Value → a_HP → Prop) : Rn 57 54 ls st σ Q = acR 57 (o_get 3 1 57 ls st σ) ls σ Q := rn_row rfl ls st σ Q
theorem r_57_57 (ls : a_LS) (st : List Value) (σ : a_HP) (Q : Option Value → a_HP → Prop) : Rn 57 57 ls st σ Q = acR 57 (o_cle 65 60 ls st σ) ls σ Q := rn_row rfl ls st σ Q
theorem r_57_60 (ls : a_LS) (st : List Value) (σ : a_HP) (Q : Option Value → a_HP → Prop) : Rn 57 60 ls st σ Q = acR 57 (o_lda 0 61 ls st σ) ls σ Q := rn_row rfl ls st σ Q
theorem r_57_61 (ls : a_LS) (st : List Value) (σ : a_HP) (Q : Option Value → a_HP → Prop) : Rn 57 61 ls st σ Q = acR 57 (o_ivv 7 89 0 64 ls st σ) ls σ Q := rn_row rfl ls st σ Q
theorem r_57_64 (ls : a_LS) (st : List Value) (σ : a_HP) (Q : Option Value → a_HP → Prop) : Rn 57 64 ls st σ Q = acR 57 (o_ri ls st σ) ls σ Q := rn_row rfl ls st σ Q
theorem r_57_65 (ls : a_LS) (st : List Value) (σ : a_HP) (Q : Option Value → a_HP → Prop) : Rn 57 65 ls st σ Q = acR 57 (o_lda 0 66 ls st σ) ls σ Q := rn_row rfl ls st σ Q
theorem r_57_66 (ls : a_LS) (st : List Value) (σ : a_HP) (Q : Option Value → a_HP → Prop) : Rn 57 66 ls st σ Q = acR 57 (o_get 7 1 69 ls st σ) ls σ Q := rn_row rfl ls st σ Q
theorem r_57_69 (ls : a_LS) (st : List Value) (σ : a_HP) (Q : Option Value → a_HP → Prop) : Rn 57 69 ls st σ Q = acR 57 (o_lda 0 70 ls st σ) ls σ Q := rn_row rfl ls st σ Q
theorem r_57_70 (ls : a_LS) (st : List Value) (σ : a_HP) (Q : Option Value → a_HP → Prop) : Rn 57 70 ls st σ Q = acR 57 (o_get 7 0 73 ls st σ) ls σ Q := rn_row rfl ls st σ Q
theorem r_57_73 (ls : a_LS) (st : List Value) (σ : a_HP) (Q : Option Value → a_HP → Prop) : Rn 57 73 ls st σ Q = acR 57 (o_ivv 4 29 1 76 ls st σ) ls σ Q := rn_row rfl ls st σ Q
theorem r_57_76 (ls : a_LS) (st : List Value) (σ : a_HP) (Q : Option Value → a_HP → Prop) : Rn 57 76 ls st σ Q = acR 57 (o_lda 0 77 ls st σ) ls σ Q := rn_row rfl ls st σ Q
theorem r_57_77 (ls : a_LS) (st : List Value) (σ : a_HP) (Q : Option Value → a_HP → Prop) : Rn 57 77 ls st σ Q = acR 57 (o_get 7 0 80 ls st σ) ls σ Q := rn_row rfl ls st σ Q
theorem r_57_80 (ls : a_LS) (st : List Value) (σ : a_HP) (Q : Option Value → a_HP → Prop) : Rn 57 80 ls st σ Q = acR 57 (o_get 3 5 83 ls st σ) ls σ Q := rn_row rfl ls st σ Q
theorem r_57_83 (ls : a_LS) (st : List Value) (σ : a_HP) (Q : Option Value → a_HP → Prop) : Rn 57 83 ls st σ Q = acR 57 (o_ldi 1 84 ls st σ) ls σ Q := rn_row rfl ls st σ Q
theorem r_57_84 (ls : a_LS) (st : List Value) (σ : a_HP) (Q : Option Value → a_HP → Prop) : Rn 57 84 ls st σ Q = acR 57 (o_dup2 85 ls st σ) ls σ Q := rn_row rfl ls st σ Q
theorem r_57_85 (ls : a_LS) (st : List Value) (σ : a_HP) (Q : Option Value → a_HP → Prop) : Rn 57 85 ls st σ Q = acR 57 (o_ial 86 ls st σ) ls σ Q := rn_row rfl ls st σ Q
theorem r_57_86 (ls : a_LS) (st : List Value) (σ : a_HP) (Q : Option Value → a_HP → Prop) : Rn 57 86 ls st σ Q = acR 57 (o_ldi 2 87 ls st σ) ls σ Q := rn_row rfl ls st σ Q
theorem r_57_87 (ls : a_LS) (st : List Value) (σ : a_HP) (Q : Option Value → a_HP → Prop) : Rn 57 87 ls st σ Q = acR 57 (o_bi f_add 88 ls st σ) ls σ Q := rn_row rfl ls st σ Q
theorem r_57_88 (ls : a_LS) (st : List Value) (σ : a_HP) (Q : Option Value → a_HP → Prop) : Rn 57 88 ls st σ Q = acR 57 (o_ias 89 ls st σ) ls σ Q := rn_row rfl ls st σ Q
theorem r_57_89 (ls : a_LS) (st : List Value) (σ : a_HP) (Q : Option Value → a_HP → Prop) : Rn 57 89 ls st σ Q = acR 57 (o_lda 0 90 ls st σ) ls σ Q := rn_row rfl ls st σ Q
theorem r_57_90 (ls : a_LS) (st : List Value) (σ : a_HP) (Q : Option Value → a_HP → Prop) : Rn 57 90 ls st σ Q = acR 57 (o_get 7 0 93 ls st σ) ls σ Q := rn_row rfl ls st σ Q
theorem r_57_93 (ls : a_LS) (st : List Value) (σ : a_HP) (Q : Option Value → a_HP → Prop) : Rn 57 93 ls st σ Q = acR 57 (o_dup 94 ls st σ) ls σ Q := rn_row rfl ls st σ Q
theorem r_57_94 (ls : a_LS) (st : List Value) (σ : a_HP) (Q : Option Value → a_HP → Prop) : Rn 57 94 ls st σ Q = acR 57 (o_get 3 1 97 ls st σ) ls σ Q := rn_row rfl ls st σ Q
theorem r_57_97 (ls : a_LS) (st : List Value) (σ : a_HP) (Q : Option Value → a_HP → Prop) : Rn 57 97 ls st σ Q = acR 57 (o_ldi 2 98 ls st σ) ls σ Q := rn_row rfl ls st σ Q
theorem r_57_98 (ls : a_LS) (st : List Value) (σ : a_HP) (Q : Option Value → a_HP → Prop) : Rn 57 98 ls st σ Q = acR 57 (o_bi f_sub 99 ls st σ) ls σ Q := rn_row rfl ls st σ Q
theorem r_57_99 (ls : a_LS) (st : List Value) (σ : a_HP) (Q : Option Value → a_HP → Prop) : Rn 57 99 ls st σ Q = acR 57 (o_put 3 1 102 ls st σ) ls σ Q := rn_row rfl ls st σ Q
theorem r_57_102 (ls : a_LS) (st : List Value) (σ : a_HP) (Q : Option Value → a_HP → Prop) : Rn 57 102 ls st σ Q = acR 57 (o_lda 0 103 ls st σ) ls σ Q := rn_row rfl ls st σ Q
theorem r_57_103 (ls : a_LS) (st : List Value) (σ : a_HP) (Q : Option Value → a_HP → Prop) : Rn 57 103 ls st σ Q = acR 57 (o_get 7 0 106 ls st σ) ls σ Q := rn_row rfl ls st σ Q
theorem r_57_106 (ls : a_LS) (st : List Value) (σ : a_HP) (Q : Option Value → a_HP → Prop) : Rn 57 106 ls st σ Q = acR 57 (o_get 3 5 109 ls st σ) ls σ Q := rn_row rfl ls st σ Q
theorem r_57_109 (ls : a_LS) (st : List Value) (σ : a_HP) (Q : Option Value → a_HP → Prop) : Rn 57 109 ls st σ Q = acR 57 (o_ldi 1 110 ls st σ) ls σ Q := rn_row rfl ls st σ Q
theorem r_57_110 (ls : a_LS) (st : List Value) (σ : a_HP) (Q : Option Value → a_HP → Prop) : Rn 57 110 ls st σ Q = acR 57 (o_ial 111 ls st σ) ls σ Q := rn_row rfl ls st σ Q
theorem r_57_111 (ls : a_LS) (st : List Value) (σ : a_HP) (Q : Option Value → a_HP → Prop) : Rn 57 111 ls st σ Q = acR 57 (o_ri ls st σ) ls σ Q := rn_row rfl ls st σ Q
/-! 58: NetLaw.drop(I)I -/
theorem cl_58 (x0 : Nat) (x1 : Int32) (σ : a_HP) (Q : Option Value → a_HP → Prop) : Cl 58 [.ref x0, .int x1] σ Q = Rn 58 0 [some (.ref x0), some (.int x1), none] [] σ Q := cl_of (Nat.le_of_ble_eq_true rfl) rfl σ Q
theorem r_58_0 (ls : a_LS) (st : List Value) (σ : a_HP) (Q : Option Value → a_HP → Prop) : Rn 58 0 ls st σ Q = acR 58 (o_ldi 1 1 ls st σ) ls σ Q := rn_row rfl ls st σ Q
theorem r_58_1 (ls : a_LS) (st : List Value) (σ : a_HP) (Q : Option Value → a_HP → Prop) : Rn 58 1 ls st σ Q = acR 58 (o_ivs 92 1 4 ls st σ) ls σ Q := rn_row rfl ls st σ Q
theorem r_58_4 (ls : a_LS) (st : List Value) (σ : a_HP) (Q : Option Value → a_HP → Prop) : Rn 58 4 ls st σ Q = acR 58 (o_ne 12 7 ls st σ) ls σ Q := rn_row rfl ls st σ Q
theorem r_58_7 (ls : a_LS) (st : List Value) (σ : a_HP) (Q : Option Value → a_HP → Prop) : Rn 58 7 ls st σ Q = acR 58 (o_lda 0 8 ls st σ) ls σ Q := rn_row rfl ls st σ Q
theorem r_58_8 (ls : a_LS) (st : List Value) (σ : a_HP) (Q : Option Value → a_HP → Prop) : Rn 58 8 ls st σ Q = acR 58 (o_ivv 7 87 0 11 ls st σ) ls σ Q := rn_row rfl ls st σ Q
theorem r_58_11 (ls : a_LS) (st : List Value) (σ : a_HP) (Q : Option Value → a_HP → Prop) : Rn 58 11 ls st σ Q = acR 58 (o_ri ls st σ) ls σ Q := rn_row rfl ls st σ Q
theorem r_58_12 (ls : a_LS) (st : List Value) (σ : a_HP) (Q : Option Value → a_HP → Prop) : Rn 58 12 ls st σ Q = acR 58 (o_lda 0 13 ls st σ) ls σ Q := rn_row rfl ls st σ Q
theorem r_58_13 (ls : a_LS) (st : List Value) (σ : a_HP) (Q : Option Value → a_HP → Prop) : Rn 58 13 ls st σ Q = acR 58 (o_get 7 0 16 ls st σ) ls σ Q := rn_row rfl ls st σ Q
theorem r_58_16 (ls : a_LS) (st : List Value) (σ : a_HP) (Q : Option Value → a_HP → Prop) : Rn 58 16 ls st σ Q = acR 58 (o_ldi 1 17 ls st σ) ls σ Q := rn_row rfl ls st σ Q
theorem r_58_17 (ls : a_LS) (st : List Value) (σ : a_HP) (Q : Option Value → a_HP → Prop) : Rn 58 17 ls st σ Q = acR 58 (o_ivv 3 19 1 20 ls st σ) ls σ Q := rn_row rfl ls st σ Q
theorem r_58_20 (ls : a_LS) (st : List Value) (σ : a_HP) (Q : Option Value → a_HP → Prop) : Rn 58 20 ls st σ Q = acR 58 (o_eq 28 23 ls st σ) ls σ Q := rn_row rfl ls st σ Q
theorem r_58_23 (ls : a_LS) (st : List Value) (σ : a_HP) (Q : Option Value → a_HP → Prop) : Rn 58 23 ls st σ Q = acR 58 (o_lda 0 24 ls st σ) ls σ Q := rn_row rfl ls st σ Q
theorem r_58_24 (ls : a_LS) (st : List Value) (σ : a_HP) (Q : Option Value → a_HP → Prop) : Rn 58 24 ls st σ Q = acR 58 (o_ivv 7 89 0 27 ls st σ) ls σ Q := rn_row rfl ls st σ Q
theorem r_58_27 (ls : a_LS) (st : List Value) (σ : a_HP) (Q : Option Value → a_HP → Prop) : Rn 58 27 ls st σ Q = acR 58 (o_ri ls st σ) ls σ Q := rn_row rfl ls st σ Q
theorem r_58_28 (ls : a_LS) (st : List Value) (σ : a_HP) (Q : Option Value → a_HP → Prop) : Rn 58 28 ls st σ Q = acR 58 (o_lda 0 29 ls st σ) ls σ Q := rn_row rfl ls st σ Q
theorem r_58_29 (ls : a_LS) (st : List Value) (σ : a_HP) (Q : Option Value → a_HP → Prop) : Rn 58 29 ls st σ Q = acR 58 (o_get 7 0 32 ls st σ) ls σ Q := rn_row rfl ls st σ Q
theorem r_58_32 (ls : a_LS) (st : List Value) (σ : a_HP) (Q : Option Value → a_HP → Prop) : Rn 58 32 ls st σ Q = acR 58 (o_get 3 5 35 ls st σ) ls σ Q := rn_row rfl ls st σ Q
theorem r_58_35 (ls : a_LS) (st : List Value) (σ : a_HP) (Q : Option Value → a_HP → Prop) : Rn 58 35 ls st σ Q = acR 58 (o_ldi 1 36 ls st σ) ls σ Q := rn_row rfl ls st σ Q
theorem r_58_36 (ls : a_LS) (st : List Value) (σ : a_HP) (Q : Option Value → a_HP → Prop) : Rn 58 36 ls st σ Q = acR 58 (o_ial 37 ls st σ) ls σ Q := rn_row rfl ls st σ Q
theorem r_58_37 (ls : a_LS) (st : List Value) (σ : a_HP) (Q : Option Value → a_HP → Prop) : Rn 58 37 ls st σ Q = acR 58 (o_sti 2 38 ls st σ) ls σ Q := rn_row rfl ls st σ Q
theorem r_58_38 (ls : a_LS) (st : List Value) (σ : a_HP) (Q : Option Value → a_HP → Prop) : Rn 58 38 ls st σ Q = acR 58 (o_lda 0 39 ls st σ) ls σ Q := rn_row rfl ls st σ Q
theorem r_58_39 (ls : a_LS) (st : List Value) (σ : a_HP) (Q : Option Value → a_HP → Prop) : Rn 58 39 ls st σ Q = acR 58 (o_get 7 1 42 ls st σ) ls σ Q := rn_row rfl ls st σ Q
theorem r_58_42 (ls : a_LS) (st : List Value) (σ : a_HP) (Q : Option Value → a_HP → Prop) : Rn 58 42 ls st σ Q = acR 58 (o_lda 0 43 ls st σ) ls σ Q := rn_row rfl ls st σ Q
theorem r_58_43 (ls : a_LS) (st : List Value) (σ : a_HP) (Q : Option Value → a_HP → Prop) : Rn 58 43 ls st σ Q = acR 58 (o_get 7 0 46 ls st σ) ls σ Q := rn_row rfl ls st σ Q
theorem r_58_46 (ls : a_LS) (st : List Value) (σ : a_HP) (Q : Option Value → a_HP → Prop) : Rn 58 46 ls st σ Q = acR 58 (o_ivv 4 29 1 49 ls st σ) ls σ Q := rn_row rfl ls st σ Q
theorem r_58_49 (ls : a_LS) (st : List Value) (σ : a_HP) (Q : Option Value → a_HP → Prop) : Rn 58 49 ls st σ Q = acR 58 (o_lda 0 50 ls st σ) ls σ Q := rn_row rfl ls st σ Q
theorem r_58_50 (ls : a_LS) (st : List Value) (σ : a_HP) (Q : Option Value → a_HP → Prop) : Rn 58 50 ls st σ Q = acR 58 (o_get 7 0 53 ls st σ) ls σ Q := rn_row rfl ls st σ Q
theorem r_58_53 (ls : a_LS) (st : List Value) (σ : a_HP) (Q : Option Value → a_HP → Prop) : Rn 58 53 ls st σ Q = acR 58 (o_get 3 5 56 ls st σ) ls σ Q := rn_row rfl ls st σ Q
theorem r_58_56 (ls : a_LS) (st : List Value) (σ : a_HP) (Q : Option Value → a_HP → Prop) : Rn 58 56 ls st σ Q = acR 58 (o_ldi 1 57 ls st σ) ls σ Q := rn_row rfl ls st σ Q
theorem r_58_57 (ls : a_LS) (st : List Value) (σ : a_HP) (Q : Option Value → a_HP → Prop) : Rn 58 57 ls st σ Q = acR 58 (o_pi (nI 0) 58 ls st σ) ls σ Q := rn_row rfl ls st σ Q
theorem r_58_58 (ls : a_LS) (st : List Value) (σ : a_HP) (Q : Option Value → a_HP → Prop) : Rn 58 58 ls st σ Q = acR 58 (o_ias 59 ls st σ) ls σ Q := rn_row rfl ls st σ Q
theorem r_58_59 (ls : a_LS) (st : List Value) (σ : a_HP) (Q : Option Value → a_HP → Prop) : Rn 58 59 ls st σ Q = acR 58 (o_ldi 2 60 ls st σ) ls σ Q := rn_row rfl ls st σ Q
theorem r_58_60 (ls : a_LS) (st : List Value) (σ : a_HP) (Q : Option Value → a_HP → Prop) : Rn 58 60 ls st σ Q = acR 58 (o_ri ls st σ) ls σ Q := rn_row rfl ls st σ Q
/-! 59: NetLaw.night()I -/
theorem cl_59 (x0 : Nat) (σ : a_HP) (Q : Option Value → a_HP → Prop) : Cl 59 [.ref x0] σ Q = Rn 59 0 [some (.ref x0)] [] σ Q := cl_of (Nat.le_of_ble_eq_true rfl) rfl σ Q
theorem r_59_0 (ls : a_LS) (st : List Value) (σ : a_HP) (Q : Option Value → a_HP → Prop) : Rn 59 0 ls st σ Q = acR 59 (o_lda 0 1 ls st σ) ls σ Q := rn_row rfl ls st σ Q
theorem r_59_1 (ls : a_LS) (st : List Value) (σ : a_HP) (Q : Option Value → a_HP → Prop) : Rn 59 1 ls st σ Q = acR 59 (o_get 7 1 4 ls st σ) ls σ Q := rn_row rfl ls st σ Q
theorem r_59_4 (ls : a_LS) (st : List Value) (σ : a_HP) (Q : Option Value → a_HP → Prop) : Rn 59 4 ls st σ Q = acR 59 (o_lda 0 5 ls st σ) ls σ Q := rn_row rfl ls st σ Q
theorem r_59_5 (ls : a_LS) (st : List Value) (σ : a_HP) (Q : Option Value → a_HP → Prop) : Rn 59 5 ls st σ Q = acR 59 (o_get 7 0 8 ls st σ) ls σ Q := rn_row rfl ls st σ Q
theorem r_59_8 (ls : a_LS) (st : List Value) (σ : a_HP) (Q : Option Value → a_HP → Prop) : Rn 59 8 ls st σ Q = acR 59 (o_ivv 4 29 1 11 ls st σ) ls σ Q := rn_row rfl ls st σ Q
theorem r_59_11 (ls : a_LS) (st : List Value) (σ : a_HP) (Q : Option Value → a_HP → Prop) : Rn 59 11 ls st σ Q = acR 59 (o_lda 0 12 ls st σ) ls σ Q := rn_row rfl ls st σ Q
theorem r_59_12 (ls : a_LS) (st : List Value) (σ : a_HP) (Q : Option Value → a_HP → Prop) : Rn 59 12 ls st σ Q = acR 59 (o_get 7 0 15 ls st σ) ls σ Q := rn_row rfl ls st σ Q
theorem r_59_15 (ls : a_LS) (st : List Value) (σ : a_HP) (Q : Option Value → a_HP → Prop) : Rn 59 15 ls st σ Q = acR 59 (o_ivv 3 27 0 18 ls st σ) ls σ Q := rn_row rfl ls st σ Q
theorem r_59_18 (ls : a_LS) (st : List Value) (σ : a_HP) (Q : Option Value → a_HP → Prop) : Rn 59 18 ls st σ Q = acR 59 (o_ri ls st σ) ls σ Q := rn_row rfl ls st σ Q
/-! 60: NetLaw.undo()I -/
theorem cl_60 (x0 : Nat) (σ : a_HP) (Q : Option Value → a_HP → Prop) : Cl 60 [.ref x0] σ Q = Rn 60 0 [some (.ref x0)] [] σ Q := cl_of (Nat.le_of_ble_eq_true rfl) rfl σ Q
theorem r_60_0 (ls : a_LS) (st : List Value) (σ : a_HP) (Q : Option Value → a_HP → Prop) : Rn 60 0 ls st σ Q = acR 60 (o_lda 0 1 ls st σ) ls σ Q := rn_row rfl ls st σ Q
theorem r_60_1 (ls : a_LS) (st : List Value) (σ : a_HP) (Q : Option Value → a_HP → Prop) : Rn 60 1 ls st σ Q = acR 60 (o_get 7 1 4 ls st σ) ls σ Q := rn_row rfl ls st σ Q
theorem r_60_4 (ls : a_LS) (st : List Value) (σ : a_HP) (Q : Option Value → a_HP → Prop) : Rn 60 4 ls st σ Q = acR 60 (o_get 4 0 7 ls st σ) ls σ Q := rn_row rfl ls st σ Q
theorem r_60_7 (ls : a_LS) (st : List Value) (σ : a_HP) (Q : Option Value → a_HP → Prop) : Rn 60 7 ls st σ Q = acR 60 (o_ne 15 10 ls st σ) ls σ Q := rn_row rfl ls st σ Q
theorem r_60_10 (ls : a_LS) (st : List Value) (σ : a_HP) (Q : Option Value → a_HP → Prop) : Rn 60 10 ls st σ Q = acR 60 (o_lda 0 11 ls st σ) ls σ Q := rn_row rfl ls st σ Q
theorem r_60_11 (ls : a_LS) (st : List Value) (σ : a_HP) (Q : Option Value → a_HP → Prop) : Rn 60 11 ls st σ Q = acR 60 (o_ivv 7 89 0 14 ls st σ) ls σ Q := rn_row rfl ls st σ Q
theorem r_60_14 (ls : a_LS) (st : List Value) (σ : a_HP) (Q : Option Value → a_HP → Prop) : Rn 60 14 ls st σ Q = acR 60 (o_ri ls st σ) ls σ Q := rn_row rfl ls st σ Q
theorem r_60_15 (ls : a_LS) (st : List Value) (σ : a_HP) (Q : Option Value → a_HP → Prop) : Rn 60 15 ls st σ Q = acR 60 (o_lda 0 16 ls st σ) ls σ Q := rn_row rfl ls st σ Q
theorem r_60_16 (ls : a_LS) (st : List Value) (σ : a_HP) (Q : Option Value → a_HP → Prop) : Rn 60 16 ls st σ Q = acR 60 (o_get 7 1 19 ls st σ) ls σ Q := rn_row rfl ls st σ Q
theorem r_60_19 (ls : a_LS) (st : List Value) (σ : a_HP) (Q : Option Value → a_HP → Prop) : Rn 60 19 ls st σ Q = acR 60 (o_lda 0 20 ls st σ) ls σ Q := rn_row rfl ls st σ Q
theorem r_60_20 (ls : a_LS) (st : List Value) (σ : a_HP) (Q : Option Value → a_HP → Prop) : Rn 60 20 ls st σ Q = acR 60 (o_get 7 0 23 ls st σ) ls σ Q := rn_row rfl ls st σ Q
theorem r_60_23 (ls : a_LS) (st : List Value) (σ : a_HP) (Q : Option Value → a_HP → Prop) : Rn 60 23 ls st σ Q = acR 60 (o_ivv 4 30 1 26 ls st σ) ls σ Q := rn_row rfl ls st σ Q
theorem r_60_26 (ls : a_LS) (st : List Value) (σ : a_HP) (Q : Option Value → a_HP → Prop) : Rn 60 26 ls st σ Q = acR 60 (o_lda 0 27 ls st σ) ls σ Q := rn_row rfl ls st σ Q
theorem r_60_27 (ls : a_LS) (st : List Value) (σ : a_HP) (Q : Option Value → a_HP → Prop) : Rn 60 27 ls st σ Q = acR 60 (o_get 7 0 30 ls st σ) ls σ Q := rn_row rfl ls st σ Q
theorem r_60_30 (ls : a_LS) (st : List Value) (σ : a_HP) (Q : Option Value → a_HP → Prop) : Rn 60 30 ls st σ Q = acR 60 (o_get 3 1 33 ls st σ) ls σ Q := rn_row rfl ls st σ Q
theorem r_60_33 (ls : a_LS) (st : List Value) (σ : a_HP) (Q : Option Value → a_HP → Prop) : Rn 60 33 ls st σ Q = acR 60 (o_ri ls st σ) ls σ Q := rn_row rfl ls st σ Q
/-! 61: NetLaw.type(I)I -/
theorem cl_61 (x0 : Nat) (x1 : Int32) (σ : a_HP) (Q : Option Value → a_HP → Prop) : Cl 61 [.ref x0, .int x1] σ Q = Rn 61 0 [some (.ref x0), some (.int x1)] [] σ Q := cl_of (Nat.le_of_ble_eq_true rfl) rfl σ Q
theorem r_61_0 (ls : a_LS) (st : List Value) (σ : a_HP) (Q : Option Value → a_HP → Prop) : Rn 61 0 ls st σ Q = acR 61 (o_ldi 1 1 ls st σ) ls σ Q := rn_row rfl ls st σ Q
theorem r_61_1 (ls : a_LS) (st : List Value) (σ : a_HP) (Q : Option Value → a_HP → Prop) : Rn 61 1 ls st σ Q = acR 61 (o_pi (nI 0) 2 ls st σ) ls σ Q := rn_row rfl ls st σ Q
theorem r_61_2 (ls : a_LS) (st : List Value) (σ : a_HP) (Q : Option Value → a_HP → Prop) : Rn 61 2 ls st σ Q = acR 61 (o_pi (nI 127) 4 ls st σ) ls σ Q := rn_row rfl ls st σ Q
theorem r_61_4 (ls : a_LS) (st : List Value) (σ : a_HP) (Q : Option Value → a_HP → Prop) : Rn 61 4 ls st σ Q = acR 61 (o_ivs 91 3 7 ls st σ) ls σ Q := rn_row rfl ls st σ Q
theorem r_61_7 (ls : a_LS) (st : List Value) (σ : a_HP) (Q : Option Value → a_HP → Prop) : Rn 61 7 ls st σ Q = acR 61 (o_ne 15 10 ls st σ) ls σ Q := rn_row rfl ls st σ Q
theorem r_61_10 (ls : a_LS) (st : List Value) (σ : a_HP) (Q : Option Value → a_HP → Prop) : Rn 61 10 ls st σ Q = acR 61 (o_lda 0 11 ls st σ) ls σ Q := rn_row rfl ls st σ Q
theorem r_61_11 (ls : a_LS) (st : List Value) (σ : a_HP) (Q : Option Value → a_HP → Prop) : Rn 61 11 ls st σ Q = acR 61 (o_ivv 7 87 0 14 ls st σ) ls σ Q := rn_row rfl ls st σ Q
theorem r_61_14 (ls : a_LS) (st : List Value) (σ : a_HP) (Q : Option Value → a_HP → Prop) : Rn 61 14 ls st σ Q = acR 61 (o_ri ls st σ) ls σ Q := rn_row rfl ls st σ Q
theorem r_61_15 (ls : a_LS) (st : List Value) (σ : a_HP) (Q : Option Value → a_HP → Prop) : Rn 61 15 ls st σ Q = acR 61 (o_lda 0 16 ls st σ) ls σ Q := rn_row rfl ls st σ Q
theorem r_61_16 (ls : a_LS) (st : List Value) (σ : a_HP) (Q : Option Value → a_HP → Prop) : Rn 61 16 ls st σ Q = acR 61 (o_get 7 4 19 ls st σ) ls σ Q := rn_row rfl ls st σ Q
theorem r_61_19 (ls : a_LS) (st : List Value) (σ : a_HP) (Q : Option Value → a_HP → Prop) : Rn 61 19 ls st σ Q = acR 61 (o_get 6 0 22 ls st σ) ls σ Q := rn_row rfl ls st σ Q
theorem r_61_22 (ls : a_LS) (st : List Value) (σ : a_HP) (Q : Option Value → a_HP → Prop) : Rn 61 22 ls st σ Q = acR 61 (o_pi (nI 150) 25 ls st σ) ls σ Q := rn_row rfl ls st σ Q
theorem r_61_25 (ls : a_LS) (st : List Value) (σ : a_HP) (Q : Option Value → a_HP → Prop) : Rn 61 25 ls st σ Q = acR 61 (o_clt 33 28 ls st σ) ls σ Q := rn_row rfl ls st σ Q
theorem r_61_28 (ls : a_LS) (st : List Value) (σ : a_HP) (Q : Option Value → a_HP → Prop) : Rn 61 28 ls st σ Q = acR 61 (o_lda 0 29 ls st σ) ls σ Q := rn_row rfl ls st σ Q
theorem r_61_29 (ls : a_LS) (st : List Value) (σ : a_HP) (Q : Option Value → a_HP → Prop) : Rn 61 29 ls st σ Q = acR 61 (o_ivv 7 90 0 32 ls st σ) ls σ Q := rn_row rfl ls st σ Q
theorem r_61_32 (ls : a_LS) (st : List Value) (σ : a_HP) (Q : Option Value → a_HP → Prop) : Rn 61 32 ls st σ Q = acR 61 (o_ri ls st σ) ls σ Q := rn_row rfl ls st σ Q
theorem r_61_33 (ls : a_LS) (st : List Value) (σ : a_HP) (Q : Option Value → a_HP → Prop) : Rn 61 33 ls st σ Q = acR 61 (o_lda 0 34 ls st σ) ls σ Q := rn_row rfl ls st σ Q
theorem r_61_34 (ls : a_LS) (st : List Value) (σ : a_HP) (Q : Option Value → a_HP → Prop) : Rn 61 34 ls st σ Q = acR 61 (o_get 7 4 37 ls st σ) ls σ Q := rn_row rfl ls st σ Q
theorem r_61_37 (ls : a_LS) (st : List Value) (σ : a_HP) (Q : Option Value → a_HP → Prop) : Rn 61 37 ls st σ Q = acR 61 (o_ldi 1 38 ls st σ) ls σ Q := rn_row rfl ls st σ Q
theorem r_61_38 (ls : a_LS) (st : List Value) (σ : a_HP) (Q : Option Value → a_HP → Prop) : Rn 61 38 ls st σ Q = acR 61 (o_ivv 6 40 1 41 ls st σ) ls σ Q := rn_row rfl ls st σ Q
theorem r_61_41 (ls : a_LS) (st : List Value) (σ : a_HP) (Q : Option Value → a_HP → Prop) : Rn 61 41 ls st σ Q = acR 61 (o_lda 0 42 ls st σ) ls σ Q := rn_row rfl ls st σ Q
theorem r_61_42 (ls : a_LS) (st : List Value) (σ : a_HP) (Q : Option Value → a_HP → Prop) : Rn 61 42 ls st σ Q = acR 61 (o_get 7 4 45 ls st σ) ls σ Q := rn_row rfl ls st σ Q
theorem r_61_45 (ls : a_LS) (st : List Value) (σ : a_HP) (Q : Option Value → a_HP → Prop) : Rn 61 45 ls st σ Q = acR 61 (o_get 6 0 48 ls st σ) ls σ Q := rn_row rfl ls st σ Q
theorem r_61_48 (ls : a_LS) (st : List Value) (σ : a_HP) (Q : Option Value → a_HP → Prop) : Rn 61 48 ls st σ Q = acR 61 (o_ri ls st σ) ls σ Q := rn_row rfl ls st σ Q
/-! 62: NetLaw.clear()I -/
theorem cl_62 (x0 : Nat) (σ : a_HP) (Q : Option Value → a_HP → Prop) : Cl 62 [.ref x0] σ Q = Rn 62 0 [some (.ref x0), none] [] σ Q := cl_of (Nat.le_of_ble_eq_true rfl) rfl σ Q
theorem r_62_0 (ls : a_LS) (st : List Value) (σ : a_HP) (Q : Option Value → a_HP → Prop) : Rn 62 0 ls st σ Q = acR 62 (o_lda 0 1 ls st σ) ls σ Q := rn_row rfl ls st σ Q
theorem r_62_1 (ls : a_LS) (st : List Value) (σ : a_HP) (Q : Option Value → a_HP → Prop) : Rn 62 1 ls st σ Q = acR 62 (o_get 7 4 4 ls st σ) ls σ Q := rn_row rfl ls st σ Q
theorem r_62_4 (ls : a_LS) (st : List Value) (σ : a_HP) (Q : Option Value → a_HP → Prop) : Rn 62 4 ls st σ Q = acR 62 (o_get 6 0 7 ls st σ) ls σ Q := rn_row rfl ls st σ Q
theorem r_62_7 (ls : a_LS) (st : List Value) (σ : a_HP) (Q : Option Value → a_HP → Prop) : Rn 62 7 ls st σ Q = acR 62 (o_sti 1 8 ls st σ) ls σ Q := rn_row rfl ls st σ Q
theorem r_62_8 (ls : a_LS) (st : List Value) (σ : a_HP) (Q : Option Value → a_HP → Prop) : Rn 62 8 ls st σ Q = acR 62 (o_lda 0 9 ls st σ) ls σ Q := rn_row rfl ls st σ Q
theorem r_62_9 (ls : a_LS) (st : List Value) (σ : a_HP) (Q : Option Value → a_HP → Prop) : Rn 62 9 ls st σ Q = acR 62 (o_get 7 4 12 ls st σ) ls σ Q := rn_row rfl ls st σ Q
theorem r_62_12 (ls : a_LS) (st : List Value) (σ : a_HP) (Q : Option Value → a_HP → Prop) : Rn 62 12 ls st σ Q = acR 62 (o_pi (nI 0) 13 ls st σ) ls σ Q := rn_row rfl ls st σ Q
theorem r_62_13 (ls : a_LS) (st : List Value) (σ : a_HP) (Q : Option Value → a_HP → Prop) : Rn 62 13 ls st σ Q = acR 62 (o_put 6 0 16 ls st σ) ls σ Q := rn_row rfl ls st σ Q
theorem r_62_16 (ls : a_LS) (st : List Value) (σ : a_HP) (Q : Option Value → a_HP → Prop) : Rn 62 16 ls st σ Q = acR 62 (o_ldi 1 17 ls st σ) ls σ Q := rn_row rfl ls st σ Q
theorem r_62_17 (ls : a_LS) (st : List Value) (σ : a_HP) (Q : Option Value → a_HP → Prop) : Rn 62 17 ls st σ Q = acR 62 (o_ri ls st σ) ls σ Q := rn_row rfl ls st σ Q
/-! 63: NetLaw.read()I -/
theorem cl_63 (x0 : Nat) (σ : a_HP) (Q : Option Value → a_HP → Prop) : Cl 63 [.ref x0] σ Q = Rn 63 0 [some (.ref x0), none, none, none] [] σ Q := cl_of (Nat.le_of_ble_eq_true rfl) rfl σ Q
theorem r_63_0 (ls : a_LS) (st : List Value) (σ : a_HP) (Q : Option Value → a_HP → Prop) : Rn 63 0 ls st σ Q = acR 63 (o_lda 0 1 ls st σ) ls σ Q := rn_row rfl ls st σ Q
theorem r_63_1 (ls : a_LS) (st : List Value) (σ : a_HP) (Q : Option Value → a_HP → Prop) : Rn 63 1 ls st σ Q = acR 63 (o_get 7 4 4 ls st σ) ls σ Q := rn_row rfl ls st σ Q
theorem r_63_4 (ls : a_LS) (st : List Value) (σ : a_HP) (Q : Option Value → a_HP → Prop) : Rn 63 4 ls st σ Q = acR 63 (o_ivv 6 43 0 7 ls st σ) ls σ Q := rn_row rfl ls st σ Q
theorem r_63_7 (ls : a_LS) (st : List Value) (σ : a_HP) (Q : Option Value → a_HP → Prop) : Rn 63 7 ls st σ Q = acR 63 (o_sti 1 8 ls st σ) ls σ Q := rn_row rfl ls st σ Q
theorem r_63_8 (ls : a_LS) (st : List Value) (σ : a_HP) (Q : Option Value → a_HP → Prop) : Rn 63 8 ls st σ Q = acR 63 (o_ldi 1 9 ls st σ) ls σ Q := rn_row rfl ls st σ Q
theorem r_63_9 (ls : a_LS) (st : List Value) (σ : a_HP) (Q : Option Value → a_HP → Prop) : Rn 63 9 ls st σ Q = acR 63 (o_pi (-1) 10 ls st σ) ls σ Q := rn_row rfl ls st σ Q
theorem r_63_10 (ls : a_LS) (st : List Value) (σ : a_HP) (Q : Option Value → a_HP → Prop) : Rn 63 10 ls st σ Q = acR 63 (o_ceq 18 13 ls st σ) ls σ Q := rn_row rfl ls st σ Q
theorem r_63_13 (ls : a_LS) (st : List Value) (σ : a_HP) (Q : Option Value → a_HP → Prop) : Rn 63 13 ls st σ Q = acR 63 (o_pi (-10) 15 ls st σ) ls σ Q := rn_row rfl ls st σ Q
theorem r_63_15 (ls : a_LS) (st : List Value) (σ : a_HP) (Q : Option Value → a_HP → Prop) : Rn 63 15 ls st σ Q = acR 63 (o_ldi 1 16 ls st σ) ls σ Q := rn_row rfl ls st σ Q
theorem r_63_16 (ls : a_LS) (st : List Value) (σ : a_HP) (Q : Option Value → a_HP → Prop) : Rn 63 16 ls st σ Q = acR 63 (o_bi f_sub 17 ls st σ) ls σ Q := rn_row rfl ls st σ Q
theorem r_63_17 (ls : a_LS) (st : List Value) (σ : a_HP) (Q : Option Value → a_HP → Prop) : Rn 63 17 ls st σ Q = acR 63 (o_ri ls st σ) ls σ Q := rn_row rfl ls st σ Q
theorem r_63_18 (ls : a_LS) (st : List Value) (σ : a_HP) (Q : Option Value → a_HP → Prop) : Rn 63 18 ls st σ Q = acR 63 (o_lda 0 19 ls st σ) ls σ Q := rn_row rfl ls st σ Q
theorem r_63_19 (ls : a_LS) (st : List Value) (σ : a_HP) (Q : Option Value → a_HP → Prop) : Rn 63 19 ls st σ Q = acR 63 (o_ivv 7 100 0 22 ls st σ) ls σ Q := rn_row rfl ls st σ Q
theorem r_63_22 (ls : a_LS) (st : List Value) (σ : a_HP) (Q : Option Value → a_HP → Prop) : Rn 63 22 ls st σ Q = acR 63 (o_sti 2 23 ls st σ) ls σ Q := rn_row rfl ls st σ Q
theorem r_63_23 (ls : a_LS) (st : List Value) (σ : a_HP) (Q : Option Value → a_HP → Prop) : Rn 63 23 ls st σ Q = acR 63 (o_ldi 2 24 ls st σ) ls σ Q := rn_row rfl ls st σ Q
theorem r_63_24 (ls : a_LS) (st : List Value) (σ : a_HP) (Q : Option Value → a_HP → Prop) : Rn 63 24 ls st σ Q = acR 63 (o_pi (-1) 25 ls st σ) ls σ Q := rn_row rfl ls st σ Q
theorem r_63_25 (ls : a_LS) (st : List Value) (σ : a_HP) (Q : Option Value → a_HP → Prop) : Rn 63 25 ls st σ Q = acR 63 (o_ceq 34 28 ls st σ) ls σ Q := rn_row rfl ls st σ Q
theorem r_63_28 (ls : a_LS) (st : List Value) (σ : a_HP) (Q : Option Value → a_HP → Prop) : Rn 63 28 ls st σ Q = acR 63 (o_pi (-1000) 31 ls st σ) ls σ Q := rn_row rfl ls st σ Q
theorem r_63_31 (ls : a_LS) (st : List Value) (σ : a_HP) (Q : Option Value → a_HP → Prop) : Rn 63 31 ls st σ Q = acR 63 (o_ldi 2 32 ls st σ) ls σ Q := rn_row rfl ls st σ Q
theorem r_63_32 (ls : a_LS) (st : List Value) (σ : a_HP) (Q : Option Value → a_HP → Prop) : Rn 63 32 ls st σ Q = acR 63 (o_bi f_sub 33 ls st σ) ls σ Q := rn_row rfl ls st σ Q
theorem r_63_33 (ls : a_LS) (st : List Value) (σ : a_HP) (Q : Option Value → a_HP → Prop) : Rn 63 33 ls st σ Q = acR 63 (o_ri ls st σ) ls σ Q := rn_row rfl ls st σ Q
theorem r_63_34 (ls : a_LS) (st : List Value) (σ : a_HP) (Q : Option Value → a_HP → Prop) : Rn 63 34 ls st σ Q = acR 63 (o_pi (nI 0) 35 ls st σ) ls σ Q := rn_row rfl ls st σ Q
theorem r_63_35 (ls : a_LS) (st : List Value) (σ : a_HP) (Q : Option Value → a_HP → Prop) : Rn 63 35 ls st σ Q = acR 63 (o_sti 3 36 ls st σ) ls σ Q := rn_row rfl ls st σ Q
theorem r_63_36 (ls : a_LS) (st : List Value) (σ : a_HP) (Q : Option Value → a_HP → Prop) : Rn 63 36 ls st σ Q = acR 63 (o_ldi 3 37 ls st σ) ls σ Q := rn_row rfl ls st σ Q
theorem r_63_37 (ls : a_LS) (st : List Value) (σ : a_HP) (Q : Option Value → a_HP → Prop) : Rn 63 37 ls st σ Q = acR 63 (o_lda 0 38 ls st σ) ls σ Q := rn_row rfl ls st σ Q
theorem r_63_38 (ls : a_LS) (st : List Value) (σ : a_HP) (Q : Option Value → a_HP → Prop) : Rn 63 38 ls st σ Q = acR 63 (o_get 7 4 41 ls st σ) ls σ Q := rn_row rfl ls st σ Q
theorem r_63_41 (ls : a_LS) (st : List Value) (σ : a_HP) (Q : Option Value → a_HP → Prop) : Rn 63 41 ls st σ Q = acR 63 (o_get 6 1 44 ls st σ) ls σ Q := rn_row rfl ls st σ Q
theorem r_63_44 (ls : a_LS) (st : List Value) (σ : a_HP) (Q : Option Value → a_HP → Prop) : Rn 63 44 ls st σ Q = acR 63 (o_cge 58 47 ls st σ) ls σ Q := rn_row rfl ls st σ Q
theorem r_63_47 (ls : a_LS) (st : List Value) (σ : a_HP) (Q : Option Value → a_HP → Prop) : Rn 63 47 ls st σ Q = acR 63 (o_lda 0 48 ls st σ) ls σ Q := rn_row rfl ls st σ Q
theorem r_63_48 (ls : a_LS) (st : List Value) (σ : a_HP) (Q : Option Value → a_HP → Prop) : Rn 63 48 ls st σ Q = acR 63 (o_ldi 3 49 ls st σ) ls σ Q := rn_row rfl ls st σ Q
theorem r_63_49 (ls : a_LS) (st : List Value) (σ : a_HP) (Q : Option Value → a_HP → Prop) : Rn 63 49 ls st σ Q = acR 63 (o_ivv 7 102 1 52 ls st σ) ls σ Q := rn_row rfl ls st σ Q
theorem r_63_52 (ls : a_LS) (st : List Value) (σ : a_HP) (Q : Option Value → a_HP → Prop) : Rn 63 52 ls st σ Q = acR 63 (o_inc 3 (nI 1) 55 ls st σ) ls σ Q := rn_row rfl ls st σ Q
theorem r_63_55 (ls : a_LS) (st : List Value) (σ : a_HP) (Q : Option Value → a_HP → Prop) : Rn 63 55 ls st σ Q = acR 63 (o_go 36 ls st σ) ls σ Q := rn_row rfl ls st σ Q
theorem r_63_58 (ls : a_LS) (st : List Value) (σ : a_HP) (Q : Option Value → a_HP → Prop) : Rn 63 58 ls st σ Q = acR 63 (o_lda 0 59 ls st σ) ls σ Q := rn_row rfl ls st σ Q
theorem r_63_59 (ls : a_LS) (st : List Value) (σ : a_HP) (Q : Option Value → a_HP → Prop) : Rn 63 59 ls st σ Q = acR 63 (o_get 7 4 62 ls st σ) ls σ Q := rn_row rfl ls st σ Q
theorem r_63_62 (ls : a_LS) (st : List Value) (σ : a_HP) (Q : Option Value → a_HP → Prop) : Rn 63 62 ls st σ Q = acR 63 (o_get 6 1 65 ls st σ) ls σ Q := rn_row rfl ls st σ Q
theorem r_63_65 (ls : a_LS) (st : List Value) (σ : a_HP) (Q : Option Value → a_HP → Prop) : Rn 63 65 ls st σ Q = acR 63 (o_ri ls st σ) ls σ Q := rn_row rfl ls st σ Q
/-! 64: NetLaw.of(II)I -/
theorem cl_64 (x0 : Nat) (x1 : Int32) (x2 : Int32) (σ : a_HP) (Q : Option Value → a_HP → Prop) : Cl 64 [.ref x0, .int x1, .int x2] σ Q = Rn 64 0 [some (.ref x0), some (.int x1), some (.int x2)] [] σ Q := cl_of (Nat.le_of_ble_eq_true rfl) rfl σ Q
theorem r_64_0 (ls : a_LS) (st : List Value) (σ : a_HP) (Q : Option Value → a_HP → Prop) : Rn 64 0 ls st σ Q = acR 64 (o_ldi 1 1 ls st σ) ls σ Q := rn_row rfl ls st σ Q
theorem r_64_1 (ls : a_LS) (st : List Value) (σ : a_HP) (Q : Option Value → a_HP → Prop) : Rn 64 1 ls st σ Q = acR 64 (o_ivs 92 1 4 ls st σ) ls σ Q := rn_row rfl ls st σ Q
theorem r_64_4 (ls : a_LS) (st : List Value) (σ : a_HP) (Q : Option Value → a_HP → Prop) : Rn 64 4 ls st σ Q = acR 64 (o_ne 12 7 ls st σ) ls σ Q := rn_row rfl ls st σ Q
theorem r_64_7 (ls : a_LS) (st : List Value) (σ : a_HP) (Q : Option Value → a_HP → Prop) : Rn 64 7 ls st σ Q = acR 64 (o_lda 0 8 ls st σ) ls σ Q := rn_row rfl ls st σ Q
theorem r_64_8 (ls : a_LS) (st : List Value) (σ : a_HP) (Q : Option Value → a_HP → Prop) : Rn 64 8 ls st σ Q = acR 64 (o_ivv 7 87 0 11 ls st σ) ls σ Q := rn_row rfl ls st σ Q
theorem r_64_11 (ls : a_LS) (st : List Value) (σ : a_HP) (Q : Option Value → a_HP → Prop) : Rn 64 11 ls st σ Q = acR 64 (o_ri ls st σ) ls σ Q := rn_row rfl ls st σ Q
theorem r_64_12 (ls : a_LS) (st : List Value) (σ : a_HP) (Q : Option Value → a_HP → Prop) : Rn 64 12 ls st σ Q = acR 64 (o_ldi 2 13 ls st σ) ls σ Q := rn_row rfl ls st σ Q
theorem r_64_13 (ls : a_LS) (st : List Value) (σ : a_HP) (Q : Option Value → a_HP → Prop) : Rn 64 13 ls st σ Q = acR 64 (o_sw [((nI 0), 48), ((nI 1), 58), ((nI 2), 68), ((nI 3), 78), ((nI 4), 87)] 96 ls st σ) ls σ Q := rn_row rfl ls st σ Q
theorem r_64_48 (ls : a_LS) (st : List Value) (σ : a_HP) (Q : Option Value → a_HP → Prop) : Rn 64 48 ls st σ Q = acR 64 (o_lda 0 49 ls st σ) ls σ Q := rn_row rfl ls st σ Q
theorem r_64_49 (ls : a_LS) (st : List Value) (σ : a_HP) (Q : Option Value → a_HP → Prop) : Rn 64 49 ls st σ Q = acR 64 (o_get 7 0 52 ls st σ) ls σ Q := rn_row rfl ls st σ Q
theorem r_64_52 (ls : a_LS) (st : List Value) (σ : a_HP) (Q : Option Value → a_HP → Prop) : Rn 64 52 ls st σ Q = acR 64 (o_get 3 4 55 ls st σ) ls σ Q := rn_row rfl ls st σ Q
theorem r_64_55 (ls : a_LS) (st : List Value) (σ : a_HP) (Q : Option Value → a_HP → Prop) : Rn 64 55 ls st σ Q = acR 64 (o_ldi 1 56 ls st σ) ls σ Q := rn_row rfl ls st σ Q
theorem r_64_56 (ls : a_LS) (st : List Value) (σ : a_HP) (Q : Option Value → a_HP → Prop) : Rn 64 56 ls st σ Q = acR 64 (o_ial 57 ls st σ) ls σ Q := rn_row rfl ls st σ Q
theorem r_64_57 (ls : a_LS) (st : List Value) (σ : a_HP) (Q : Option Value → a_HP → Prop) : Rn 64 57 ls st σ Q = acR 64 (o_ri ls st σ) ls σ Q := rn_row rfl ls st σ Q
theorem r_64_58 (ls : a_LS) (st : List Value) (σ : a_HP) (Q : Option Value → a_HP → Prop) : Rn 64 58 ls st σ Q = acR 64 (o_lda 0 59 ls st σ) ls σ Q := rn_row rfl ls st σ Q
theorem r_64_59 (ls : a_LS) (st : List Value) (σ : a_HP) (Q : Option Value → a_HP → Prop) : Rn 64 59 ls st σ Q = acR 64 (o_get 7 0 62 ls st σ) ls σ Q := rn_row rfl ls st σ Q
theorem r_64_62 (ls : a_LS) (st : List Value) (σ : a_HP) (Q : Option Value → a_HP → Prop) : Rn 64 62 ls st σ Q = acR 64 (o_get 3 5 65 ls st σ) ls σ Q := rn_row rfl ls st σ Q
theorem r_64_65 (ls : a_LS) (st : List Value) (σ : a_HP) (Q : Option Value → a_HP → Prop) : Rn 64 65 ls st σ Q = acR 64 (o_ldi 1 66 ls st σ) ls σ Q := rn_row rfl ls st σ Q
theorem r_64_66 (ls : a_LS) (st : List Value) (σ : a_HP) (Q : Option Value → a_HP → Prop) : Rn 64 66 ls st σ Q = acR 64 (o_ial 67 ls st σ) ls σ Q := rn_row rfl ls st σ Q
theorem r_64_67 (ls : a_LS) (st : List Value) (σ : a_HP) (Q : Option Value → a_HP → Prop) : Rn 64 67 ls st σ Q = acR 64 (o_ri ls st σ) ls σ Q := rn_row rfl ls st σ Q
theorem r_64_68 (ls : a_LS) (st : List Value) (σ : a_HP) (Q : Option Value → a_HP → Prop) : Rn 64 68 ls st σ Q = acR 64 (o_lda 0 69 ls st σ) ls σ Q := rn_row rfl ls st σ Q
theorem r_64_69 (ls : a_LS) (st : List Value) (σ : a_HP) (Q : Option Value → a_HP → Prop) : Rn 64 69 ls st σ Q = acR 64 (o_get 7 0 72 ls st σ) ls σ Q := rn_row rfl ls st σ Q
theorem r_64_72 (ls : a_LS) (st : List Value) (σ : a_HP) (Q : Option Value → a_HP → Prop) : Rn 64 72 ls st σ Q = acR 64 (o_get 3 6 75 ls st σ) ls σ Q := rn_row rfl ls st σ Q
theorem r_64_75 (ls : a_LS) (st : List Value) (σ : a_HP) (Q : Option Value → a_HP → Prop) : Rn 64 75 ls st σ Q = acR 64 (o_ldi 1 76 ls st σ) ls σ Q := rn_row rfl ls st σ Q
theorem r_64_76 (ls : a_LS) (st : List Value) (σ : a_HP) (Q : Option Value → a_HP → Prop) : Rn 64 76 ls st σ Q = acR 64 (o_ial 77 ls st σ) ls σ Q := rn_row rfl ls st σ Q
theorem r_64_77 (ls : a_LS) (st : List Value) (σ : a_HP) (Q : Option Value → a_HP → Prop) : Rn 64 77 ls st σ Q = acR 64 (o_ri ls st σ) ls σ Q := rn_row rfl ls st σ Q
theorem r_64_78 (ls : a_LS) (st : List Value) (σ : a_HP) (Q : Option Value → a_HP → Prop) : Rn 64 78 ls st σ Q = acR 64 (o_lda 0 79 ls st σ) ls σ Q := rn_row rfl ls st σ Q
theorem r_64_79 (ls : a_LS) (st : List Value) (σ : a_HP) (Q : Option Value → a_HP → Prop) : Rn 64 79 ls st σ Q = acR 64 (o_get 7 0 82 ls st σ) ls σ Q := rn_row rfl ls st σ Q
theorem r_64_82 (ls : a_LS) (st : List Value) (σ : a_HP) (Q : Option Value → a_HP → Prop) : Rn 64 82 ls st σ Q = acR 64 (o_ldi 1 83 ls st σ) ls σ Q := rn_row rfl ls st σ Q
theorem r_64_83 (ls : a_LS) (st : List Value) (σ : a_HP) (Q : Option Value → a_HP → Prop) : Rn 64 83 ls st σ Q = acR 64 (o_ivv 3 22 1 86 ls st σ) ls σ Q := rn_row rfl ls st σ Q
theorem r_64_86 (ls : a_LS) (st : List Value) (σ : a_HP) (Q : Option Value → a_HP → Prop) : Rn 64 86 ls st σ Q = acR 64 (o_ri ls st σ) ls σ Q := rn_row rfl ls st σ Q
theorem r_64_87 (ls : a_LS) (st : List Value) (σ : a_HP) (Q : Option Value → a_HP → Prop) : Rn 64 87 ls st σ Q = acR 64 (o_lda 0 88 ls st σ) ls σ Q := rn_row rfl ls st σ Q
theorem r_64_88 (ls : a_LS) (st : List Value) (σ : a_HP) (Q : Option Value → a_HP → Prop) : Rn 64 88 ls st σ Q = acR 64 (o_get 7 0 91 ls st σ) ls σ Q := rn_row rfl ls st σ Q
theorem r_64_91 (ls : a_LS) (st : List Value) (σ : a_HP) (Q : Option Value → a_HP → Prop) : Rn 64 91 ls st σ Q = acR 64 (o_ldi 1 92 ls st σ) ls σ Q := rn_row rfl ls st σ Q
theorem r_64_92 (ls : a_LS) (st : List Value) (σ : a_HP) (Q : Option Value → a_HP → Prop) : Rn 64 92 ls st σ Q = acR 64 (o_ivv 3 23 1 95 ls st σ) ls σ Q := rn_row rfl ls st σ Q
theorem r_64_95 (ls : a_LS) (st : List Value) (σ : a_HP) (Q : Option Value → a_HP → Prop) : Rn 64 95 ls st σ Q = acR 64 (o_ri ls st σ) ls σ Q := rn_row rfl ls st σ Q
theorem r_64_96 (ls : a_LS) (st : List Value) (σ : a_HP) (Q : Option Value → a_HP → Prop) : Rn 64 96 ls st σ Q = acR 64 (o_lda 0 97 ls st σ) ls σ Q := rn_row rfl ls st σ Q
theorem r_64_97 (ls : a_LS) (st : List Value) (σ : a_HP) (Q : Option Value → a_HP → Prop) : Rn 64 97 ls st σ Q = acR 64 (o_ivv 7 87 0 100 ls st σ) ls σ Q := rn_row rfl ls st σ Q
theorem r_64_100 (ls : a_LS) (st : List Value) (σ : a_HP) (Q : Option Value → a_HP → Prop) : Rn 64 100 ls st σ Q = acR 64 (o_ri ls st σ) ls σ Q := rn_row rfl ls st σ Q
/-! 65: NetLaw.clause(II)I -/
theorem cl_65 (x0 : Nat) (x1 : Int32) (x2 : Int32) (σ : a_HP) (Q : Option Value → a_HP → Prop) : Cl 65 [.ref x0, .int x1, .int x2] σ Q = Rn 65 0 [some (.ref x0), some (.int x1), some (.int x2)] [] σ Q := cl_of (Nat.le_of_ble_eq_true rfl) rfl σ Q
theorem r_65_0 (ls : a_LS) (st : List Value) (σ : a_HP) (Q : Option Value → a_HP → Prop) : Rn 65 0 ls st σ Q = acR 65 (o_ldi 1 1 ls st σ) ls σ Q := rn_row rfl ls st σ Q
theorem r_65_1 (ls : a_LS) (st : List Value) (σ : a_HP) (Q : Option Value → a_HP → Prop) : Rn 65 1 ls st σ Q = acR 65 (o_ivs 93 1 4 ls st σ) ls σ Q := rn_row rfl ls st σ Q
theorem r_65_4 (ls : a_LS) (st : List Value) (σ : a_HP) (Q : Option Value → a_HP → Prop) : Rn 65 4 ls st σ Q = acR 65 (o_ne 12 7 ls st σ) ls σ Q := rn_row rfl ls st σ Q
theorem r_65_7 (ls : a_LS) (st : List Value) (σ : a_HP) (Q : Option Value → a_HP → Prop) : Rn 65 7 ls st σ Q = acR 65 (o_lda 0 8 ls st σ) ls σ Q := rn_row rfl ls st σ Q
theorem r_65_8 (ls : a_LS) (st : List Value) (σ : a_HP) (Q : Option Value → a_HP → Prop) : Rn 65 8 ls st σ Q = acR 65 (o_ivv 7 87 0 11 ls st σ) ls σ Q := rn_row rfl ls st σ Q
theorem r_65_11 (ls : a_LS) (st : List Value) (σ : a_HP) (Q : Option Value → a_HP → Prop) : Rn 65 11 ls st σ Q = acR 65 (o_ri ls st σ) ls σ Q := rn_row rfl ls st σ Q
theorem r_65_12 (ls : a_LS) (st : List Value) (σ : a_HP) (Q : Option Value → a_HP → Prop) : Rn 65 12 ls st σ Q = acR 65 (o_ldi 2 13 ls st σ) ls σ Q := rn_row rfl ls st σ Q
theorem r_65_13 (ls : a_LS) (st : List Value) (σ : a_HP) (Q : Option Value → a_HP → Prop) : Rn 65 13 ls st σ Q = acR 65 (o_sw [((nI 0), 40), ((nI 1), 50), ((nI 2), 59)] 76 ls st σ) ls σ Q := rn_row rfl ls st σ Q
theorem r_65_40 (ls : a_LS) (st : List Value) (σ : a_HP) (Q : Option Value → a_HP → Prop) : Rn 65 40 ls st σ Q = acR 65 (o_lda 0 41 ls st σ) ls σ Q := rn_row rfl ls st σ Q
theorem r_65_41 (ls : a_LS) (st : List Value) (σ : a_HP) (Q : Option Value → a_HP → Prop) : Rn 65 41 ls st σ Q = acR 65 (o_get 7 0 44 ls st σ) ls σ Q := rn_row rfl ls st σ Q
theorem r_65_44 (ls : a_LS) (st : List Value) (σ : a_HP) (Q : Option Value → a_HP → Prop) : Rn 65 44 ls st σ Q = acR 65 (o_get 3 7 47 ls st σ) ls σ Q := rn_row rfl ls st σ Q
theorem r_65_47 (ls : a_LS) (st : List Value) (σ : a_HP) (Q : Option Value → a_HP → Prop) : Rn 65 47 ls st σ Q = acR 65 (o_ldi 1 48 ls st σ) ls σ Q := rn_row rfl ls st σ Q
theorem r_65_48 (ls : a_LS) (st : List Value) (σ : a_HP) (Q : Option Value → a_HP → Prop) : Rn 65 48 ls st σ Q = acR 65 (o_ial 49 ls st σ) ls σ Q := rn_row rfl ls st σ Q
theorem r_65_49 (ls : a_LS) (st : List Value) (σ : a_HP) (Q : Option Value → a_HP → Prop) : Rn 65 49 ls st σ Q = acR 65 (o_ri ls st σ) ls σ Q := rn_row rfl ls st σ Q
theorem r_65_50 (ls : a_LS) (st : List Value) (σ : a_HP) (Q : Option Value → a_HP → Prop) : Rn 65 50 ls st σ Q = acR 65 (o_lda 0 51 ls st σ) ls σ Q := rn_row rfl ls st σ Q
theorem r_65_51 (ls : a_LS) (st : List Value) (σ : a_HP) (Q : Option Value → a_HP → Prop) : Rn 65 51 ls st σ Q = acR 65 (o_get 7 0 54 ls st σ) ls σ Q := rn_row rfl ls st σ Q
theorem r_65_54 (ls : a_LS) (st : List Value) (σ : a_HP) (Q : Option Value → a_HP → Prop) : Rn 65 54 ls st σ Q = acR 65 (o_ldi 1 55 ls st σ) ls σ Q := rn_row rfl ls st σ Q
theorem r_65_55 (ls : a_LS) (st : List Value) (σ : a_HP) (Q : Option Value → a_HP → Prop) : Rn 65 55 ls st σ Q = acR 65 (o_ivv 3 24 1 58 ls st σ) ls σ Q := rn_row rfl ls st σ Q
theorem r_65_58 (ls : a_LS) (st : List Value) (σ : a_HP) (Q : Option Value → a_HP → Prop) : Rn 65 58 ls st σ Q = acR 65 (o_ri ls st σ) ls σ Q := rn_row rfl ls st σ Q
theorem r_65_59 (ls : a_LS) (st : List Value) (σ : a_HP) (Q : Option Value → a_HP → Prop) : Rn 65 59 ls st σ Q = acR 65 (o_lda 0 60 ls st σ) ls σ Q := rn_row rfl ls st σ Q
theorem r_65_60 (ls : a_LS) (st : List Value) (σ : a_HP) (Q : Option Value → a_HP → Prop) : Rn 65 60 ls st σ Q = acR 65 (o_get 7 0 63 ls st σ) ls σ Q := rn_row rfl ls st σ Q
theorem r_65_63 (ls : a_LS) (st : List Value) (σ : a_HP) (Q : Option Value → a_HP → Prop) : Rn 65 63 ls st σ Q = acR 65 (o_ldi 1 64 ls st σ) ls σ Q := rn_row rfl ls st σ Q
theorem r_65_64 (ls : a_LS) (st : List Value) (σ : a_HP) (Q : Option Value → a_HP → Prop) : Rn 65 64 ls st σ Q = acR 65 (o_ivv 3 25 1 67 ls st σ) ls σ Q := rn_row rfl ls st σ Q
theorem r_65_67 (ls : a_LS) (st : List Value) (σ : a_HP) (Q : Option Value → a_HP → Prop) : Rn 65 67 ls st σ Q = acR 65 (o_eq 74 70 ls st σ) ls σ Q := rn_row rfl ls st σ Q
theorem r_65_70 (ls : a_LS) (st : List Value) (σ : a_HP) (Q : Option Value → a_HP → Prop) : Rn 65 70 ls st σ Q = acR 65 (o_pi (nI 1) 71 ls st σ) ls σ Q := rn_row rfl ls st σ Q
theorem r_65_71 (ls : a_LS) (st : List Value) (σ : a_HP) (Q : Option Value → a_HP → Prop) : Rn 65 71 ls st σ Q = acR 65 (o_go 75 ls st σ) ls σ Q := rn_row rfl ls st σ Q
theorem r_65_74 (ls : a_LS) (st : List Value) (σ : a_HP) (Q : Option Value → a_HP → Prop) : Rn 65 74 ls st σ Q = acR 65 (o_pi (nI 0) 75 ls st σ) ls σ Q := rn_row rfl ls st σ Q
theorem r_65_75 (ls : a_LS) (st : List Value) (σ : a_HP) (Q : Option Value → a_HP → Prop) : Rn 65 75 ls st σ Q = acR 65 (o_ri ls st σ) ls σ Q := rn_row rfl ls st σ Q
theorem r_65_76 (ls : a_LS) (st : List Value) (σ : a_HP) (Q : Option Value → a_HP → Prop) : Rn 65 76 ls st σ Q = acR 65 (o_lda 0 77 ls st σ) ls σ Q := rn_row rfl ls st σ Q
theorem r_65_77 (ls : a_LS) (st : List Value) (σ : a_HP) (Q : Option Value → a_HP → Prop) : Rn 65 77 ls st σ Q = acR 65 (o_ivv 7 87 0 80 ls st σ) ls σ Q := rn_row rfl ls st σ Q
theorem r_65_80 (ls : a_LS) (st : List Value) (σ : a_HP) (Q : Option Value → a_HP → Prop) : Rn 65 80 ls st σ Q = acR 65 (o_ri ls st σ) ls σ Q := rn_row rfl ls st σ Q
/-! 66: NetLaw.laws()I -/
theorem cl_66 (x0 : Nat) (σ : a_HP) (Q : Option Value → a_HP → Prop) : Cl 66 [.ref x0] σ Q = Rn 66 0 [some (.ref x0)] [] σ Q := cl_of (Nat.le_of_ble_eq_true rfl) rfl σ Q
theorem r_66_0 (ls : a_LS) (st : List Value) (σ : a_HP) (Q : Option Value → a_HP → Prop) : Rn 66 0 ls st σ Q = acR 66 (o_lda 0 1 ls st σ) ls σ Q := rn_row rfl ls st σ Q
theorem r_66_1 (ls : a_LS) (st : List Value) (σ : a_HP) (Q : Option Value → a_HP → Prop) : Rn 66 1 ls st σ Q = acR 66 (o_get 7 0 4 ls st σ) ls σ Q := rn_row rfl ls st σ Q
theorem r_66_4 (ls : a_LS) (st : List Value) (σ : a_HP) (Q : Option Value → a_HP → Prop) : Rn 66 4 ls st σ Q = acR 66 (o_ivv 3 26 0 7 ls st σ) ls σ Q := rn_row rfl ls st σ Q
theorem r_66_7 (ls : a_LS) (st : List Value) (σ : a_HP) (Q : Option Value → a_HP → Prop) : Rn 66 7 ls st σ Q = acR 66 (o_ri ls st σ) ls σ Q := rn_row rfl ls st σ Q
/-! 67: NetLaw.holdsAll(I)I -/
theorem cl_67 (x0 : Nat) (x1 : Int32) (σ : a_HP) (Q : Option Value → a_HP → Prop) : Cl 67 [.ref x0, .int x1] σ Q = Rn 67 0 [some (.ref x0), some (.int x1), none, none, none, none, none] [] σ Q := cl_of (Nat.le_of_ble_eq_true rfl) rfl σ Q
theorem r_67_0 (ls : a_LS) (st : List Value) (σ : a_HP) (Q : Option Value → a_HP → Prop) : Rn 67 0 ls st σ Q = acR 67 (o_ldi 1 1 ls st σ) ls σ Q := rn_row rfl ls st σ Q
theorem r_67_1 (ls : a_LS) (st : List Value) (σ : a_HP) (Q : Option Value → a_HP → Prop) : Rn 67 1 ls st σ Q = acR 67 (o_pi (nI 0) 2 ls st σ) ls σ Q := rn_row rfl ls st σ Q
theorem r_67_2 (ls : a_LS) (st : List Value) (σ : a_HP) (Q : Option Value → a_HP → Prop) : Rn 67 2 ls st σ Q = acR 67 (o_pi (nI 1) 3 ls st σ) ls σ Q := rn_row rfl ls st σ Q
theorem r_67_3 (ls : a_LS) (st : List Value) (σ : a_HP) (Q : Option Value → a_HP → Prop) : Rn 67 3 ls st σ Q = acR 67 (o_ivs 91 3 6 ls st σ) ls σ Q := rn_row rfl ls st σ Q
theorem r_67_6 (ls : a_LS) (st : List Value) (σ : a_HP) (Q : Option Value → a_HP → Prop) : Rn 67 6 ls st σ Q = acR 67 (o_ne 14 9 ls st σ) ls σ Q := rn_row rfl ls st σ Q
theorem r_67_9 (ls : a_LS) (st : List Value) (σ : a_HP) (Q : Option Value → a_HP → Prop) : Rn 67 9 ls st σ Q = acR 67 (o_lda 0 10 ls st σ) ls σ Q := rn_row rfl ls st σ Q
theorem r_67_10 (ls : a_LS) (st : List Value) (σ : a_HP) (Q : Option Value → a_HP → Prop) : Rn 67 10 ls st σ Q = acR 67 (o_ivv 7 87 0 13 ls st σ) ls σ Q := rn_row rfl ls st σ Q
theorem r_67_13 (ls : a_LS) (st : List Value) (σ : a_HP) (Q : Option Value → a_HP → Prop) : Rn 67 13 ls st σ Q = acR 67 (o_ri ls st σ) ls σ Q := rn_row rfl ls st σ Q
theorem r_67_14 (ls : a_LS) (st : List Value) (σ : a_HP) (Q : Option Value → a_HP → Prop) : Rn 67 14 ls st σ Q = acR 67 (o_lda 0 15 ls st σ) ls σ Q := rn_row rfl ls st σ Q
theorem r_67_15 (ls : a_LS) (st : List Value) (σ : a_HP) (Q : Option Value → a_HP → Prop) : Rn 67 15 ls st σ Q = acR 67 (o_get 7 0 18 ls st σ) ls σ Q := rn_row rfl ls st σ Q
theorem r_67_18 (ls : a_LS) (st : List Value) (σ : a_HP) (Q : Option Value → a_HP → Prop) : Rn 67 18 ls st σ Q = acR 67 (o_ivv 3 26 0 21 ls st σ) ls σ Q := rn_row rfl ls st σ Q
theorem r_67_21 (ls : a_LS) (st : List Value) (σ : a_HP) (Q : Option Value → a_HP → Prop) : Rn 67 21 ls st σ Q = acR 67 (o_sti 2 22 ls st σ) ls σ Q := rn_row rfl ls st σ Q
theorem r_67_22 (ls : a_LS) (st : List Value) (σ : a_HP) (Q : Option Value → a_HP → Prop) : Rn 67 22 ls st σ Q = acR 67 (o_pi (-1) 23 ls st σ) ls σ Q := rn_row rfl ls st σ Q
theorem r_67_23 (ls : a_LS) (st : List Value) (σ : a_HP) (Q : Option Value → a_HP → Prop) : Rn 67 23 ls st σ Q = acR 67 (o_sti 3 24 ls st σ) ls σ Q := rn_row rfl ls st σ Q
theorem r_67_24 (ls : a_LS) (st : List Value) (σ : a_HP) (Q : Option Value → a_HP → Prop) : Rn 67 24 ls st σ Q = acR 67 (o_pi (-1) 25 ls st σ) ls σ Q := rn_row rfl ls st σ Q
theorem r_67_25 (ls : a_LS) (st : List Value) (σ : a_HP) (Q : Option Value → a_HP → Prop) : Rn 67 25 ls st σ Q = acR 67 (o_sti 4 27 ls st σ) ls σ Q := rn_row rfl ls st σ Q
theorem r_67_27 (ls : a_LS) (st : List Value) (σ : a_HP) (Q : Option Value → a_HP → Prop) : Rn 67 27 ls st σ Q = acR 67 (o_lda 0 28 ls st σ) ls σ Q := rn_row rfl ls st σ Q
theorem r_67_28 (ls : a_LS) (st : List Value) (σ : a_HP) (Q : Option Value → a_HP → Prop) : Rn 67 28 ls st σ Q = acR 67 (o_get 7 7 31 ls st σ) ls σ Q := rn_row rfl ls st σ Q
theorem r_67_31 (ls : a_LS) (st : List Value) (σ : a_HP) (Q : Option Value → a_HP → Prop) : Rn 67 31 ls st σ Q = acR 67 (o_lda 0 32 ls st σ) ls σ Q := rn_row rfl ls st σ Q
theorem r_67_32 (ls : a_LS) (st : List Value) (σ : a_HP) (Q : Option Value → a_HP → Prop) : Rn 67 32 ls st σ Q = acR 67 (o_get 7 0 35 ls st σ) ls σ Q := rn_row rfl ls st σ Q
theorem r_67_35 (ls : a_LS) (st : List Value) (σ : a_HP) (Q : Option Value → a_HP → Prop) : Rn 67 35 ls st σ Q = acR 67 (o_ivv 3 17 1 38 ls st σ) ls σ Q := rn_row rfl ls st σ Q
theorem r_67_38 (ls : a_LS) (st : List Value) (σ : a_HP) (Q : Option Value → a_HP → Prop) : Rn 67 38 ls st σ Q = acR 67 (o_pi (nI 0) 39 ls st σ) ls σ Q := rn_row rfl ls st σ Q
theorem r_67_39 (ls : a_LS) (st : List Value) (σ : a_HP) (Q : Option Value → a_HP → Prop) : Rn 67 39 ls st σ Q = acR 67 (o_sti 5 41 ls st σ) ls σ Q := rn_row rfl ls st σ Q
theorem r_67_41 (ls : a_LS) (st : List Value) (σ : a_HP) (Q : Option Value → a_HP → Prop) : Rn 67 41 ls st σ Q = acR 67 (o_ldi 5 43 ls st σ) ls σ Q := rn_row rfl ls st σ Q
theorem r_67_43 (ls : a_LS) (st : List Value) (σ : a_HP) (Q : Option Value → a_HP → Prop) : Rn 67 43 ls st σ Q = acR 67 (o_pi (nI 16) 45 ls st σ) ls σ Q := rn_row rfl ls st σ Q
theorem r_67_45 (ls : a_LS) (st : List Value) (σ : a_HP) (Q : Option Value → a_HP → Prop) : Rn 67 45 ls st σ Q = acR 67 (o_cge 130 48 ls st σ) ls σ Q := rn_row rfl ls st σ Q
theorem r_67_48 (ls : a_LS) (st : List Value) (σ : a_HP) (Q : Option Value → a_HP → Prop) : Rn 67 48 ls st σ Q = acR 67 (o_lda 0 49 ls st σ) ls σ Q := rn_row rfl ls st σ Q
theorem r_67_49 (ls : a_LS) (st : List Value) (σ : a_HP) (Q : Option Value → a_HP → Prop) : Rn 67 49 ls st σ Q = acR 67 (o_get 7 0 52 ls st σ) ls σ Q := rn_row rfl ls st σ Q
theorem r_67_52 (ls : a_LS) (st : List Value) (σ : a_HP) (Q : Option Value → a_HP → Prop) : Rn 67 52 ls st σ Q = acR 67 (o_ldi 5 54 ls st σ) ls σ Q := rn_row rfl ls st σ Q
theorem r_67_54 (ls : a_LS) (st : List Value) (σ : a_HP) (Q : Option Value → a_HP → Prop) : Rn 67 54 ls st σ Q = acR 67 (o_ivv 3 19 1 57 ls st σ) ls σ Q := rn_row rfl ls st σ Q
theorem r_67_57 (ls : a_LS) (st : List Value) (σ : a_HP) (Q : Option Value → a_HP → Prop) : Rn 67 57 ls st σ Q = acR 67 (o_eq 63 60 ls st σ) ls σ Q := rn_row rfl ls st σ Q
theorem r_67_60 (ls : a_LS) (st : List Value) (σ : a_HP) (Q : Option Value → a_HP → Prop) : Rn 67 60 ls st σ Q = acR 67 (o_go 124 ls st σ) ls σ Q := rn_row rfl ls st σ Q
theorem r_67_63 (ls : a_LS) (st : List Value) (σ : a_HP) (Q : Option Value → a_HP → Prop) : Rn 67 63 ls st σ Q = acR 67 (o_lda 0 64 ls st σ) ls σ Q := rn_row rfl ls st σ Q
theorem r_67_64 (ls : a_LS) (st : List Value) (σ : a_HP) (Q : Option Value → a_HP → Prop) : Rn 67 64 ls st σ Q = acR 67 (o_get 7 7 67 ls st σ) ls σ Q := rn_row rfl ls st σ Q
theorem r_67_67 (ls : a_LS) (st : List Value) (σ : a_HP) (Q : Option Value → a_HP → Prop) : Rn 67 67 ls st σ Q = acR 67 (o_get 3 5 70 ls st σ) ls σ Q := rn_row rfl ls st σ Q
theorem r_67_70 (ls : a_LS) (st : List Value) (σ : a_HP) (Q : Option Value → a_HP → Prop) : Rn 67 70 ls st σ Q = acR 67 (o_ldi 5 72 ls st σ) ls σ Q := rn_row rfl ls st σ Q
theorem r_67_72 (ls : a_LS) (st : List Value) (σ : a_HP) (Q : Option Value → a_HP → Prop) : Rn 67 72 ls st σ Q = acR 67 (o_pi (nI 0) 73 ls st σ) ls σ Q := rn_row rfl ls st σ Q
theorem r_67_73 (ls : a_LS) (st : List Value) (σ : a_HP) (Q : Option Value → a_HP → Prop) : Rn 67 73 ls st σ Q = acR 67 (o_ias 74 ls st σ) ls σ Q := rn_row rfl ls st σ Q
theorem r_67_74 (ls : a_LS) (st : List Value) (σ : a_HP) (Q : Option Value → a_HP → Prop) : Rn 67 74 ls st σ Q = acR 67 (o_ldi 2 75 ls st σ) ls σ Q := rn_row rfl ls st σ Q
theorem r_67_75 (ls : a_LS) (st : List Value) (σ : a_HP) (Q : Option Value → a_HP → Prop) : Rn 67 75 ls st σ Q = acR 67 (o_lda 0 76 ls st σ) ls σ Q := rn_row rfl ls st σ Q
theorem r_67_76 (ls : a_LS) (st : List Value) (σ : a_HP) (Q : Option Value → a_HP → Prop) : Rn 67 76 ls st σ Q = acR 67 (o_get 7 7 79 ls st σ) ls σ Q := rn_row rfl ls st σ Q
theorem r_67_79 (ls : a_LS) (st : List Value) (σ : a_HP) (Q : Option Value → a_HP → Prop) : Rn 67 79 ls st σ Q = acR 67 (o_ivv 3 26 0 82 ls st σ) ls σ Q := rn_row rfl ls st σ Q
theorem r_67_82 (ls : a_LS) (st : List Value) (σ : a_HP) (Q : Option Value → a_HP → Prop) : Rn 67 82 ls st σ Q = acR 67 (o_pi (-1) 83 ls st σ) ls σ Q := rn_row rfl ls st σ Q
theorem r_67_83 (ls : a_LS) (st : List Value) (σ : a_HP) (Q : Option Value → a_HP → Prop) : Rn 67 83 ls st σ Q = acR 67 (o_bi f_xor 84 ls st σ) ls σ Q := rn_row rfl ls st σ Q
theorem r_67_84 (ls : a_LS) (st : List Value) (σ : a_HP) (Q : Option Value → a_HP → Prop) : Rn 67 84 ls st σ Q = acR 67 (o_bi f_and 85 ls st σ) ls σ Q := rn_row rfl ls st σ Q
theorem r_67_85 (ls : a_LS) (st : List Value) (σ : a_HP) (Q : Option Value → a_HP → Prop) : Rn 67 85 ls st σ Q = acR 67 (o_ivs 206 1 88 ls st σ) ls σ Q := rn_row rfl ls st σ Q
theorem r_67_88 (ls : a_LS) (st : List Value) (σ : a_HP) (Q : Option Value → a_HP → Prop) : Rn 67 88 ls st σ Q = acR 67 (o_sti 6 90 ls st σ) ls σ Q := rn_row rfl ls st σ Q
theorem r_67_90 (ls : a_LS) (st : List Value) (σ : a_HP) (Q : Option Value → a_HP → Prop) : Rn 67 90 ls st σ Q = acR 67 (o_lda 0 91 ls st σ) ls σ Q := rn_row rfl ls st σ Q
theorem r_67_91 (ls : a_LS) (st : List Value) (σ : a_HP) (Q : Option Value → a_HP → Prop) : Rn 67 91 ls st σ Q = acR 67 (o_get 7 7 94 ls st σ) ls σ Q := rn_row rfl ls st σ Q
theorem r_67_94 (ls : a_LS) (st : List Value) (σ : a_HP) (Q : Option Value → a_HP → Prop) : Rn 67 94 ls st σ Q = acR 67 (o_get 3 5 97 ls st σ) ls σ Q := rn_row rfl ls st σ Q
theorem r_67_97 (ls : a_LS) (st : List Value) (σ : a_HP) (Q : Option Value → a_HP → Prop) : Rn 67 97 ls st σ Q = acR 67 (o_ldi 5 99 ls st σ) ls σ Q := rn_row rfl ls st σ Q
theorem r_67_99 (ls : a_LS) (st : List Value) (σ : a_HP) (Q : Option Value → a_HP → Prop) : Rn 67 99 ls st σ Q = acR 67 (o_lda 0 100 ls st σ) ls σ Q := rn_row rfl ls st σ Q
theorem r_67_100 (ls : a_LS) (st : List Value) (σ : a_HP) (Q : Option Value → a_HP → Prop) : Rn 67 100 ls st σ Q = acR 67 (o_get 7 0 103 ls st σ) ls σ Q := rn_row rfl ls st σ Q
theorem r_67_103 (ls : a_LS) (st : List Value) (σ : a_HP) (Q : Option Value → a_HP → Prop) : Rn 67 103 ls st σ Q = acR 67 (o_get 3 5 106 ls st σ) ls σ Q := rn_row rfl ls st σ Q
theorem r_67_106 (ls : a_LS) (st : List Value) (σ : a_HP) (Q : Option Value → a_HP → Prop) : Rn 67 106 ls st σ Q = acR 67 (o_ldi 5 108 ls st σ) ls σ Q := rn_row rfl ls st σ Q
theorem r_67_108 (ls : a_LS) (st : List Value) (σ : a_HP) (Q : Option Value → a_HP → Prop) : Rn 67 108 ls st σ Q = acR 67 (o_ial 109 ls st σ) ls σ Q := rn_row rfl ls st σ Q
theorem r_67_109 (ls : a_LS) (st : List Value) (σ : a_HP) (Q : Option Value → a_HP → Prop) : Rn 67 109 ls st σ Q = acR 67 (o_ias 110 ls st σ) ls σ Q := rn_row rfl ls st σ Q
theorem r_67_110 (ls : a_LS) (st : List Value) (σ : a_HP) (Q : Option Value → a_HP → Prop) : Rn 67 110 ls st σ Q = acR 67 (o_ldi 6 112 ls st σ) ls σ Q := rn_row rfl ls st σ Q
theorem r_67_112 (ls : a_LS) (st : List Value) (σ : a_HP) (Q : Option Value → a_HP → Prop) : Rn 67 112 ls st σ Q = acR 67 (o_ldi 4 114 ls st σ) ls σ Q := rn_row rfl ls st σ Q
theorem r_67_114 (ls : a_LS) (st : List Value) (σ : a_HP) (Q : Option Value → a_HP → Prop) : Rn 67 114 ls st σ Q = acR 67 (o_cle 124 117 ls st σ) ls σ Q := rn_row rfl ls st σ Q
theorem r_67_117 (ls : a_LS) (st : List Value) (σ : a_HP) (Q : Option Value → a_HP → Prop) : Rn 67 117 ls st σ Q = acR 67 (o_ldi 5 119 ls st σ) ls σ Q := rn_row rfl ls st σ Q
theorem r_67_119 (ls : a_LS) (st : List Value) (σ : a_HP) (Q : Option Value → a_HP → Prop) : Rn 67 119 ls st σ Q = acR 67 (o_sti 3 120 ls st σ) ls σ Q := rn_row rfl ls st σ Q
theorem r_67_120 (ls : a_LS) (st : List Value) (σ : a_HP) (Q : Option Value → a_HP → Prop) : Rn 67 120 ls st σ Q = acR 67 (o_ldi 6 122 ls st σ) ls σ Q := rn_row rfl ls st σ Q
theorem r_67_122 (ls : a_LS) (st : List Value) (σ : a_HP) (Q : Option Value → a_HP → Prop) : Rn 67 122 ls st σ Q = acR 67 (o_sti 4 124 ls st σ) ls σ Q := rn_row rfl ls st σ Q
theorem r_67_124 (ls : a_LS) (st : List Value) (σ : a_HP) (Q : Option Value → a_HP → Prop) : Rn 67 124 ls st σ Q = acR 67 (o_inc 5 (nI 1) 127 ls st σ) ls σ Q := rn_row rfl ls st σ Q
theorem r_67_127 (ls : a_LS) (st : List Value) (σ : a_HP) (Q : Option Value → a_HP → Prop) : Rn 67 127 ls st σ Q = acR 67 (o_go 41 ls st σ) ls σ Q := rn_row rfl ls st σ Q
theorem r_67_130 (ls : a_LS) (st : List Value) (σ : a_HP) (Q : Option Value → a_HP → Prop) : Rn 67 130 ls st σ Q = acR 67 (o_ldi 1 131 ls st σ) ls σ Q := rn_row rfl ls st σ Q
theorem r_67_131 (ls : a_LS) (st : List Value) (σ : a_HP) (Q : Option Value → a_HP → Prop) : Rn 67 131 ls st σ Q = acR 67 (o_ne 138 134 ls st σ) ls σ Q := rn_row rfl ls st σ Q
theorem r_67_134 (ls : a_LS) (st : List Value) (σ : a_HP) (Q : Option Value → a_HP → Prop) : Rn 67 134 ls st σ Q = acR 67 (o_ldi 3 135 ls st σ) ls σ Q := rn_row rfl ls st σ Q
theorem r_67_135 (ls : a_LS) (st : List Value) (σ : a_HP) (Q : Option Value → a_HP → Prop) : Rn 67 135 ls st σ Q = acR 67 (o_go 140 ls st σ) ls σ Q := rn_row rfl ls st σ Q
theorem r_67_138 (ls : a_LS) (st : List Value) (σ : a_HP) (Q : Option Value → a_HP → Prop) : Rn 67 138 ls st σ Q = acR 67 (o_ldi 4 140 ls st σ) ls σ Q := rn_row rfl ls st σ Q
theorem r_67_140 (ls : a_LS) (st : List Value) (σ : a_HP) (Q : Option Value → a_HP → Prop) : Rn 67 140 ls st σ Q = acR 67 (o_ri ls st σ) ls σ Q := rn_row rfl ls st σ Q
/-! 68: NetLaw.dropped(I)I -/
theorem cl_68 (x0 : Nat) (x1 : Int32) (σ : a_HP) (Q : Option Value → a_HP → Prop) : Cl 68 [.ref x0, .int x1] σ Q = Rn 68 0 [some (.ref x0), some (.int x1), none, none, none, none] [] σ Q := cl_of (Nat.le_of_ble_eq_true rfl) rfl σ Q
theorem r_68_0 (ls : a_LS) (st : List Value) (σ : a_HP) (Q : Option Value → a_HP → Prop) : Rn 68 0 ls st σ Q = acR 68 (o_ldi 1 1 ls st σ) ls σ Q := rn_row rfl ls st σ Q
theorem r_68_1 (ls : a_LS) (st : List Value) (σ : a_HP) (Q : Option Value → a_HP → Prop) : Rn 68 1 ls st σ Q = acR 68 (o_ivs 93 1 4 ls st σ) ls σ Q := rn_row rfl ls st σ Q
theorem r_68_4 (ls : a_LS) (st : List Value) (σ : a_HP) (Q : Option Value → a_HP → Prop) : Rn 68 4 ls st σ Q = acR 68 (o_ne 12 7 ls st σ) ls σ Q := rn_row rfl ls st σ Q
theorem r_68_7 (ls : a_LS) (st : List Value) (σ : a_HP) (Q : Option Value → a_HP → Prop) : Rn 68 7 ls st σ Q = acR 68 (o_lda 0 8 ls st σ) ls σ Q := rn_row rfl ls st σ Q
theorem r_68_8 (ls : a_LS) (st : List Value) (σ : a_HP) (Q : Option Value → a_HP → Prop) : Rn 68 8 ls st σ Q = acR 68 (o_ivv 7 87 0 11 ls st σ) ls σ Q := rn_row rfl ls st σ Q
theorem r_68_11 (ls : a_LS) (st : List Value) (σ : a_HP) (Q : Option Value → a_HP → Prop) : Rn 68 11 ls st σ Q = acR 68 (o_ri ls st σ) ls σ Q := rn_row rfl ls st σ Q
theorem r_68_12 (ls : a_LS) (st : List Value) (σ : a_HP) (Q : Option Value → a_HP → Prop) : Rn 68 12 ls st σ Q = acR 68 (o_lda 0 13 ls st σ) ls σ Q := rn_row rfl ls st σ Q
theorem r_68_13 (ls : a_LS) (st : List Value) (σ : a_HP) (Q : Option Value → a_HP → Prop) : Rn 68 13 ls st σ Q = acR 68 (o_get 7 0 16 ls st σ) ls σ Q := rn_row rfl ls st σ Q
theorem r_68_16 (ls : a_LS) (st : List Value) (σ : a_HP) (Q : Option Value → a_HP → Prop) : Rn 68 16 ls st σ Q = acR 68 (o_ldi 1 17 ls st σ) ls σ Q := rn_row rfl ls st σ Q
theorem r_68_17 (ls : a_LS) (st : List Value) (σ : a_HP) (Q : Option Value → a_HP → Prop) : Rn 68 17 ls st σ Q = acR 68 (o_ivv 3 25 1 20 ls st σ) ls σ Q := rn_row rfl ls st σ Q
theorem r_68_20 (ls : a_LS) (st : List Value) (σ : a_HP) (Q : Option Value → a_HP → Prop) : Rn 68 20 ls st σ Q = acR 68 (o_ne 25 23 ls st σ) ls σ Q := rn_row rfl ls st σ Q
theorem r_68_23 (ls : a_LS) (st : List Value) (σ : a_HP) (Q : Option Value → a_HP → Prop) : Rn 68 23 ls st σ Q = acR 68 (o_pi (-1) 24 ls st σ) ls σ Q := rn_row rfl ls st σ Q
theorem r_68_24 (ls : a_LS) (st : List Value) (σ : a_HP) (Q : Option Value → a_HP → Prop) : Rn 68 24 ls st σ Q = acR 68 (o_ri ls st σ) ls σ Q := rn_row rfl ls st σ Q
theorem r_68_25 (ls : a_LS) (st : List Value) (σ : a_HP) (Q : Option Value → a_HP → Prop) : Rn 68 25 ls st σ Q = acR 68 (o_pi (-1) 26 ls st σ) ls σ Q := rn_row rfl ls st σ Q
theorem r_68_26 (ls : a_LS) (st : List Value) (σ : a_HP) (Q : Option Value → a_HP → Prop) : Rn 68 26 ls st σ Q = acR 68 (o_sti 2 27 ls st σ) ls σ Q := rn_row rfl ls st σ Q
theorem r_68_27 (ls : a_LS) (st : List Value) (σ : a_HP) (Q : Option Value → a_HP → Prop) : Rn 68 27 ls st σ Q = acR 68 (o_pi (nI 0) 28 ls st σ) ls σ Q := rn_row rfl ls st σ Q
theorem r_68_28 (ls : a_LS) (st : List Value) (σ : a_HP) (Q : Option Value → a_HP → Prop) : Rn 68 28 ls st σ Q = acR 68 (o_sti 3 29 ls st σ) ls σ Q := rn_row rfl ls st σ Q
theorem r_68_29 (ls : a_LS) (st : List Value) (σ : a_HP) (Q : Option Value → a_HP → Prop) : Rn 68 29 ls st σ Q = acR 68 (o_ldi 3 30 ls st σ) ls σ Q := rn_row rfl ls st σ Q
theorem r_68_30 (ls : a_LS) (st : List Value) (σ : a_HP) (Q : Option Value → a_HP → Prop) : Rn 68 30 ls st σ Q = acR 68 (o_pi (nI 16) 32 ls st σ) ls σ Q := rn_row rfl ls st σ Q
theorem r_68_32 (ls : a_LS) (st : List Value) (σ : a_HP) (Q : Option Value → a_HP → Prop) : Rn 68 32 ls st σ Q = acR 68 (o_cge 90 35 ls st σ) ls σ Q := rn_row rfl ls st σ Q
theorem r_68_35 (ls : a_LS) (st : List Value) (σ : a_HP) (Q : Option Value → a_HP → Prop) : Rn 68 35 ls st σ Q = acR 68 (o_ldi 1 36 ls st σ) ls σ Q := rn_row rfl ls st σ Q
theorem r_68_36 (ls : a_LS) (st : List Value) (σ : a_HP) (Q : Option Value → a_HP → Prop) : Rn 68 36 ls st σ Q = acR 68 (o_ldi 3 37 ls st σ) ls σ Q := rn_row rfl ls st σ Q
theorem r_68_37 (ls : a_LS) (st : List Value) (σ : a_HP) (Q : Option Value → a_HP → Prop) : Rn 68 37 ls st σ Q = acR 68 (o_ivs 105 2 40 ls st σ) ls σ Q := rn_row rfl ls st σ Q
theorem r_68_40 (ls : a_LS) (st : List Value) (σ : a_HP) (Q : Option Value → a_HP → Prop) : Rn 68 40 ls st σ Q = acR 68 (o_sti 4 42 ls st σ) ls σ Q := rn_row rfl ls st σ Q
theorem r_68_42 (ls : a_LS) (st : List Value) (σ : a_HP) (Q : Option Value → a_HP → Prop) : Rn 68 42 ls st σ Q = acR 68 (o_ldi 2 43 ls st σ) ls σ Q := rn_row rfl ls st σ Q
theorem r_68_43 (ls : a_LS) (st : List Value) (σ : a_HP) (Q : Option Value → a_HP → Prop) : Rn 68 43 ls st σ Q = acR 68 (o_pi (-1) 44 ls st σ) ls σ Q := rn_row rfl ls st σ Q
theorem r_68_44 (ls : a_LS) (st : List Value) (σ : a_HP) (Q : Option Value → a_HP → Prop) : Rn 68 44 ls st σ Q = acR 68 (o_ceq 59 47 ls st σ) ls σ Q := rn_row rfl ls st σ Q
theorem r_68_47 (ls : a_LS) (st : List Value) (σ : a_HP) (Q : Option Value → a_HP → Prop) : Rn 68 47 ls st σ Q = acR 68 (o_ldi 4 49 ls st σ) ls σ Q := rn_row rfl ls st σ Q
theorem r_68_49 (ls : a_LS) (st : List Value) (σ : a_HP) (Q : Option Value → a_HP → Prop) : Rn 68 49 ls st σ Q = acR 68 (o_ivs 206 1 52 ls st σ) ls σ Q := rn_row rfl ls st σ Q
theorem r_68_52 (ls : a_LS) (st : List Value) (σ : a_HP) (Q : Option Value → a_HP → Prop) : Rn 68 52 ls st σ Q = acR 68 (o_ldi 2 53 ls st σ) ls σ Q := rn_row rfl ls st σ Q
theorem r_68_53 (ls : a_LS) (st : List Value) (σ : a_HP) (Q : Option Value → a_HP → Prop) : Rn 68 53 ls st σ Q = acR 68 (o_ivs 206 1 56 ls st σ) ls σ Q := rn_row rfl ls st σ Q
theorem r_68_56 (ls : a_LS) (st : List Value) (σ : a_HP) (Q : Option Value → a_HP → Prop) : Rn 68 56 ls st σ Q = acR 68 (o_cge 63 59 ls st σ) ls σ Q := rn_row rfl ls st σ Q
theorem r_68_59 (ls : a_LS) (st : List Value) (σ : a_HP) (Q : Option Value → a_HP → Prop) : Rn 68 59 ls st σ Q = acR 68 (o_pi (nI 1) 60 ls st σ) ls σ Q := rn_row rfl ls st σ Q
theorem r_68_60 (ls : a_LS) (st : List Value) (σ : a_HP) (Q : Option Value → a_HP → Prop) : Rn 68 60 ls st σ Q = acR 68 (o_go 64 ls st σ) ls σ Q := rn_row rfl ls st σ Q
theorem r_68_63 (ls : a_LS) (st : List Value) (σ : a_HP) (Q : Option Value → a_HP → Prop) : Rn 68 63 ls st σ Q = acR 68 (o_pi (nI 0) 64 ls st σ) ls σ Q := rn_row rfl ls st σ Q
theorem r_68_64 (ls : a_LS) (st : List Value) (σ : a_HP) (Q : Option Value → a_HP → Prop) : Rn 68 64 ls st σ Q = acR 68 (o_sti 5 66 ls st σ) ls σ Q := rn_row rfl ls st σ Q
theorem r_68_66 (ls : a_LS) (st : List Value) (σ : a_HP) (Q : Option Value → a_HP → Prop) : Rn 68 66 ls st σ Q = acR 68 (o_ldi 5 68 ls st σ) ls σ Q := rn_row rfl ls st σ Q
theorem r_68_68 (ls : a_LS) (st : List Value) (σ : a_HP) (Q : Option Value → a_HP → Prop) : Rn 68 68 ls st σ Q = acR 68 (o_eq 84 71 ls st σ) ls σ Q := rn_row rfl ls st σ Q
theorem r_68_71 (ls : a_LS) (st : List Value) (σ : a_HP) (Q : Option Value → a_HP → Prop) : Rn 68 71 ls st σ Q = acR 68 (o_lda 0 72 ls st σ) ls σ Q := rn_row rfl ls st σ Q
theorem r_68_72 (ls : a_LS) (st : List Value) (σ : a_HP) (Q : Option Value → a_HP → Prop) : Rn 68 72 ls st σ Q = acR 68 (o_ldi 1 73 ls st σ) ls σ Q := rn_row rfl ls st σ Q
theorem r_68_73 (ls : a_LS) (st : List Value) (σ : a_HP) (Q : Option Value → a_HP → Prop) : Rn 68 73 ls st σ Q = acR 68 (o_ldi 4 75 ls st σ) ls σ Q := rn_row rfl ls st σ Q
theorem r_68_75 (ls : a_LS) (st : List Value) (σ : a_HP) (Q : Option Value → a_HP → Prop) : Rn 68 75 ls st σ Q = acR 68 (o_ivv 7 107 2 78 ls st σ) ls σ Q := rn_row rfl ls st σ Q
theorem r_68_78 (ls : a_LS) (st : List Value) (σ : a_HP) (Q : Option Value → a_HP → Prop) : Rn 68 78 ls st σ Q = acR 68 (o_ne 84 81 ls st σ) ls σ Q := rn_row rfl ls st σ Q
theorem r_68_81 (ls : a_LS) (st : List Value) (σ : a_HP) (Q : Option Value → a_HP → Prop) : Rn 68 81 ls st σ Q = acR 68 (o_ldi 4 83 ls st σ) ls σ Q := rn_row rfl ls st σ Q
theorem r_68_83 (ls : a_LS) (st : List Value) (σ : a_HP) (Q : Option Value → a_HP → Prop) : Rn 68 83 ls st σ Q = acR 68 (o_sti 2 84 ls st σ) ls σ Q := rn_row rfl ls st σ Q
theorem r_68_84 (ls : a_LS) (st : List Value) (σ : a_HP) (Q : Option Value → a_HP → Prop) : Rn 68 84 ls st σ Q = acR 68 (o_inc 3 (nI 1) 87 ls st σ) ls σ Q := rn_row rfl ls st σ Q
theorem r_68_87 (ls : a_LS) (st : List Value) (σ : a_HP) (Q : Option Value → a_HP → Prop) : Rn 68 87 ls st σ Q = acR 68 (o_go 29 ls st σ) ls σ Q := rn_row rfl ls st σ Q
theorem r_68_90 (ls : a_LS) (st : List Value) (σ : a_HP) (Q : Option Value → a_HP → Prop) : Rn 68 90 ls st σ Q = acR 68 (o_ldi 2 91 ls st σ) ls σ Q := rn_row rfl ls st σ Q
theorem r_68_91 (ls : a_LS) (st : List Value) (σ : a_HP) (Q : Option Value → a_HP → Prop) : Rn 68 91 ls st σ Q = acR 68 (o_ri ls st σ) ls σ Q := rn_row rfl ls st σ Q
/-! 69: NetLaw.least(III)I -/
theorem cl_69 (x0 : Nat) (x1 : Int32) (x2 : Int32) (x3 : Int32) (σ : a_HP) (Q : Option Value → a_HP → Prop) : Cl 69 [.ref x0, .int x1, .int x2, .int x3] σ Q = Rn 69 0 [some (.ref x0), some (.int x1), some (.int x2), some (.int x3), none] [] σ Q := cl_of (Nat.le_of_ble_eq_true rfl) rfl σ Q
theorem r_69_0 (ls : a_LS) (st : List Value) (σ : a_HP) (Q : Option Value → a_HP → Prop) : Rn 69 0 ls st σ Q = acR 69 (o_ldi 1 1 ls st σ) ls σ Q := rn_row rfl ls st σ Q
theorem r_69_1 (ls : a_LS) (st : List Value) (σ : a_HP) (Q : Option Value → a_HP → Prop) : Rn 69 1 ls st σ Q = acR 69 (o_ivs 93 1 4 ls st σ) ls σ Q := rn_row rfl ls st σ Q
theorem r_69_4 (ls : a_LS) (st : List Value) (σ : a_HP) (Q : Option Value → a_HP → Prop) : Rn 69 4 ls st σ Q = acR 69 (o_eq 24 7 ls st σ) ls σ Q := rn_row rfl ls st σ Q
theorem r_69_7 (ls : a_LS) (st : List Value) (σ : a_HP) (Q : Option Value → a_HP → Prop) : Rn 69 7 ls st σ Q = acR 69 (o_ldi 2 8 ls st σ) ls σ Q := rn_row rfl ls st σ Q
theorem r_69_8 (ls : a_LS) (st : List Value) (σ : a_HP) (Q : Option Value → a_HP → Prop) : Rn 69 8 ls st σ Q = acR 69 (o_ivs 93 1 11 ls st σ) ls σ Q := rn_row rfl ls st σ Q
theorem r_69_11 (ls : a_LS) (st : List Value) (σ : a_HP) (Q : Option Value → a_HP → Prop) : Rn 69 11 ls st σ Q = acR 69 (o_eq 24 14 ls st σ) ls σ Q := rn_row rfl ls st σ Q
theorem r_69_14 (ls : a_LS) (st : List Value) (σ : a_HP) (Q : Option Value → a_HP → Prop) : Rn 69 14 ls st σ Q = acR 69 (o_ldi 3 15 ls st σ) ls σ Q := rn_row rfl ls st σ Q
theorem r_69_15 (ls : a_LS) (st : List Value) (σ : a_HP) (Q : Option Value → a_HP → Prop) : Rn 69 15 ls st σ Q = acR 69 (o_pi (-1) 16 ls st σ) ls σ Q := rn_row rfl ls st σ Q
theorem r_69_16 (ls : a_LS) (st : List Value) (σ : a_HP) (Q : Option Value → a_HP → Prop) : Rn 69 16 ls st σ Q = acR 69 (o_pi (nI 15) 18 ls st σ) ls σ Q := rn_row rfl ls st σ Q
theorem r_69_18 (ls : a_LS) (st : List Value) (σ : a_HP) (Q : Option Value → a_HP → Prop) : Rn 69 18 ls st σ Q = acR 69 (o_ivs 91 3 21 ls st σ) ls σ Q := rn_row rfl ls st σ Q
theorem r_69_21 (ls : a_LS) (st : List Value) (σ : a_HP) (Q : Option Value → a_HP → Prop) : Rn 69 21 ls st σ Q = acR 69 (o_ne 29 24 ls st σ) ls σ Q := rn_row rfl ls st σ Q
theorem r_69_24 (ls : a_LS) (st : List Value) (σ : a_HP) (Q : Option Value → a_HP → Prop) : Rn 69 24 ls st σ Q = acR 69 (o_lda 0 25 ls st σ) ls σ Q := rn_row rfl ls st σ Q
theorem r_69_25 (ls : a_LS) (st : List Value) (σ : a_HP) (Q : Option Value → a_HP → Prop) : Rn 69 25 ls st σ Q = acR 69 (o_ivv 7 88 0 28 ls st σ) ls σ Q := rn_row rfl ls st σ Q
theorem r_69_28 (ls : a_LS) (st : List Value) (σ : a_HP) (Q : Option Value → a_HP → Prop) : Rn 69 28 ls st σ Q = acR 69 (o_ri ls st σ) ls σ Q := rn_row rfl ls st σ Q
theorem r_69_29 (ls : a_LS) (st : List Value) (σ : a_HP) (Q : Option Value → a_HP → Prop) : Rn 69 29 ls st σ Q = acR 69 (o_lda 0 30 ls st σ) ls σ Q := rn_row rfl ls st σ Q
theorem r_69_30 (ls : a_LS) (st : List Value) (σ : a_HP) (Q : Option Value → a_HP → Prop) : Rn 69 30 ls st σ Q = acR 69 (o_get 7 8 33 ls st σ) ls σ Q := rn_row rfl ls st σ Q
theorem r_69_33 (ls : a_LS) (st : List Value) (σ : a_HP) (Q : Option Value → a_HP → Prop) : Rn 69 33 ls st σ Q = acR 69 (o_lda 0 34 ls st σ) ls σ Q := rn_row rfl ls st σ Q
theorem r_69_34 (ls : a_LS) (st : List Value) (σ : a_HP) (Q : Option Value → a_HP → Prop) : Rn 69 34 ls st σ Q = acR 69 (o_get 7 0 37 ls st σ) ls σ Q := rn_row rfl ls st σ Q
theorem r_69_37 (ls : a_LS) (st : List Value) (σ : a_HP) (Q : Option Value → a_HP → Prop) : Rn 69 37 ls st σ Q = acR 69 (o_ldi 1 38 ls st σ) ls σ Q := rn_row rfl ls st σ Q
theorem r_69_38 (ls : a_LS) (st : List Value) (σ : a_HP) (Q : Option Value → a_HP → Prop) : Rn 69 38 ls st σ Q = acR 69 (o_ldi 2 39 ls st σ) ls σ Q := rn_row rfl ls st σ Q
theorem r_69_39 (ls : a_LS) (st : List Value) (σ : a_HP) (Q : Option Value → a_HP → Prop) : Rn 69 39 ls st σ Q = acR 69 (o_ivv 2 2 3 42 ls st σ) ls σ Q := rn_row rfl ls st σ Q
theorem r_69_42 (ls : a_LS) (st : List Value) (σ : a_HP) (Q : Option Value → a_HP → Prop) : Rn 69 42 ls st σ Q = acR 69 (o_sti 4 44 ls st σ) ls σ Q := rn_row rfl ls st σ Q
theorem r_69_44 (ls : a_LS) (st : List Value) (σ : a_HP) (Q : Option Value → a_HP → Prop) : Rn 69 44 ls st σ Q = acR 69 (o_ldi 4 46 ls st σ) ls σ Q := rn_row rfl ls st σ Q
theorem r_69_46 (ls : a_LS) (st : List Value) (σ : a_HP) (Q : Option Value → a_HP → Prop) : Rn 69 46 ls st σ Q = acR 69 (o_pi (-1) 47 ls st σ) ls σ Q := rn_row rfl ls st σ Q
theorem r_69_47 (ls : a_LS) (st : List Value) (σ : a_HP) (Q : Option Value → a_HP → Prop) : Rn 69 47 ls st σ Q = acR 69 (o_cne 53 50 ls st σ) ls σ Q := rn_row rfl ls st σ Q
theorem r_69_50 (ls : a_LS) (st : List Value) (σ : a_HP) (Q : Option Value → a_HP → Prop) : Rn 69 50 ls st σ Q = acR 69 (o_pi (-5) 52 ls st σ) ls σ Q := rn_row rfl ls st σ Q
theorem r_69_52 (ls : a_LS) (st : List Value) (σ : a_HP) (Q : Option Value → a_HP → Prop) : Rn 69 52 ls st σ Q = acR 69 (o_ri ls st σ) ls σ Q := rn_row rfl ls st σ Q
theorem r_69_53 (ls : a_LS) (st : List Value) (σ : a_HP) (Q : Option Value → a_HP → Prop) : Rn 69 53 ls st σ Q = acR 69 (o_ldi 3 54 ls st σ) ls σ Q := rn_row rfl ls st σ Q
theorem r_69_54 (ls : a_LS) (st : List Value) (σ : a_HP) (Q : Option Value → a_HP → Prop) : Rn 69 54 ls st σ Q = acR 69 (o_pi (-1) 55 ls st σ) ls σ Q := rn_row rfl ls st σ Q
theorem r_69_55 (ls : a_LS) (st : List Value) (σ : a_HP) (Q : Option Value → a_HP → Prop) : Rn 69 55 ls st σ Q = acR 69 (o_cne 63 58 ls st σ) ls σ Q := rn_row rfl ls st σ Q
theorem r_69_58 (ls : a_LS) (st : List Value) (σ : a_HP) (Q : Option Value → a_HP → Prop) : Rn 69 58 ls st σ Q = acR 69 (o_ldi 4 60 ls st σ) ls σ Q := rn_row rfl ls st σ Q
theorem r_69_60 (ls : a_LS) (st : List Value) (σ : a_HP) (Q : Option Value → a_HP → Prop) : Rn 69 60 ls st σ Q = acR 69 (o_go 72 ls st σ) ls σ Q := rn_row rfl ls st σ Q
theorem r_69_63 (ls : a_LS) (st : List Value) (σ : a_HP) (Q : Option Value → a_HP → Prop) : Rn 69 63 ls st σ Q = acR 69 (o_lda 0 64 ls st σ) ls σ Q := rn_row rfl ls st σ Q
theorem r_69_64 (ls : a_LS) (st : List Value) (σ : a_HP) (Q : Option Value → a_HP → Prop) : Rn 69 64 ls st σ Q = acR 69 (o_get 7 8 67 ls st σ) ls σ Q := rn_row rfl ls st σ Q
theorem r_69_67 (ls : a_LS) (st : List Value) (σ : a_HP) (Q : Option Value → a_HP → Prop) : Rn 69 67 ls st σ Q = acR 69 (o_get 2 0 70 ls st σ) ls σ Q := rn_row rfl ls st σ Q
theorem r_69_70 (ls : a_LS) (st : List Value) (σ : a_HP) (Q : Option Value → a_HP → Prop) : Rn 69 70 ls st σ Q = acR 69 (o_ldi 3 71 ls st σ) ls σ Q := rn_row rfl ls st σ Q
theorem r_69_71 (ls : a_LS) (st : List Value) (σ : a_HP) (Q : Option Value → a_HP → Prop) : Rn 69 71 ls st σ Q = acR 69 (o_ial 72 ls st σ) ls σ Q := rn_row rfl ls st σ Q
theorem r_69_72 (ls : a_LS) (st : List Value) (σ : a_HP) (Q : Option Value → a_HP → Prop) : Rn 69 72 ls st σ Q = acR 69 (o_ri ls st σ) ls σ Q := rn_row rfl ls st σ Q
/-! 70: NetLaw.fish(I)I -/
theorem cl_70 (x0 : Nat) (x1 : Int32) (σ : a_HP) (Q : Option Value → a_HP → Prop) : Cl 70 [.ref x0, .int x1] σ Q = Rn 70 0 [some (.ref x0), some (.int x1), none, none, none] [] σ Q := cl_of (Nat.le_of_ble_eq_true rfl) rfl σ Q
theorem r_70_0 (ls : a_LS) (st : List Value) (σ : a_HP) (Q : Option Value → a_HP → Prop) : Rn 70 0 ls st σ Q = acR 70 (o_ldi 1 1 ls st σ) ls σ Q := rn_row rfl ls st σ Q
theorem r_70_1 (ls : a_LS) (st : List Value) (σ : a_HP) (Q : Option Value → a_HP → Prop) : Rn 70 1 ls st σ Q = acR 70 (o_pi (nI 0) 2 ls st σ) ls σ Q := rn_row rfl ls st σ Q
theorem r_70_2 (ls : a_LS) (st : List Value) (σ : a_HP) (Q : Option Value → a_HP → Prop) : Rn 70 2 ls st σ Q = acR 70 (o_pi (nI 1) 3 ls st σ) ls σ Q := rn_row rfl ls st σ Q
theorem r_70_3 (ls : a_LS) (st : List Value) (σ : a_HP) (Q : Option Value → a_HP → Prop) : Rn 70 3 ls st σ Q = acR 70 (o_ivs 91 3 6 ls st σ) ls σ Q := rn_row rfl ls st σ Q
theorem r_70_6 (ls : a_LS) (st : List Value) (σ : a_HP) (Q : Option Value → a_HP → Prop) : Rn 70 6 ls st σ Q = acR 70 (o_ne 14 9 ls st σ) ls σ Q := rn_row rfl ls st σ Q
theorem r_70_9 (ls : a_LS) (st : List Value) (σ : a_HP) (Q : Option Value → a_HP → Prop) : Rn 70 9 ls st σ Q = acR 70 (o_lda 0 10 ls st σ) ls σ Q := rn_row rfl ls st σ Q
theorem r_70_10 (ls : a_LS) (st : List Value) (σ : a_HP) (Q : Option Value → a_HP → Prop) : Rn 70 10 ls st σ Q = acR 70 (o_ivv 7 87 0 13 ls st σ) ls σ Q := rn_row rfl ls st σ Q
theorem r_70_13 (ls : a_LS) (st : List Value) (σ : a_HP) (Q : Option Value → a_HP → Prop) : Rn 70 13 ls st σ Q = acR 70 (o_ri ls st σ) ls σ Q := rn_row rfl ls st σ Q
theorem r_70_14 (ls : a_LS) (st : List Value) (σ : a_HP) (Q : Option Value → a_HP → Prop) : Rn 70 14 ls st σ Q = acR 70 (o_lda 0 15 ls st σ) ls σ Q := rn_row rfl ls st σ Q
theorem r_70_15 (ls : a_LS) (st : List Value) (σ : a_HP) (Q : Option Value → a_HP → Prop) : Rn 70 15 ls st σ Q = acR 70 (o_lda 0 16 ls st σ) ls σ Q := rn_row rfl ls st σ Q
theorem r_70_16 (ls : a_LS) (st : List Value) (σ : a_HP) (Q : Option Value → a_HP → Prop) : Rn 70 16 ls st σ Q = acR 70 (o_get 7 0 19 ls st σ) ls σ Q := rn_row rfl ls st σ Q
theorem r_70_19 (ls : a_LS) (st : List Value) (σ : a_HP) (Q : Option Value → a_HP → Prop) : Rn 70 19 ls st σ Q = acR 70 (o_ivv 3 26 0 22 ls st σ) ls σ Q := rn_row rfl ls st σ Q
theorem r_70_22 (ls : a_LS) (st : List Value) (σ : a_HP) (Q : Option Value → a_HP → Prop) : Rn 70 22 ls st σ Q = acR 70 (o_ivv 7 108 1 25 ls st σ) ls σ Q := rn_row rfl ls st σ Q
theorem r_70_25 (ls : a_LS) (st : List Value) (σ : a_HP) (Q : Option Value → a_HP → Prop) : Rn 70 25 ls st σ Q = acR 70 (o_pi (-1) 26 ls st σ) ls σ Q := rn_row rfl ls st σ Q
theorem r_70_26 (ls : a_LS) (st : List Value) (σ : a_HP) (Q : Option Value → a_HP → Prop) : Rn 70 26 ls st σ Q = acR 70 (o_sti 2 27 ls st σ) ls σ Q := rn_row rfl ls st σ Q
theorem r_70_27 (ls : a_LS) (st : List Value) (σ : a_HP) (Q : Option Value → a_HP → Prop) : Rn 70 27 ls st σ Q = acR 70 (o_pi (nI 0) 28 ls st σ) ls σ Q := rn_row rfl ls st σ Q
theorem r_70_28 (ls : a_LS) (st : List Value) (σ : a_HP) (Q : Option Value → a_HP → Prop) : Rn 70 28 ls st σ Q = acR 70 (o_sti 3 29 ls st σ) ls σ Q := rn_row rfl ls st σ Q
theorem r_70_29 (ls : a_LS) (st : List Value) (σ : a_HP) (Q : Option Value → a_HP → Prop) : Rn 70 29 ls st σ Q = acR 70 (o_pi (nI 0) 30 ls st σ) ls σ Q := rn_row rfl ls st σ Q
theorem r_70_30 (ls : a_LS) (st : List Value) (σ : a_HP) (Q : Option Value → a_HP → Prop) : Rn 70 30 ls st σ Q = acR 70 (o_sti 4 32 ls st σ) ls σ Q := rn_row rfl ls st σ Q
theorem r_70_32 (ls : a_LS) (st : List Value) (σ : a_HP) (Q : Option Value → a_HP → Prop) : Rn 70 32 ls st σ Q = acR 70 (o_ldi 4 34 ls st σ) ls σ Q := rn_row rfl ls st σ Q
theorem r_70_34 (ls : a_LS) (st : List Value) (σ : a_HP) (Q : Option Value → a_HP → Prop) : Rn 70 34 ls st σ Q = acR 70 (o_pi (nI 3) 35 ls st σ) ls σ Q := rn_row rfl ls st σ Q
theorem r_70_35 (ls : a_LS) (st : List Value) (σ : a_HP) (Q : Option Value → a_HP → Prop) : Rn 70 35 ls st σ Q = acR 70 (o_cge 102 38 ls st σ) ls σ Q := rn_row rfl ls st σ Q
theorem r_70_38 (ls : a_LS) (st : List Value) (σ : a_HP) (Q : Option Value → a_HP → Prop) : Rn 70 38 ls st σ Q = acR 70 (o_lda 0 39 ls st σ) ls σ Q := rn_row rfl ls st σ Q
theorem r_70_39 (ls : a_LS) (st : List Value) (σ : a_HP) (Q : Option Value → a_HP → Prop) : Rn 70 39 ls st σ Q = acR 70 (o_get 7 12 42 ls st σ) ls σ Q := rn_row rfl ls st σ Q
theorem r_70_42 (ls : a_LS) (st : List Value) (σ : a_HP) (Q : Option Value → a_HP → Prop) : Rn 70 42 ls st σ Q = acR 70 (o_ldi 4 44 ls st σ) ls σ Q := rn_row rfl ls st σ Q
theorem r_70_44 (ls : a_LS) (st : List Value) (σ : a_HP) (Q : Option Value → a_HP → Prop) : Rn 70 44 ls st σ Q = acR 70 (o_ial 45 ls st σ) ls σ Q := rn_row rfl ls st σ Q
theorem r_70_45 (ls : a_LS) (st : List Value) (σ : a_HP) (Q : Option Value → a_HP → Prop) : Rn 70 45 ls st σ Q = acR 70 (o_pi (-1) 46 ls st σ) ls σ Q := rn_row rfl ls st σ Q
theorem r_70_46 (ls : a_LS) (st : List Value) (σ : a_HP) (Q : Option Value → a_HP → Prop) : Rn 70 46 ls st σ Q = acR 70 (o_cne 52 49 ls st σ) ls σ Q := rn_row rfl ls st σ Q
theorem r_70_49 (ls : a_LS) (st : List Value) (σ : a_HP) (Q : Option Value → a_HP → Prop) : Rn 70 49 ls st σ Q = acR 70 (o_go 96 ls st σ) ls σ Q := rn_row rfl ls st σ Q
theorem r_70_52 (ls : a_LS) (st : List Value) (σ : a_HP) (Q : Option Value → a_HP → Prop) : Rn 70 52 ls st σ Q = acR 70 (o_ldi 2 53 ls st σ) ls σ Q := rn_row rfl ls st σ Q
theorem r_70_53 (ls : a_LS) (st : List Value) (σ : a_HP) (Q : Option Value → a_HP → Prop) : Rn 70 53 ls st σ Q = acR 70 (o_pi (-1) 54 ls st σ) ls σ Q := rn_row rfl ls st σ Q
theorem r_70_54 (ls : a_LS) (st : List Value) (σ : a_HP) (Q : Option Value → a_HP → Prop) : Rn 70 54 ls st σ Q = acR 70 (o_ceq 68 57 ls st σ) ls σ Q := rn_row rfl ls st σ Q
theorem r_70_57 (ls : a_LS) (st : List Value) (σ : a_HP) (Q : Option Value → a_HP → Prop) : Rn 70 57 ls st σ Q = acR 70 (o_lda 0 58 ls st σ) ls σ Q := rn_row rfl ls st σ Q
theorem r_70_58 (ls : a_LS) (st : List Value) (σ : a_HP) (Q : Option Value → a_HP → Prop) : Rn 70 58 ls st σ Q = acR 70 (o_get 7 12 61 ls st σ) ls σ Q := rn_row rfl ls st σ Q
theorem r_70_61 (ls : a_LS) (st : List Value) (σ : a_HP) (Q : Option Value → a_HP → Prop) : Rn 70 61 ls st σ Q = acR 70 (o_ldi 4 63 ls st σ) ls σ Q := rn_row rfl ls st σ Q
theorem r_70_63 (ls : a_LS) (st : List Value) (σ : a_HP) (Q : Option Value → a_HP → Prop) : Rn 70 63 ls st σ Q = acR 70 (o_ial 64 ls st σ) ls σ Q := rn_row rfl ls st σ Q
theorem r_70_64 (ls : a_LS) (st : List Value) (σ : a_HP) (Q : Option Value → a_HP → Prop) : Rn 70 64 ls st σ Q = acR 70 (o_ldi 2 65 ls st σ) ls σ Q := rn_row rfl ls st σ Q
theorem r_70_65 (ls : a_LS) (st : List Value) (σ : a_HP) (Q : Option Value → a_HP → Prop) : Rn 70 65 ls st σ Q = acR 70 (o_cge 78 68 ls st σ) ls σ Q := rn_row rfl ls st σ Q
theorem r_70_68 (ls : a_LS) (st : List Value) (σ : a_HP) (Q : Option Value → a_HP → Prop) : Rn 70 68 ls st σ Q = acR 70 (o_lda 0 69 ls st σ) ls σ Q := rn_row rfl ls st σ Q
theorem r_70_69 (ls : a_LS) (st : List Value) (σ : a_HP) (Q : Option Value → a_HP → Prop) : Rn 70 69 ls st σ Q = acR 70 (o_get 7 12 72 ls st σ) ls σ Q := rn_row rfl ls st σ Q
theorem r_70_72 (ls : a_LS) (st : List Value) (σ : a_HP) (Q : Option Value → a_HP → Prop) : Rn 70 72 ls st σ Q = acR 70 (o_ldi 4 74 ls st σ) ls σ Q := rn_row rfl ls st σ Q
theorem r_70_74 (ls : a_LS) (st : List Value) (σ : a_HP) (Q : Option Value → a_HP → Prop) : Rn 70 74 ls st σ Q = acR 70 (o_ial 75 ls st σ) ls σ Q := rn_row rfl ls st σ Q
theorem r_70_75 (ls : a_LS) (st : List Value) (σ : a_HP) (Q : Option Value → a_HP → Prop) : Rn 70 75 ls st σ Q = acR 70 (o_sti 2 76 ls st σ) ls σ Q := rn_row rfl ls st σ Q
theorem r_70_76 (ls : a_LS) (st : List Value) (σ : a_HP) (Q : Option Value → a_HP → Prop) : Rn 70 76 ls st σ Q = acR 70 (o_pi (nI 0) 77 ls st σ) ls σ Q := rn_row rfl ls st σ Q
theorem r_70_77 (ls : a_LS) (st : List Value) (σ : a_HP) (Q : Option Value → a_HP → Prop) : Rn 70 77 ls st σ Q = acR 70 (o_sti 3 78 ls st σ) ls σ Q := rn_row rfl ls st σ Q
theorem r_70_78 (ls : a_LS) (st : List Value) (σ : a_HP) (Q : Option Value → a_HP → Prop) : Rn 70 78 ls st σ Q = acR 70 (o_lda 0 79 ls st σ) ls σ Q := rn_row rfl ls st σ Q
theorem r_70_79 (ls : a_LS) (st : List Value) (σ : a_HP) (Q : Option Value → a_HP → Prop) : Rn 70 79 ls st σ Q = acR 70 (o_get 7 12 82 ls st σ) ls σ Q := rn_row rfl ls st σ Q
theorem r_70_82 (ls : a_LS) (st : List Value) (σ : a_HP) (Q : Option Value → a_HP → Prop) : Rn 70 82 ls st σ Q = acR 70 (o_ldi 4 84 ls st σ) ls σ Q := rn_row rfl ls st σ Q
theorem r_70_84 (ls : a_LS) (st : List Value) (σ : a_HP) (Q : Option Value → a_HP → Prop) : Rn 70 84 ls st σ Q = acR 70 (o_ial 85 ls st σ) ls σ Q := rn_row rfl ls st σ Q
theorem r_70_85 (ls : a_LS) (st : List Value) (σ : a_HP) (Q : Option Value → a_HP → Prop) : Rn 70 85 ls st σ Q = acR 70 (o_ldi 2 86 ls st σ) ls σ Q := rn_row rfl ls st σ Q
theorem r_70_86 (ls : a_LS) (st : List Value) (σ : a_HP) (Q : Option Value → a_HP → Prop) : Rn 70 86 ls st σ Q = acR 70 (o_cne 96 89 ls st σ) ls σ Q := rn_row rfl ls st σ Q
theorem r_70_89 (ls : a_LS) (st : List Value) (σ : a_HP) (Q : Option Value → a_HP → Prop) : Rn 70 89 ls st σ Q = acR 70 (o_ldi 3 90 ls st σ) ls σ Q := rn_row rfl ls st σ Q
theorem r_70_90 (ls : a_LS) (st : List Value) (σ : a_HP) (Q : Option Value → a_HP → Prop) : Rn 70 90 ls st σ Q = acR 70 (o_pi (nI 1) 91 ls st σ) ls σ Q := rn_row rfl ls st σ Q
theorem r_70_91 (ls : a_LS) (st : List Value) (σ : a_HP) (Q : Option Value → a_HP → Prop) : Rn 70 91 ls st σ Q = acR 70 (o_ldi 4 93 ls st σ) ls σ Q := rn_row rfl ls st σ Q
theorem r_70_93 (ls : a_LS) (st : List Value) (σ : a_HP) (Q : Option Value → a_HP → Prop) : Rn 70 93 ls st σ Q = acR 70 (o_bi f_shl 94 ls st σ) ls σ Q := rn_row rfl ls st σ Q
theorem r_70_94 (ls : a_LS) (st : List Value) (σ : a_HP) (Q : Option Value → a_HP → Prop) : Rn 70 94 ls st σ Q = acR 70 (o_bi f_or 95 ls st σ) ls σ Q := rn_row rfl ls st σ Q
theorem r_70_95 (ls : a_LS) (st : List Value) (σ : a_HP) (Q : Option Value → a_HP → Prop) : Rn 70 95 ls st σ Q = acR 70 (o_sti 3 96 ls st σ) ls σ Q := rn_row rfl ls st σ Q
theorem r_70_96 (ls : a_LS) (st : List Value) (σ : a_HP) (Q : Option Value → a_HP → Prop) : Rn 70 96 ls st σ Q = acR 70 (o_inc 4 (nI 1) 99 ls st σ) ls σ Q := rn_row rfl ls st σ Q
theorem r_70_99 (ls : a_LS) (st : List Value) (σ : a_HP) (Q : Option Value → a_HP → Prop) : Rn 70 99 ls st σ Q = acR 70 (o_go 32 ls st σ) ls σ Q := rn_row rfl ls st σ Q
theorem r_70_102 (ls : a_LS) (st : List Value) (σ : a_HP) (Q : Option Value → a_HP → Prop) : Rn 70 102 ls st σ Q = acR 70 (o_ldi 1 103 ls st σ) ls σ Q := rn_row rfl ls st σ Q
theorem r_70_103 (ls : a_LS) (st : List Value) (σ : a_HP) (Q : Option Value → a_HP → Prop) : Rn 70 103 ls st σ Q = acR 70 (o_eq 111 106 ls st σ) ls σ Q := rn_row rfl ls st σ Q
theorem r_70_106 (ls : a_LS) (st : List Value) (σ : a_HP) (Q : Option Value → a_HP → Prop) : Rn 70 106 ls st σ Q = acR 70 (o_ldi 2 107 ls st σ) ls σ Q := rn_row rfl ls st σ Q
theorem r_70_107 (ls : a_LS) (st : List Value) (σ : a_HP) (Q : Option Value → a_HP → Prop) : Rn 70 107 ls st σ Q = acR 70 (o_pi (-1) 108 ls st σ) ls σ Q := rn_row rfl ls st σ Q
theorem r_70_108 (ls : a_LS) (st : List Value) (σ : a_HP) (Q : Option Value → a_HP → Prop) : Rn 70 108 ls st σ Q = acR 70 (o_cne 115 111 ls st σ) ls σ Q := rn_row rfl ls st σ Q
theorem r_70_111 (ls : a_LS) (st : List Value) (σ : a_HP) (Q : Option Value → a_HP → Prop) : Rn 70 111 ls st σ Q = acR 70 (o_ldi 2 112 ls st σ) ls σ Q := rn_row rfl ls st σ Q
theorem r_70_112 (ls : a_LS) (st : List Value) (σ : a_HP) (Q : Option Value → a_HP → Prop) : Rn 70 112 ls st σ Q = acR 70 (o_go 116 ls st σ) ls σ Q := rn_row rfl ls st σ Q
theorem r_70_115 (ls : a_LS) (st : List Value) (σ : a_HP) (Q : Option Value → a_HP → Prop) : Rn 70 115 ls st σ Q = acR 70 (o_ldi 3 116 ls st σ) ls σ Q := rn_row rfl ls st σ Q
theorem r_70_116 (ls : a_LS) (st : List Value) (σ : a_HP) (Q : Option Value → a_HP → Prop) : Rn 70 116 ls st σ Q = acR 70 (o_ri ls st σ) ls σ Q := rn_row rfl ls st σ Q
/-! 71: NetLaw.precedent(I)I -/
theorem cl_71 (x0 : Nat) (x1 : Int32) (σ : a_HP) (Q : Option Value → a_HP → Prop) : Cl 71 [.ref x0, .int x1] σ Q = Rn 71 0 [some (.ref x0), some (.int x1), none, none, none, none, none] [] σ Q := cl_of (Nat.le_of_ble_eq_true rfl) rfl σ Q
theorem r_71_0 (ls : a_LS) (st : List Value) (σ : a_HP) (Q : Option Value → a_HP → Prop) : Rn 71 0 ls st σ Q = acR 71 (o_ldi 1 1 ls st σ) ls σ Q := rn_row rfl ls st σ Q
theorem r_71_1 (ls : a_LS) (st : List Value) (σ : a_HP) (Q : Option Value → a_HP → Prop) : Rn 71 1 ls st σ Q = acR 71 (o_ivs 94 1 4 ls st σ) ls σ Q := rn_row rfl ls st σ Q
theorem r_71_4 (ls : a_LS) (st : List Value) (σ : a_HP) (Q : Option Value → a_HP → Prop) : Rn 71 4 ls st σ Q = acR 71 (o_ne 12 7 ls st σ) ls σ Q := rn_row rfl ls st σ Q
theorem r_71_7 (ls : a_LS) (st : List Value) (σ : a_HP) (Q : Option Value → a_HP → Prop) : Rn 71 7 ls st σ Q = acR 71 (o_lda 0 8 ls st σ) ls σ Q := rn_row rfl ls st σ Q
theorem r_71_8 (ls : a_LS) (st : List Value) (σ : a_HP) (Q : Option Value → a_HP → Prop) : Rn 71 8 ls st σ Q = acR 71 (o_ivv 7 87 0 11 ls st σ) ls σ Q := rn_row rfl ls st σ Q
theorem r_71_11 (ls : a_LS) (st : List Value) (σ : a_HP) (Q : Option Value → a_HP → Prop) : Rn 71 11 ls st σ Q = acR 71 (o_ri ls st σ) ls σ Q := rn_row rfl ls st σ Q
theorem r_71_12 (ls : a_LS) (st : List Value) (σ : a_HP) (Q : Option Value → a_HP → Prop) : Rn 71 12 ls st σ Q = acR 71 (o_lda 0 13 ls st σ) ls σ Q := rn_row rfl ls st σ Q
theorem r_71_13 (ls : a_LS) (st : List Value) (σ : a_HP) (Q : Option Value → a_HP → Prop) : Rn 71 13 ls st σ Q = acR 71 (o_get 7 3 16 ls st σ) ls σ Q := rn_row rfl ls st σ Q
theorem r_71_16 (ls : a_LS) (st : List Value) (σ : a_HP) (Q : Option Value → a_HP → Prop) : Rn 71 16 ls st σ Q = acR 71 (o_ldi 1 17 ls st σ) ls σ Q := rn_row rfl ls st σ Q
theorem r_71_17 (ls : a_LS) (st : List Value) (σ : a_HP) (Q : Option Value → a_HP → Prop) : Rn 71 17 ls st σ Q = acR 71 (o_aal 18 ls st σ) ls σ Q := rn_row rfl ls st σ Q
theorem r_71_18 (ls : a_LS) (st : List Value) (σ : a_HP) (Q : Option Value → a_HP → Prop) : Rn 71 18 ls st σ Q = acR 71 (o_get 1 0 21 ls st σ) ls σ Q := rn_row rfl ls st σ Q
theorem r_71_21 (ls : a_LS) (st : List Value) (σ : a_HP) (Q : Option Value → a_HP → Prop) : Rn 71 21 ls st σ Q = acR 71 (o_ne 29 24 ls st σ) ls σ Q := rn_row rfl ls st σ Q
theorem r_71_24 (ls : a_LS) (st : List Value) (σ : a_HP) (Q : Option Value → a_HP → Prop) : Rn 71 24 ls st σ Q = acR 71 (o_lda 0 25 ls st σ) ls σ Q := rn_row rfl ls st σ Q
theorem r_71_25 (ls : a_LS) (st : List Value) (σ : a_HP) (Q : Option Value → a_HP → Prop) : Rn 71 25 ls st σ Q = acR 71 (o_ivv 7 89 0 28 ls st σ) ls σ Q := rn_row rfl ls st σ Q
theorem r_71_28 (ls : a_LS) (st : List Value) (σ : a_HP) (Q : Option Value → a_HP → Prop) : Rn 71 28 ls st σ Q = acR 71 (o_ri ls st σ) ls σ Q := rn_row rfl ls st σ Q
theorem r_71_29 (ls : a_LS) (st : List Value) (σ : a_HP) (Q : Option Value → a_HP → Prop) : Rn 71 29 ls st σ Q = acR 71 (o_pi (nI 0) 30 ls st σ) ls σ Q := rn_row rfl ls st σ Q
theorem r_71_30 (ls : a_LS) (st : List Value) (σ : a_HP) (Q : Option Value → a_HP → Prop) : Rn 71 30 ls st σ Q = acR 71 (o_sti 2 31 ls st σ) ls σ Q := rn_row rfl ls st σ Q
theorem r_71_31 (ls : a_LS) (st : List Value) (σ : a_HP) (Q : Option Value → a_HP → Prop) : Rn 71 31 ls st σ Q = acR 71 (o_pi (nI 0) 32 ls st σ) ls σ Q := rn_row rfl ls st σ Q
theorem r_71_32 (ls : a_LS) (st : List Value) (σ : a_HP) (Q : Option Value → a_HP → Prop) : Rn 71 32 ls st σ Q = acR 71 (o_sti 3 33 ls st σ) ls σ Q := rn_row rfl ls st σ Q
theorem r_71_33 (ls : a_LS) (st : List Value) (σ : a_HP) (Q : Option Value → a_HP → Prop) : Rn 71 33 ls st σ Q = acR 71 (o_ldi 3 34 ls st σ) ls σ Q := rn_row rfl ls st σ Q
theorem r_71_34 (ls : a_LS) (st : List Value) (σ : a_HP) (Q : Option Value → a_HP → Prop) : Rn 71 34 ls st σ Q = acR 71 (o_pi (nI 9) 36 ls st σ) ls σ Q := rn_row rfl ls st σ Q
theorem r_71_36 (ls : a_LS) (st : List Value) (σ : a_HP) (Q : Option Value → a_HP → Prop) : Rn 71 36 ls st σ Q = acR 71 (o_cge 122 39 ls st σ) ls σ Q := rn_row rfl ls st σ Q
theorem r_71_39 (ls : a_LS) (st : List Value) (σ : a_HP) (Q : Option Value → a_HP → Prop) : Rn 71 39 ls st σ Q = acR 71 (o_pi (nI 0) 40 ls st σ) ls σ Q := rn_row rfl ls st σ Q
theorem r_71_40 (ls : a_LS) (st : List Value) (σ : a_HP) (Q : Option Value → a_HP → Prop) : Rn 71 40 ls st σ Q = acR 71 (o_sti 4 42 ls st σ) ls σ Q := rn_row rfl ls st σ Q
theorem r_71_42 (ls : a_LS) (st : List Value) (σ : a_HP) (Q : Option Value → a_HP → Prop) : Rn 71 42 ls st σ Q = acR 71 (o_pi (nI 0) 43 ls st σ) ls σ Q := rn_row rfl ls st σ Q
theorem r_71_43 (ls : a_LS) (st : List Value) (σ : a_HP) (Q : Option Value → a_HP → Prop) : Rn 71 43 ls st σ Q = acR 71 (o_sti 5 45 ls st σ) ls σ Q := rn_row rfl ls st σ Q
theorem r_71_45 (ls : a_LS) (st : List Value) (σ : a_HP) (Q : Option Value → a_HP → Prop) : Rn 71 45 ls st σ Q = acR 71 (o_ldi 5 47 ls st σ) ls σ Q := rn_row rfl ls st σ Q
theorem r_71_47 (ls : a_LS) (st : List Value) (σ : a_HP) (Q : Option Value → a_HP → Prop) : Rn 71 47 ls st σ Q = acR 71 (o_pi (nI 4) 48 ls st σ) ls σ Q := rn_row rfl ls st σ Q
theorem r_71_48 (ls : a_LS) (st : List Value) (σ : a_HP) (Q : Option Value → a_HP → Prop) : Rn 71 48 ls st σ Q = acR 71 (o_cge 96 51 ls st σ) ls σ Q := rn_row rfl ls st σ Q
theorem r_71_51 (ls : a_LS) (st : List Value) (σ : a_HP) (Q : Option Value → a_HP → Prop) : Rn 71 51 ls st σ Q = acR 71 (o_ldi 3 52 ls st σ) ls σ Q := rn_row rfl ls st σ Q
theorem r_71_52 (ls : a_LS) (st : List Value) (σ : a_HP) (Q : Option Value → a_HP → Prop) : Rn 71 52 ls st σ Q = acR 71 (o_ldi 5 54 ls st σ) ls σ Q := rn_row rfl ls st σ Q
theorem r_71_54 (ls : a_LS) (st : List Value) (σ : a_HP) (Q : Option Value → a_HP → Prop) : Rn 71 54 ls st σ Q = acR 71 (o_ivs 103 2 57 ls st σ) ls σ Q := rn_row rfl ls st σ Q
theorem r_71_57 (ls : a_LS) (st : List Value) (σ : a_HP) (Q : Option Value → a_HP → Prop) : Rn 71 57 ls st σ Q = acR 71 (o_sti 6 59 ls st σ) ls σ Q := rn_row rfl ls st σ Q
theorem r_71_59 (ls : a_LS) (st : List Value) (σ : a_HP) (Q : Option Value → a_HP → Prop) : Rn 71 59 ls st σ Q = acR 71 (o_ldi 4 61 ls st σ) ls σ Q := rn_row rfl ls st σ Q
theorem r_71_61 (ls : a_LS) (st : List Value) (σ : a_HP) (Q : Option Value → a_HP → Prop) : Rn 71 61 ls st σ Q = acR 71 (o_lda 0 62 ls st σ) ls σ Q := rn_row rfl ls st σ Q
theorem r_71_62 (ls : a_LS) (st : List Value) (σ : a_HP) (Q : Option Value → a_HP → Prop) : Rn 71 62 ls st σ Q = acR 71 (o_get 7 0 65 ls st σ) ls σ Q := rn_row rfl ls st σ Q
theorem r_71_65 (ls : a_LS) (st : List Value) (σ : a_HP) (Q : Option Value → a_HP → Prop) : Rn 71 65 ls st σ Q = acR 71 (o_ldi 6 67 ls st σ) ls σ Q := rn_row rfl ls st σ Q
theorem r_71_67 (ls : a_LS) (st : List Value) (σ : a_HP) (Q : Option Value → a_HP → Prop) : Rn 71 67 ls st σ Q = acR 71 (o_ivv 3 22 1 70 ls st σ) ls σ Q := rn_row rfl ls st σ Q
theorem r_71_70 (ls : a_LS) (st : List Value) (σ : a_HP) (Q : Option Value → a_HP → Prop) : Rn 71 70 ls st σ Q = acR 71 (o_lda 0 71 ls st σ) ls σ Q := rn_row rfl ls st σ Q
theorem r_71_71 (ls : a_LS) (st : List Value) (σ : a_HP) (Q : Option Value → a_HP → Prop) : Rn 71 71 ls st σ Q = acR 71 (o_get 7 3 74 ls st σ) ls σ Q := rn_row rfl ls st σ Q
theorem r_71_74 (ls : a_LS) (st : List Value) (σ : a_HP) (Q : Option Value → a_HP → Prop) : Rn 71 74 ls st σ Q = acR 71 (o_ldi 1 75 ls st σ) ls σ Q := rn_row rfl ls st σ Q
theorem r_71_75 (ls : a_LS) (st : List Value) (σ : a_HP) (Q : Option Value → a_HP → Prop) : Rn 71 75 ls st σ Q = acR 71 (o_aal 76 ls st σ) ls σ Q := rn_row rfl ls st σ Q
theorem r_71_76 (ls : a_LS) (st : List Value) (σ : a_HP) (Q : Option Value → a_HP → Prop) : Rn 71 76 ls st σ Q = acR 71 (o_get 1 1 79 ls st σ) ls σ Q := rn_row rfl ls st σ Q
theorem r_71_79 (ls : a_LS) (st : List Value) (σ : a_HP) (Q : Option Value → a_HP → Prop) : Rn 71 79 ls st σ Q = acR 71 (o_ldi 6 81 ls st σ) ls σ Q := rn_row rfl ls st σ Q
theorem r_71_81 (ls : a_LS) (st : List Value) (σ : a_HP) (Q : Option Value → a_HP → Prop) : Rn 71 81 ls st σ Q = acR 71 (o_ivv 3 22 1 84 ls st σ) ls σ Q := rn_row rfl ls st σ Q
theorem r_71_84 (ls : a_LS) (st : List Value) (σ : a_HP) (Q : Option Value → a_HP → Prop) : Rn 71 84 ls st σ Q = acR 71 (o_ivs 207 2 87 ls st σ) ls σ Q := rn_row rfl ls st σ Q
theorem r_71_87 (ls : a_LS) (st : List Value) (σ : a_HP) (Q : Option Value → a_HP → Prop) : Rn 71 87 ls st σ Q = acR 71 (o_bi f_add 88 ls st σ) ls σ Q := rn_row rfl ls st σ Q
theorem r_71_88 (ls : a_LS) (st : List Value) (σ : a_HP) (Q : Option Value → a_HP → Prop) : Rn 71 88 ls st σ Q = acR 71 (o_sti 4 90 ls st σ) ls σ Q := rn_row rfl ls st σ Q
theorem r_71_90 (ls : a_LS) (st : List Value) (σ : a_HP) (Q : Option Value → a_HP → Prop) : Rn 71 90 ls st σ Q = acR 71 (o_inc 5 (nI 1) 93 ls st σ) ls σ Q := rn_row rfl ls st σ Q
theorem r_71_93 (ls : a_LS) (st : List Value) (σ : a_HP) (Q : Option Value → a_HP → Prop) : Rn 71 93 ls st σ Q = acR 71 (o_go 45 ls st σ) ls σ Q := rn_row rfl ls st σ Q
theorem r_71_96 (ls : a_LS) (st : List Value) (σ : a_HP) (Q : Option Value → a_HP → Prop) : Rn 71 96 ls st σ Q = acR 71 (o_ldi 4 98 ls st σ) ls σ Q := rn_row rfl ls st σ Q
theorem r_71_98 (ls : a_LS) (st : List Value) (σ : a_HP) (Q : Option Value → a_HP → Prop) : Rn 71 98 ls st σ Q = acR 71 (o_lda 0 99 ls st σ) ls σ Q := rn_row rfl ls st σ Q
theorem r_71_99 (ls : a_LS) (st : List Value) (σ : a_HP) (Q : Option Value → a_HP → Prop) : Rn 71 99 ls st σ Q = acR 71 (o_get 7 0 102 ls st σ) ls σ Q := rn_row rfl ls st σ Q
theorem r_71_102 (ls : a_LS) (st : List Value) (σ : a_HP) (Q : Option Value → a_HP → Prop) : Rn 71 102 ls st σ Q = acR 71 (o_get 3 7 105 ls st σ) ls σ Q := rn_row rfl ls st σ Q
theorem r_71_105 (ls : a_LS) (st : List Value) (σ : a_HP) (Q : Option Value → a_HP → Prop) : Rn 71 105 ls st σ Q = acR 71 (o_ldi 3 106 ls st σ) ls σ Q := rn_row rfl ls st σ Q
theorem r_71_106 (ls : a_LS) (st : List Value) (σ : a_HP) (Q : Option Value → a_HP → Prop) : Rn 71 106 ls st σ Q = acR 71 (o_ial 107 ls st σ) ls σ Q := rn_row rfl ls st σ Q
theorem r_71_107 (ls : a_LS) (st : List Value) (σ : a_HP) (Q : Option Value → a_HP → Prop) : Rn 71 107 ls st σ Q = acR 71 (o_clt 116 110 ls st σ) ls σ Q := rn_row rfl ls st σ Q
theorem r_71_110 (ls : a_LS) (st : List Value) (σ : a_HP) (Q : Option Value → a_HP → Prop) : Rn 71 110 ls st σ Q = acR 71 (o_ldi 2 111 ls st σ) ls σ Q := rn_row rfl ls st σ Q
theorem r_71_111 (ls : a_LS) (st : List Value) (σ : a_HP) (Q : Option Value → a_HP → Prop) : Rn 71 111 ls st σ Q = acR 71 (o_pi (nI 1) 112 ls st σ) ls σ Q := rn_row rfl ls st σ Q
theorem r_71_112 (ls : a_LS) (st : List Value) (σ : a_HP) (Q : Option Value → a_HP → Prop) : Rn 71 112 ls st σ Q = acR 71 (o_ldi 3 113 ls st σ) ls σ Q := rn_row rfl ls st σ Q
theorem r_71_113 (ls : a_LS) (st : List Value) (σ : a_HP) (Q : Option Value → a_HP → Prop) : Rn 71 113 ls st σ Q = acR 71 (o_bi f_shl 114 ls st σ) ls σ Q := rn_row rfl ls st σ Q
theorem r_71_114 (ls : a_LS) (st : List Value) (σ : a_HP) (Q : Option Value → a_HP → Prop) : Rn 71 114 ls st σ Q = acR 71 (o_bi f_or 115 ls st σ) ls σ Q := rn_row rfl ls st σ Q
theorem r_71_115 (ls : a_LS) (st : List Value) (σ : a_HP) (Q : Option Value → a_HP → Prop) : Rn 71 115 ls st σ Q = acR 71 (o_sti 2 116 ls st σ) ls σ Q := rn_row rfl ls st σ Q
theorem r_71_116 (ls : a_LS) (st : List Value) (σ : a_HP) (Q : Option Value → a_HP → Prop) : Rn 71 116 ls st σ Q = acR 71 (o_inc 3 (nI 1) 119 ls st σ) ls σ Q := rn_row rfl ls st σ Q
theorem r_71_119 (ls : a_LS) (st : List Value) (σ : a_HP) (Q : Option Value → a_HP → Prop) : Rn 71 119 ls st σ Q = acR 71 (o_go 33 ls st σ) ls σ Q := rn_row rfl ls st σ Q
theorem r_71_122 (ls : a_LS) (st : List Value) (σ : a_HP) (Q : Option Value → a_HP → Prop) : Rn 71 122 ls st σ Q = acR 71 (o_ldi 2 123 ls st σ) ls σ Q := rn_row rfl ls st σ Q
theorem r_71_123 (ls : a_LS) (st : List Value) (σ : a_HP) (Q : Option Value → a_HP → Prop) : Rn 71 123 ls st σ Q = acR 71 (o_ri ls st σ) ls σ Q := rn_row rfl ls st σ Q
