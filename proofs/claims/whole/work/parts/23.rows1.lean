/-! a row an instruction: what a run from there is. By program. -/
/-! 72: NetLaw.reading(III)I -/
theorem cl_72 (x0 : Nat) (x1 : Int32) (x2 : Int32) (x3 : Int32) (σ : a_HP) (Q : Option Value → a_HP → Prop) : Cl 72 [.ref x0, .int x1, .int x2, .int x3] σ Q = Rn 72 0 [some (.ref x0), some (.int x1), some (.int x2), some (.int x3)] [] σ Q := cl_of (Nat.le_of_ble_eq_true rfl) rfl σ Q
theorem r_72_0 (ls : a_LS) (st : List Value) (σ : a_HP) (Q : Option Value → a_HP → Prop) : Rn 72 0 ls st σ Q = acR 72 (o_ldi 1 1 ls st σ) ls σ Q := rn_row rfl ls st σ Q
theorem r_72_1 (ls : a_LS) (st : List Value) (σ : a_HP) (Q : Option Value → a_HP → Prop) : Rn 72 1 ls st σ Q = acR 72 (o_pi (nI 1) 2 ls st σ) ls σ Q := rn_row rfl ls st σ Q
theorem r_72_2 (ls : a_LS) (st : List Value) (σ : a_HP) (Q : Option Value → a_HP → Prop) : Rn 72 2 ls st σ Q = acR 72 (o_pi (nI 9) 4 ls st σ) ls σ Q := rn_row rfl ls st σ Q
theorem r_72_4 (ls : a_LS) (st : List Value) (σ : a_HP) (Q : Option Value → a_HP → Prop) : Rn 72 4 ls st σ Q = acR 72 (o_ivs 91 3 7 ls st σ) ls σ Q := rn_row rfl ls st σ Q
theorem r_72_7 (ls : a_LS) (st : List Value) (σ : a_HP) (Q : Option Value → a_HP → Prop) : Rn 72 7 ls st σ Q = acR 72 (o_eq 29 10 ls st σ) ls σ Q := rn_row rfl ls st σ Q
theorem r_72_10 (ls : a_LS) (st : List Value) (σ : a_HP) (Q : Option Value → a_HP → Prop) : Rn 72 10 ls st σ Q = acR 72 (o_ldi 2 11 ls st σ) ls σ Q := rn_row rfl ls st σ Q
theorem r_72_11 (ls : a_LS) (st : List Value) (σ : a_HP) (Q : Option Value → a_HP → Prop) : Rn 72 11 ls st σ Q = acR 72 (o_pi (nI 0) 12 ls st σ) ls σ Q := rn_row rfl ls st σ Q
theorem r_72_12 (ls : a_LS) (st : List Value) (σ : a_HP) (Q : Option Value → a_HP → Prop) : Rn 72 12 ls st σ Q = acR 72 (o_pi (nI 1) 13 ls st σ) ls σ Q := rn_row rfl ls st σ Q
theorem r_72_13 (ls : a_LS) (st : List Value) (σ : a_HP) (Q : Option Value → a_HP → Prop) : Rn 72 13 ls st σ Q = acR 72 (o_ivs 91 3 16 ls st σ) ls σ Q := rn_row rfl ls st σ Q
theorem r_72_16 (ls : a_LS) (st : List Value) (σ : a_HP) (Q : Option Value → a_HP → Prop) : Rn 72 16 ls st σ Q = acR 72 (o_eq 29 19 ls st σ) ls σ Q := rn_row rfl ls st σ Q
theorem r_72_19 (ls : a_LS) (st : List Value) (σ : a_HP) (Q : Option Value → a_HP → Prop) : Rn 72 19 ls st σ Q = acR 72 (o_ldi 3 20 ls st σ) ls σ Q := rn_row rfl ls st σ Q
theorem r_72_20 (ls : a_LS) (st : List Value) (σ : a_HP) (Q : Option Value → a_HP → Prop) : Rn 72 20 ls st σ Q = acR 72 (o_pi (nI 0) 21 ls st σ) ls σ Q := rn_row rfl ls st σ Q
theorem r_72_21 (ls : a_LS) (st : List Value) (σ : a_HP) (Q : Option Value → a_HP → Prop) : Rn 72 21 ls st σ Q = acR 72 (o_pi (nI 30) 23 ls st σ) ls σ Q := rn_row rfl ls st σ Q
theorem r_72_23 (ls : a_LS) (st : List Value) (σ : a_HP) (Q : Option Value → a_HP → Prop) : Rn 72 23 ls st σ Q = acR 72 (o_ivs 91 3 26 ls st σ) ls σ Q := rn_row rfl ls st σ Q
theorem r_72_26 (ls : a_LS) (st : List Value) (σ : a_HP) (Q : Option Value → a_HP → Prop) : Rn 72 26 ls st σ Q = acR 72 (o_ne 34 29 ls st σ) ls σ Q := rn_row rfl ls st σ Q
theorem r_72_29 (ls : a_LS) (st : List Value) (σ : a_HP) (Q : Option Value → a_HP → Prop) : Rn 72 29 ls st σ Q = acR 72 (o_lda 0 30 ls st σ) ls σ Q := rn_row rfl ls st σ Q
theorem r_72_30 (ls : a_LS) (st : List Value) (σ : a_HP) (Q : Option Value → a_HP → Prop) : Rn 72 30 ls st σ Q = acR 72 (o_ivv 7 87 0 33 ls st σ) ls σ Q := rn_row rfl ls st σ Q
theorem r_72_33 (ls : a_LS) (st : List Value) (σ : a_HP) (Q : Option Value → a_HP → Prop) : Rn 72 33 ls st σ Q = acR 72 (o_ri ls st σ) ls σ Q := rn_row rfl ls st σ Q
theorem r_72_34 (ls : a_LS) (st : List Value) (σ : a_HP) (Q : Option Value → a_HP → Prop) : Rn 72 34 ls st σ Q = acR 72 (o_lda 0 35 ls st σ) ls σ Q := rn_row rfl ls st σ Q
theorem r_72_35 (ls : a_LS) (st : List Value) (σ : a_HP) (Q : Option Value → a_HP → Prop) : Rn 72 35 ls st σ Q = acR 72 (o_get 7 2 38 ls st σ) ls σ Q := rn_row rfl ls st σ Q
theorem r_72_38 (ls : a_LS) (st : List Value) (σ : a_HP) (Q : Option Value → a_HP → Prop) : Rn 72 38 ls st σ Q = acR 72 (o_get 5 0 41 ls st σ) ls σ Q := rn_row rfl ls st σ Q
theorem r_72_41 (ls : a_LS) (st : List Value) (σ : a_HP) (Q : Option Value → a_HP → Prop) : Rn 72 41 ls st σ Q = acR 72 (o_pi (nI 6) 43 ls st σ) ls σ Q := rn_row rfl ls st σ Q
theorem r_72_43 (ls : a_LS) (st : List Value) (σ : a_HP) (Q : Option Value → a_HP → Prop) : Rn 72 43 ls st σ Q = acR 72 (o_clt 51 46 ls st σ) ls σ Q := rn_row rfl ls st σ Q
theorem r_72_46 (ls : a_LS) (st : List Value) (σ : a_HP) (Q : Option Value → a_HP → Prop) : Rn 72 46 ls st σ Q = acR 72 (o_lda 0 47 ls st σ) ls σ Q := rn_row rfl ls st σ Q
theorem r_72_47 (ls : a_LS) (st : List Value) (σ : a_HP) (Q : Option Value → a_HP → Prop) : Rn 72 47 ls st σ Q = acR 72 (o_ivv 7 90 0 50 ls st σ) ls σ Q := rn_row rfl ls st σ Q
theorem r_72_50 (ls : a_LS) (st : List Value) (σ : a_HP) (Q : Option Value → a_HP → Prop) : Rn 72 50 ls st σ Q = acR 72 (o_ri ls st σ) ls σ Q := rn_row rfl ls st σ Q
theorem r_72_51 (ls : a_LS) (st : List Value) (σ : a_HP) (Q : Option Value → a_HP → Prop) : Rn 72 51 ls st σ Q = acR 72 (o_lda 0 52 ls st σ) ls σ Q := rn_row rfl ls st σ Q
theorem r_72_52 (ls : a_LS) (st : List Value) (σ : a_HP) (Q : Option Value → a_HP → Prop) : Rn 72 52 ls st σ Q = acR 72 (o_get 7 2 55 ls st σ) ls σ Q := rn_row rfl ls st σ Q
theorem r_72_55 (ls : a_LS) (st : List Value) (σ : a_HP) (Q : Option Value → a_HP → Prop) : Rn 72 55 ls st σ Q = acR 72 (o_ldi 1 56 ls st σ) ls σ Q := rn_row rfl ls st σ Q
theorem r_72_56 (ls : a_LS) (st : List Value) (σ : a_HP) (Q : Option Value → a_HP → Prop) : Rn 72 56 ls st σ Q = acR 72 (o_ldi 2 57 ls st σ) ls σ Q := rn_row rfl ls st σ Q
theorem r_72_57 (ls : a_LS) (st : List Value) (σ : a_HP) (Q : Option Value → a_HP → Prop) : Rn 72 57 ls st σ Q = acR 72 (o_ldi 3 58 ls st σ) ls σ Q := rn_row rfl ls st σ Q
theorem r_72_58 (ls : a_LS) (st : List Value) (σ : a_HP) (Q : Option Value → a_HP → Prop) : Rn 72 58 ls st σ Q = acR 72 (o_ivv 5 32 3 61 ls st σ) ls σ Q := rn_row rfl ls st σ Q
theorem r_72_61 (ls : a_LS) (st : List Value) (σ : a_HP) (Q : Option Value → a_HP → Prop) : Rn 72 61 ls st σ Q = acR 72 (o_lda 0 62 ls st σ) ls σ Q := rn_row rfl ls st σ Q
theorem r_72_62 (ls : a_LS) (st : List Value) (σ : a_HP) (Q : Option Value → a_HP → Prop) : Rn 72 62 ls st σ Q = acR 72 (o_get 7 2 65 ls st σ) ls σ Q := rn_row rfl ls st σ Q
theorem r_72_65 (ls : a_LS) (st : List Value) (σ : a_HP) (Q : Option Value → a_HP → Prop) : Rn 72 65 ls st σ Q = acR 72 (o_get 5 0 68 ls st σ) ls σ Q := rn_row rfl ls st σ Q
theorem r_72_68 (ls : a_LS) (st : List Value) (σ : a_HP) (Q : Option Value → a_HP → Prop) : Rn 72 68 ls st σ Q = acR 72 (o_ri ls st σ) ls σ Q := rn_row rfl ls st σ Q
/-! 73: NetLaw.forget()I -/
theorem cl_73 (x0 : Nat) (σ : a_HP) (Q : Option Value → a_HP → Prop) : Cl 73 [.ref x0] σ Q = Rn 73 0 [some (.ref x0), none] [] σ Q := cl_of (Nat.le_of_ble_eq_true rfl) rfl σ Q
theorem r_73_0 (ls : a_LS) (st : List Value) (σ : a_HP) (Q : Option Value → a_HP → Prop) : Rn 73 0 ls st σ Q = acR 73 (o_lda 0 1 ls st σ) ls σ Q := rn_row rfl ls st σ Q
theorem r_73_1 (ls : a_LS) (st : List Value) (σ : a_HP) (Q : Option Value → a_HP → Prop) : Rn 73 1 ls st σ Q = acR 73 (o_get 7 2 4 ls st σ) ls σ Q := rn_row rfl ls st σ Q
theorem r_73_4 (ls : a_LS) (st : List Value) (σ : a_HP) (Q : Option Value → a_HP → Prop) : Rn 73 4 ls st σ Q = acR 73 (o_get 5 0 7 ls st σ) ls σ Q := rn_row rfl ls st σ Q
theorem r_73_7 (ls : a_LS) (st : List Value) (σ : a_HP) (Q : Option Value → a_HP → Prop) : Rn 73 7 ls st σ Q = acR 73 (o_sti 1 8 ls st σ) ls σ Q := rn_row rfl ls st σ Q
theorem r_73_8 (ls : a_LS) (st : List Value) (σ : a_HP) (Q : Option Value → a_HP → Prop) : Rn 73 8 ls st σ Q = acR 73 (o_lda 0 9 ls st σ) ls σ Q := rn_row rfl ls st σ Q
theorem r_73_9 (ls : a_LS) (st : List Value) (σ : a_HP) (Q : Option Value → a_HP → Prop) : Rn 73 9 ls st σ Q = acR 73 (o_get 7 2 12 ls st σ) ls σ Q := rn_row rfl ls st σ Q
theorem r_73_12 (ls : a_LS) (st : List Value) (σ : a_HP) (Q : Option Value → a_HP → Prop) : Rn 73 12 ls st σ Q = acR 73 (o_pi (nI 0) 13 ls st σ) ls σ Q := rn_row rfl ls st σ Q
theorem r_73_13 (ls : a_LS) (st : List Value) (σ : a_HP) (Q : Option Value → a_HP → Prop) : Rn 73 13 ls st σ Q = acR 73 (o_put 5 0 16 ls st σ) ls σ Q := rn_row rfl ls st σ Q
theorem r_73_16 (ls : a_LS) (st : List Value) (σ : a_HP) (Q : Option Value → a_HP → Prop) : Rn 73 16 ls st σ Q = acR 73 (o_ldi 1 17 ls st σ) ls σ Q := rn_row rfl ls st σ Q
theorem r_73_17 (ls : a_LS) (st : List Value) (σ : a_HP) (Q : Option Value → a_HP → Prop) : Rn 73 17 ls st σ Q = acR 73 (o_ri ls st σ) ls σ Q := rn_row rfl ls st σ Q
/-! 74: NetLaw.may()I -/
theorem cl_74 (x0 : Nat) (σ : a_HP) (Q : Option Value → a_HP → Prop) : Cl 74 [.ref x0] σ Q = Rn 74 0 [some (.ref x0)] [] σ Q := cl_of (Nat.le_of_ble_eq_true rfl) rfl σ Q
theorem r_74_0 (ls : a_LS) (st : List Value) (σ : a_HP) (Q : Option Value → a_HP → Prop) : Rn 74 0 ls st σ Q = acR 74 (o_lda 0 1 ls st σ) ls σ Q := rn_row rfl ls st σ Q
theorem r_74_1 (ls : a_LS) (st : List Value) (σ : a_HP) (Q : Option Value → a_HP → Prop) : Rn 74 1 ls st σ Q = acR 74 (o_get 7 2 4 ls st σ) ls σ Q := rn_row rfl ls st σ Q
theorem r_74_4 (ls : a_LS) (st : List Value) (σ : a_HP) (Q : Option Value → a_HP → Prop) : Rn 74 4 ls st σ Q = acR 74 (o_ivv 5 34 0 7 ls st σ) ls σ Q := rn_row rfl ls st σ Q
theorem r_74_7 (ls : a_LS) (st : List Value) (σ : a_HP) (Q : Option Value → a_HP → Prop) : Rn 74 7 ls st σ Q = acR 74 (o_ri ls st σ) ls σ Q := rn_row rfl ls st σ Q
/-! 75: NetLaw.tries()I -/
theorem cl_75 (x0 : Nat) (σ : a_HP) (Q : Option Value → a_HP → Prop) : Cl 75 [.ref x0] σ Q = Rn 75 0 [some (.ref x0)] [] σ Q := cl_of (Nat.le_of_ble_eq_true rfl) rfl σ Q
theorem r_75_0 (ls : a_LS) (st : List Value) (σ : a_HP) (Q : Option Value → a_HP → Prop) : Rn 75 0 ls st σ Q = acR 75 (o_lda 0 1 ls st σ) ls σ Q := rn_row rfl ls st σ Q
theorem r_75_1 (ls : a_LS) (st : List Value) (σ : a_HP) (Q : Option Value → a_HP → Prop) : Rn 75 1 ls st σ Q = acR 75 (o_get 7 2 4 ls st σ) ls σ Q := rn_row rfl ls st σ Q
theorem r_75_4 (ls : a_LS) (st : List Value) (σ : a_HP) (Q : Option Value → a_HP → Prop) : Rn 75 4 ls st σ Q = acR 75 (o_ivv 5 36 0 7 ls st σ) ls σ Q := rn_row rfl ls st σ Q
theorem r_75_7 (ls : a_LS) (st : List Value) (σ : a_HP) (Q : Option Value → a_HP → Prop) : Rn 75 7 ls st σ Q = acR 75 (o_ri ls st σ) ls σ Q := rn_row rfl ls st σ Q
/-! 76: NetLaw.stood(III)I -/
theorem cl_76 (x0 : Nat) (x1 : Int32) (x2 : Int32) (x3 : Int32) (σ : a_HP) (Q : Option Value → a_HP → Prop) : Cl 76 [.ref x0, .int x1, .int x2, .int x3] σ Q = Rn 76 0 [some (.ref x0), some (.int x1), some (.int x2), some (.int x3), none, none, none, none, none] [] σ Q := cl_of (Nat.le_of_ble_eq_true rfl) rfl σ Q
theorem r_76_0 (ls : a_LS) (st : List Value) (σ : a_HP) (Q : Option Value → a_HP → Prop) : Rn 76 0 ls st σ Q = acR 76 (o_ldi 1 1 ls st σ) ls σ Q := rn_row rfl ls st σ Q
theorem r_76_1 (ls : a_LS) (st : List Value) (σ : a_HP) (Q : Option Value → a_HP → Prop) : Rn 76 1 ls st σ Q = acR 76 (o_ivs 92 1 4 ls st σ) ls σ Q := rn_row rfl ls st σ Q
theorem r_76_4 (ls : a_LS) (st : List Value) (σ : a_HP) (Q : Option Value → a_HP → Prop) : Rn 76 4 ls st σ Q = acR 76 (o_eq 16 7 ls st σ) ls σ Q := rn_row rfl ls st σ Q
theorem r_76_7 (ls : a_LS) (st : List Value) (σ : a_HP) (Q : Option Value → a_HP → Prop) : Rn 76 7 ls st σ Q = acR 76 (o_ldi 3 8 ls st σ) ls σ Q := rn_row rfl ls st σ Q
theorem r_76_8 (ls : a_LS) (st : List Value) (σ : a_HP) (Q : Option Value → a_HP → Prop) : Rn 76 8 ls st σ Q = acR 76 (o_pi (nI 0) 9 ls st σ) ls σ Q := rn_row rfl ls st σ Q
theorem r_76_9 (ls : a_LS) (st : List Value) (σ : a_HP) (Q : Option Value → a_HP → Prop) : Rn 76 9 ls st σ Q = acR 76 (o_pi (nI 1) 10 ls st σ) ls σ Q := rn_row rfl ls st σ Q
theorem r_76_10 (ls : a_LS) (st : List Value) (σ : a_HP) (Q : Option Value → a_HP → Prop) : Rn 76 10 ls st σ Q = acR 76 (o_ivs 91 3 13 ls st σ) ls σ Q := rn_row rfl ls st σ Q
theorem r_76_13 (ls : a_LS) (st : List Value) (σ : a_HP) (Q : Option Value → a_HP → Prop) : Rn 76 13 ls st σ Q = acR 76 (o_ne 21 16 ls st σ) ls σ Q := rn_row rfl ls st σ Q
theorem r_76_16 (ls : a_LS) (st : List Value) (σ : a_HP) (Q : Option Value → a_HP → Prop) : Rn 76 16 ls st σ Q = acR 76 (o_lda 0 17 ls st σ) ls σ Q := rn_row rfl ls st σ Q
theorem r_76_17 (ls : a_LS) (st : List Value) (σ : a_HP) (Q : Option Value → a_HP → Prop) : Rn 76 17 ls st σ Q = acR 76 (o_ivv 7 88 0 20 ls st σ) ls σ Q := rn_row rfl ls st σ Q
theorem r_76_20 (ls : a_LS) (st : List Value) (σ : a_HP) (Q : Option Value → a_HP → Prop) : Rn 76 20 ls st σ Q = acR 76 (o_ri ls st σ) ls σ Q := rn_row rfl ls st σ Q
theorem r_76_21 (ls : a_LS) (st : List Value) (σ : a_HP) (Q : Option Value → a_HP → Prop) : Rn 76 21 ls st σ Q = acR 76 (o_ldi 1 22 ls st σ) ls σ Q := rn_row rfl ls st σ Q
theorem r_76_22 (ls : a_LS) (st : List Value) (σ : a_HP) (Q : Option Value → a_HP → Prop) : Rn 76 22 ls st σ Q = acR 76 (o_ivs 106 1 25 ls st σ) ls σ Q := rn_row rfl ls st σ Q
theorem r_76_25 (ls : a_LS) (st : List Value) (σ : a_HP) (Q : Option Value → a_HP → Prop) : Rn 76 25 ls st σ Q = acR 76 (o_sti 4 27 ls st σ) ls σ Q := rn_row rfl ls st σ Q
theorem r_76_27 (ls : a_LS) (st : List Value) (σ : a_HP) (Q : Option Value → a_HP → Prop) : Rn 76 27 ls st σ Q = acR 76 (o_ldi 2 28 ls st σ) ls σ Q := rn_row rfl ls st σ Q
theorem r_76_28 (ls : a_LS) (st : List Value) (σ : a_HP) (Q : Option Value → a_HP → Prop) : Rn 76 28 ls st σ Q = acR 76 (o_ldi 4 30 ls st σ) ls σ Q := rn_row rfl ls st σ Q
theorem r_76_30 (ls : a_LS) (st : List Value) (σ : a_HP) (Q : Option Value → a_HP → Prop) : Rn 76 30 ls st σ Q = acR 76 (o_pi (-1) 31 ls st σ) ls σ Q := rn_row rfl ls st σ Q
theorem r_76_31 (ls : a_LS) (st : List Value) (σ : a_HP) (Q : Option Value → a_HP → Prop) : Rn 76 31 ls st σ Q = acR 76 (o_bi f_xor 32 ls st σ) ls σ Q := rn_row rfl ls st σ Q
theorem r_76_32 (ls : a_LS) (st : List Value) (σ : a_HP) (Q : Option Value → a_HP → Prop) : Rn 76 32 ls st σ Q = acR 76 (o_bi f_and 33 ls st σ) ls σ Q := rn_row rfl ls st σ Q
theorem r_76_33 (ls : a_LS) (st : List Value) (σ : a_HP) (Q : Option Value → a_HP → Prop) : Rn 76 33 ls st σ Q = acR 76 (o_eq 41 36 ls st σ) ls σ Q := rn_row rfl ls st σ Q
theorem r_76_36 (ls : a_LS) (st : List Value) (σ : a_HP) (Q : Option Value → a_HP → Prop) : Rn 76 36 ls st σ Q = acR 76 (o_lda 0 37 ls st σ) ls σ Q := rn_row rfl ls st σ Q
theorem r_76_37 (ls : a_LS) (st : List Value) (σ : a_HP) (Q : Option Value → a_HP → Prop) : Rn 76 37 ls st σ Q = acR 76 (o_ivv 7 88 0 40 ls st σ) ls σ Q := rn_row rfl ls st σ Q
theorem r_76_40 (ls : a_LS) (st : List Value) (σ : a_HP) (Q : Option Value → a_HP → Prop) : Rn 76 40 ls st σ Q = acR 76 (o_ri ls st σ) ls σ Q := rn_row rfl ls st σ Q
theorem r_76_41 (ls : a_LS) (st : List Value) (σ : a_HP) (Q : Option Value → a_HP → Prop) : Rn 76 41 ls st σ Q = acR 76 (o_lda 0 42 ls st σ) ls σ Q := rn_row rfl ls st σ Q
theorem r_76_42 (ls : a_LS) (st : List Value) (σ : a_HP) (Q : Option Value → a_HP → Prop) : Rn 76 42 ls st σ Q = acR 76 (o_get 7 0 45 ls st σ) ls σ Q := rn_row rfl ls st σ Q
theorem r_76_45 (ls : a_LS) (st : List Value) (σ : a_HP) (Q : Option Value → a_HP → Prop) : Rn 76 45 ls st σ Q = acR 76 (o_ldi 1 46 ls st σ) ls σ Q := rn_row rfl ls st σ Q
theorem r_76_46 (ls : a_LS) (st : List Value) (σ : a_HP) (Q : Option Value → a_HP → Prop) : Rn 76 46 ls st σ Q = acR 76 (o_ivv 3 19 1 49 ls st σ) ls σ Q := rn_row rfl ls st σ Q
theorem r_76_49 (ls : a_LS) (st : List Value) (σ : a_HP) (Q : Option Value → a_HP → Prop) : Rn 76 49 ls st σ Q = acR 76 (o_ne 60 52 ls st σ) ls σ Q := rn_row rfl ls st σ Q
theorem r_76_52 (ls : a_LS) (st : List Value) (σ : a_HP) (Q : Option Value → a_HP → Prop) : Rn 76 52 ls st σ Q = acR 76 (o_lda 0 53 ls st σ) ls σ Q := rn_row rfl ls st σ Q
theorem r_76_53 (ls : a_LS) (st : List Value) (σ : a_HP) (Q : Option Value → a_HP → Prop) : Rn 76 53 ls st σ Q = acR 76 (o_pi (nI 1) 54 ls st σ) ls σ Q := rn_row rfl ls st σ Q
theorem r_76_54 (ls : a_LS) (st : List Value) (σ : a_HP) (Q : Option Value → a_HP → Prop) : Rn 76 54 ls st σ Q = acR 76 (o_pi (-20) 56 ls st σ) ls σ Q := rn_row rfl ls st σ Q
theorem r_76_56 (ls : a_LS) (st : List Value) (σ : a_HP) (Q : Option Value → a_HP → Prop) : Rn 76 56 ls st σ Q = acR 76 (o_ivv 7 86 2 59 ls st σ) ls σ Q := rn_row rfl ls st σ Q
theorem r_76_59 (ls : a_LS) (st : List Value) (σ : a_HP) (Q : Option Value → a_HP → Prop) : Rn 76 59 ls st σ Q = acR 76 (o_ri ls st σ) ls σ Q := rn_row rfl ls st σ Q
theorem r_76_60 (ls : a_LS) (st : List Value) (σ : a_HP) (Q : Option Value → a_HP → Prop) : Rn 76 60 ls st σ Q = acR 76 (o_pi (nI 0) 61 ls st σ) ls σ Q := rn_row rfl ls st σ Q
theorem r_76_61 (ls : a_LS) (st : List Value) (σ : a_HP) (Q : Option Value → a_HP → Prop) : Rn 76 61 ls st σ Q = acR 76 (o_sti 5 63 ls st σ) ls σ Q := rn_row rfl ls st σ Q
theorem r_76_63 (ls : a_LS) (st : List Value) (σ : a_HP) (Q : Option Value → a_HP → Prop) : Rn 76 63 ls st σ Q = acR 76 (o_pi (-1) 64 ls st σ) ls σ Q := rn_row rfl ls st σ Q
theorem r_76_64 (ls : a_LS) (st : List Value) (σ : a_HP) (Q : Option Value → a_HP → Prop) : Rn 76 64 ls st σ Q = acR 76 (o_sti 6 66 ls st σ) ls σ Q := rn_row rfl ls st σ Q
theorem r_76_66 (ls : a_LS) (st : List Value) (σ : a_HP) (Q : Option Value → a_HP → Prop) : Rn 76 66 ls st σ Q = acR 76 (o_lda 0 67 ls st σ) ls σ Q := rn_row rfl ls st σ Q
theorem r_76_67 (ls : a_LS) (st : List Value) (σ : a_HP) (Q : Option Value → a_HP → Prop) : Rn 76 67 ls st σ Q = acR 76 (o_get 7 7 70 ls st σ) ls σ Q := rn_row rfl ls st σ Q
theorem r_76_70 (ls : a_LS) (st : List Value) (σ : a_HP) (Q : Option Value → a_HP → Prop) : Rn 76 70 ls st σ Q = acR 76 (o_lda 0 71 ls st σ) ls σ Q := rn_row rfl ls st σ Q
theorem r_76_71 (ls : a_LS) (st : List Value) (σ : a_HP) (Q : Option Value → a_HP → Prop) : Rn 76 71 ls st σ Q = acR 76 (o_get 7 0 74 ls st σ) ls σ Q := rn_row rfl ls st σ Q
theorem r_76_74 (ls : a_LS) (st : List Value) (σ : a_HP) (Q : Option Value → a_HP → Prop) : Rn 76 74 ls st σ Q = acR 76 (o_ivv 3 17 1 77 ls st σ) ls σ Q := rn_row rfl ls st σ Q
theorem r_76_77 (ls : a_LS) (st : List Value) (σ : a_HP) (Q : Option Value → a_HP → Prop) : Rn 76 77 ls st σ Q = acR 76 (o_pi (nI 0) 78 ls st σ) ls σ Q := rn_row rfl ls st σ Q
theorem r_76_78 (ls : a_LS) (st : List Value) (σ : a_HP) (Q : Option Value → a_HP → Prop) : Rn 76 78 ls st σ Q = acR 76 (o_sti 7 80 ls st σ) ls σ Q := rn_row rfl ls st σ Q
theorem r_76_80 (ls : a_LS) (st : List Value) (σ : a_HP) (Q : Option Value → a_HP → Prop) : Rn 76 80 ls st σ Q = acR 76 (o_ldi 7 82 ls st σ) ls σ Q := rn_row rfl ls st σ Q
theorem r_76_82 (ls : a_LS) (st : List Value) (σ : a_HP) (Q : Option Value → a_HP → Prop) : Rn 76 82 ls st σ Q = acR 76 (o_pi (nI 6) 84 ls st σ) ls σ Q := rn_row rfl ls st σ Q
theorem r_76_84 (ls : a_LS) (st : List Value) (σ : a_HP) (Q : Option Value → a_HP → Prop) : Rn 76 84 ls st σ Q = acR 76 (o_cge 160 87 ls st σ) ls σ Q := rn_row rfl ls st σ Q
theorem r_76_87 (ls : a_LS) (st : List Value) (σ : a_HP) (Q : Option Value → a_HP → Prop) : Rn 76 87 ls st σ Q = acR 76 (o_pi (nI 1) 88 ls st σ) ls σ Q := rn_row rfl ls st σ Q
theorem r_76_88 (ls : a_LS) (st : List Value) (σ : a_HP) (Q : Option Value → a_HP → Prop) : Rn 76 88 ls st σ Q = acR 76 (o_sti 8 90 ls st σ) ls σ Q := rn_row rfl ls st σ Q
theorem r_76_90 (ls : a_LS) (st : List Value) (σ : a_HP) (Q : Option Value → a_HP → Prop) : Rn 76 90 ls st σ Q = acR 76 (o_ldi 8 92 ls st σ) ls σ Q := rn_row rfl ls st σ Q
theorem r_76_92 (ls : a_LS) (st : List Value) (σ : a_HP) (Q : Option Value → a_HP → Prop) : Rn 76 92 ls st σ Q = acR 76 (o_pi (nI 9) 94 ls st σ) ls σ Q := rn_row rfl ls st σ Q
theorem r_76_94 (ls : a_LS) (st : List Value) (σ : a_HP) (Q : Option Value → a_HP → Prop) : Rn 76 94 ls st σ Q = acR 76 (o_cgt 154 97 ls st σ) ls σ Q := rn_row rfl ls st σ Q
theorem r_76_97 (ls : a_LS) (st : List Value) (σ : a_HP) (Q : Option Value → a_HP → Prop) : Rn 76 97 ls st σ Q = acR 76 (o_lda 0 98 ls st σ) ls σ Q := rn_row rfl ls st σ Q
theorem r_76_98 (ls : a_LS) (st : List Value) (σ : a_HP) (Q : Option Value → a_HP → Prop) : Rn 76 98 ls st σ Q = acR 76 (o_get 7 7 101 ls st σ) ls σ Q := rn_row rfl ls st σ Q
theorem r_76_101 (ls : a_LS) (st : List Value) (σ : a_HP) (Q : Option Value → a_HP → Prop) : Rn 76 101 ls st σ Q = acR 76 (o_ldi 1 102 ls st σ) ls σ Q := rn_row rfl ls st σ Q
theorem r_76_102 (ls : a_LS) (st : List Value) (σ : a_HP) (Q : Option Value → a_HP → Prop) : Rn 76 102 ls st σ Q = acR 76 (o_ldi 7 104 ls st σ) ls σ Q := rn_row rfl ls st σ Q
theorem r_76_104 (ls : a_LS) (st : List Value) (σ : a_HP) (Q : Option Value → a_HP → Prop) : Rn 76 104 ls st σ Q = acR 76 (o_ldi 8 106 ls st σ) ls σ Q := rn_row rfl ls st σ Q
theorem r_76_106 (ls : a_LS) (st : List Value) (σ : a_HP) (Q : Option Value → a_HP → Prop) : Rn 76 106 ls st σ Q = acR 76 (o_pi (nI 0) 107 ls st σ) ls σ Q := rn_row rfl ls st σ Q
theorem r_76_107 (ls : a_LS) (st : List Value) (σ : a_HP) (Q : Option Value → a_HP → Prop) : Rn 76 107 ls st σ Q = acR 76 (o_ivv 3 18 4 110 ls st σ) ls σ Q := rn_row rfl ls st σ Q
theorem r_76_110 (ls : a_LS) (st : List Value) (σ : a_HP) (Q : Option Value → a_HP → Prop) : Rn 76 110 ls st σ Q = acR 76 (o_lda 0 111 ls st σ) ls σ Q := rn_row rfl ls st σ Q
theorem r_76_111 (ls : a_LS) (st : List Value) (σ : a_HP) (Q : Option Value → a_HP → Prop) : Rn 76 111 ls st σ Q = acR 76 (o_get 7 7 114 ls st σ) ls σ Q := rn_row rfl ls st σ Q
theorem r_76_114 (ls : a_LS) (st : List Value) (σ : a_HP) (Q : Option Value → a_HP → Prop) : Rn 76 114 ls st σ Q = acR 76 (o_ivv 3 26 0 117 ls st σ) ls σ Q := rn_row rfl ls st σ Q
theorem r_76_117 (ls : a_LS) (st : List Value) (σ : a_HP) (Q : Option Value → a_HP → Prop) : Rn 76 117 ls st σ Q = acR 76 (o_ldi 4 119 ls st σ) ls σ Q := rn_row rfl ls st σ Q
theorem r_76_119 (ls : a_LS) (st : List Value) (σ : a_HP) (Q : Option Value → a_HP → Prop) : Rn 76 119 ls st σ Q = acR 76 (o_bi f_and 120 ls st σ) ls σ Q := rn_row rfl ls st σ Q
theorem r_76_120 (ls : a_LS) (st : List Value) (σ : a_HP) (Q : Option Value → a_HP → Prop) : Rn 76 120 ls st σ Q = acR 76 (o_ldi 2 121 ls st σ) ls σ Q := rn_row rfl ls st σ Q
theorem r_76_121 (ls : a_LS) (st : List Value) (σ : a_HP) (Q : Option Value → a_HP → Prop) : Rn 76 121 ls st σ Q = acR 76 (o_cne 148 124 ls st σ) ls σ Q := rn_row rfl ls st σ Q
theorem r_76_124 (ls : a_LS) (st : List Value) (σ : a_HP) (Q : Option Value → a_HP → Prop) : Rn 76 124 ls st σ Q = acR 76 (o_inc 5 (nI 1) 127 ls st σ) ls σ Q := rn_row rfl ls st σ Q
theorem r_76_127 (ls : a_LS) (st : List Value) (σ : a_HP) (Q : Option Value → a_HP → Prop) : Rn 76 127 ls st σ Q = acR 76 (o_ldi 6 129 ls st σ) ls σ Q := rn_row rfl ls st σ Q
theorem r_76_129 (ls : a_LS) (st : List Value) (σ : a_HP) (Q : Option Value → a_HP → Prop) : Rn 76 129 ls st σ Q = acR 76 (o_pi (-1) 130 ls st σ) ls σ Q := rn_row rfl ls st σ Q
theorem r_76_130 (ls : a_LS) (st : List Value) (σ : a_HP) (Q : Option Value → a_HP → Prop) : Rn 76 130 ls st σ Q = acR 76 (o_cne 144 133 ls st σ) ls σ Q := rn_row rfl ls st σ Q
theorem r_76_133 (ls : a_LS) (st : List Value) (σ : a_HP) (Q : Option Value → a_HP → Prop) : Rn 76 133 ls st σ Q = acR 76 (o_pi (nI 10) 135 ls st σ) ls σ Q := rn_row rfl ls st σ Q
theorem r_76_135 (ls : a_LS) (st : List Value) (σ : a_HP) (Q : Option Value → a_HP → Prop) : Rn 76 135 ls st σ Q = acR 76 (o_ldi 7 137 ls st σ) ls σ Q := rn_row rfl ls st σ Q
theorem r_76_137 (ls : a_LS) (st : List Value) (σ : a_HP) (Q : Option Value → a_HP → Prop) : Rn 76 137 ls st σ Q = acR 76 (o_bi f_mul 138 ls st σ) ls σ Q := rn_row rfl ls st σ Q
theorem r_76_138 (ls : a_LS) (st : List Value) (σ : a_HP) (Q : Option Value → a_HP → Prop) : Rn 76 138 ls st σ Q = acR 76 (o_ldi 8 140 ls st σ) ls σ Q := rn_row rfl ls st σ Q
theorem r_76_140 (ls : a_LS) (st : List Value) (σ : a_HP) (Q : Option Value → a_HP → Prop) : Rn 76 140 ls st σ Q = acR 76 (o_bi f_add 141 ls st σ) ls σ Q := rn_row rfl ls st σ Q
theorem r_76_141 (ls : a_LS) (st : List Value) (σ : a_HP) (Q : Option Value → a_HP → Prop) : Rn 76 141 ls st σ Q = acR 76 (o_go 146 ls st σ) ls σ Q := rn_row rfl ls st σ Q
theorem r_76_144 (ls : a_LS) (st : List Value) (σ : a_HP) (Q : Option Value → a_HP → Prop) : Rn 76 144 ls st σ Q = acR 76 (o_ldi 6 146 ls st σ) ls σ Q := rn_row rfl ls st σ Q
theorem r_76_146 (ls : a_LS) (st : List Value) (σ : a_HP) (Q : Option Value → a_HP → Prop) : Rn 76 146 ls st σ Q = acR 76 (o_sti 6 148 ls st σ) ls σ Q := rn_row rfl ls st σ Q
theorem r_76_148 (ls : a_LS) (st : List Value) (σ : a_HP) (Q : Option Value → a_HP → Prop) : Rn 76 148 ls st σ Q = acR 76 (o_inc 8 (nI 1) 151 ls st σ) ls σ Q := rn_row rfl ls st σ Q
theorem r_76_151 (ls : a_LS) (st : List Value) (σ : a_HP) (Q : Option Value → a_HP → Prop) : Rn 76 151 ls st σ Q = acR 76 (o_go 90 ls st σ) ls σ Q := rn_row rfl ls st σ Q
theorem r_76_154 (ls : a_LS) (st : List Value) (σ : a_HP) (Q : Option Value → a_HP → Prop) : Rn 76 154 ls st σ Q = acR 76 (o_inc 7 (nI 1) 157 ls st σ) ls σ Q := rn_row rfl ls st σ Q
theorem r_76_157 (ls : a_LS) (st : List Value) (σ : a_HP) (Q : Option Value → a_HP → Prop) : Rn 76 157 ls st σ Q = acR 76 (o_go 80 ls st σ) ls σ Q := rn_row rfl ls st σ Q
theorem r_76_160 (ls : a_LS) (st : List Value) (σ : a_HP) (Q : Option Value → a_HP → Prop) : Rn 76 160 ls st σ Q = acR 76 (o_ldi 3 161 ls st σ) ls σ Q := rn_row rfl ls st σ Q
theorem r_76_161 (ls : a_LS) (st : List Value) (σ : a_HP) (Q : Option Value → a_HP → Prop) : Rn 76 161 ls st σ Q = acR 76 (o_ne 169 164 ls st σ) ls σ Q := rn_row rfl ls st σ Q
theorem r_76_164 (ls : a_LS) (st : List Value) (σ : a_HP) (Q : Option Value → a_HP → Prop) : Rn 76 164 ls st σ Q = acR 76 (o_ldi 5 166 ls st σ) ls σ Q := rn_row rfl ls st σ Q
theorem r_76_166 (ls : a_LS) (st : List Value) (σ : a_HP) (Q : Option Value → a_HP → Prop) : Rn 76 166 ls st σ Q = acR 76 (o_go 171 ls st σ) ls σ Q := rn_row rfl ls st σ Q
theorem r_76_169 (ls : a_LS) (st : List Value) (σ : a_HP) (Q : Option Value → a_HP → Prop) : Rn 76 169 ls st σ Q = acR 76 (o_ldi 6 171 ls st σ) ls σ Q := rn_row rfl ls st σ Q
theorem r_76_171 (ls : a_LS) (st : List Value) (σ : a_HP) (Q : Option Value → a_HP → Prop) : Rn 76 171 ls st σ Q = acR 76 (o_ri ls st σ) ls σ Q := rn_row rfl ls st σ Q
/-! 77: NetLaw.menders(IIII)I -/
theorem cl_77 (x0 : Nat) (x1 : Int32) (x2 : Int32) (x3 : Int32) (x4 : Int32) (σ : a_HP) (Q : Option Value → a_HP → Prop) : Cl 77 [.ref x0, .int x1, .int x2, .int x3, .int x4] σ Q = Rn 77 0 [some (.ref x0), some (.int x1), some (.int x2), some (.int x3), some (.int x4), none, none, none, none, none] [] σ Q := cl_of (Nat.le_of_ble_eq_true rfl) rfl σ Q
theorem r_77_0 (ls : a_LS) (st : List Value) (σ : a_HP) (Q : Option Value → a_HP → Prop) : Rn 77 0 ls st σ Q = acR 77 (o_ldi 1 1 ls st σ) ls σ Q := rn_row rfl ls st σ Q
theorem r_77_1 (ls : a_LS) (st : List Value) (σ : a_HP) (Q : Option Value → a_HP → Prop) : Rn 77 1 ls st σ Q = acR 77 (o_ivs 93 1 4 ls st σ) ls σ Q := rn_row rfl ls st σ Q
theorem r_77_4 (ls : a_LS) (st : List Value) (σ : a_HP) (Q : Option Value → a_HP → Prop) : Rn 77 4 ls st σ Q = acR 77 (o_eq 19 7 ls st σ) ls σ Q := rn_row rfl ls st σ Q
theorem r_77_7 (ls : a_LS) (st : List Value) (σ : a_HP) (Q : Option Value → a_HP → Prop) : Rn 77 7 ls st σ Q = acR 77 (o_ldi 2 8 ls st σ) ls σ Q := rn_row rfl ls st σ Q
theorem r_77_8 (ls : a_LS) (st : List Value) (σ : a_HP) (Q : Option Value → a_HP → Prop) : Rn 77 8 ls st σ Q = acR 77 (o_ivs 93 1 11 ls st σ) ls σ Q := rn_row rfl ls st σ Q
theorem r_77_11 (ls : a_LS) (st : List Value) (σ : a_HP) (Q : Option Value → a_HP → Prop) : Rn 77 11 ls st σ Q = acR 77 (o_eq 19 14 ls st σ) ls σ Q := rn_row rfl ls st σ Q
theorem r_77_14 (ls : a_LS) (st : List Value) (σ : a_HP) (Q : Option Value → a_HP → Prop) : Rn 77 14 ls st σ Q = acR 77 (o_ldi 1 15 ls st σ) ls σ Q := rn_row rfl ls st σ Q
theorem r_77_15 (ls : a_LS) (st : List Value) (σ : a_HP) (Q : Option Value → a_HP → Prop) : Rn 77 15 ls st σ Q = acR 77 (o_ldi 2 16 ls st σ) ls σ Q := rn_row rfl ls st σ Q
theorem r_77_16 (ls : a_LS) (st : List Value) (σ : a_HP) (Q : Option Value → a_HP → Prop) : Rn 77 16 ls st σ Q = acR 77 (o_cne 24 19 ls st σ) ls σ Q := rn_row rfl ls st σ Q
theorem r_77_19 (ls : a_LS) (st : List Value) (σ : a_HP) (Q : Option Value → a_HP → Prop) : Rn 77 19 ls st σ Q = acR 77 (o_lda 0 20 ls st σ) ls σ Q := rn_row rfl ls st σ Q
theorem r_77_20 (ls : a_LS) (st : List Value) (σ : a_HP) (Q : Option Value → a_HP → Prop) : Rn 77 20 ls st σ Q = acR 77 (o_ivv 7 88 0 23 ls st σ) ls σ Q := rn_row rfl ls st σ Q
theorem r_77_23 (ls : a_LS) (st : List Value) (σ : a_HP) (Q : Option Value → a_HP → Prop) : Rn 77 23 ls st σ Q = acR 77 (o_ri ls st σ) ls σ Q := rn_row rfl ls st σ Q
theorem r_77_24 (ls : a_LS) (st : List Value) (σ : a_HP) (Q : Option Value → a_HP → Prop) : Rn 77 24 ls st σ Q = acR 77 (o_ldi 3 25 ls st σ) ls σ Q := rn_row rfl ls st σ Q
theorem r_77_25 (ls : a_LS) (st : List Value) (σ : a_HP) (Q : Option Value → a_HP → Prop) : Rn 77 25 ls st σ Q = acR 77 (o_pi (nI 1) 26 ls st σ) ls σ Q := rn_row rfl ls st σ Q
theorem r_77_26 (ls : a_LS) (st : List Value) (σ : a_HP) (Q : Option Value → a_HP → Prop) : Rn 77 26 ls st σ Q = acR 77 (o_pi (nI 9) 28 ls st σ) ls σ Q := rn_row rfl ls st σ Q
theorem r_77_28 (ls : a_LS) (st : List Value) (σ : a_HP) (Q : Option Value → a_HP → Prop) : Rn 77 28 ls st σ Q = acR 77 (o_ivs 91 3 31 ls st σ) ls σ Q := rn_row rfl ls st σ Q
theorem r_77_31 (ls : a_LS) (st : List Value) (σ : a_HP) (Q : Option Value → a_HP → Prop) : Rn 77 31 ls st σ Q = acR 77 (o_eq 44 34 ls st σ) ls σ Q := rn_row rfl ls st σ Q
theorem r_77_34 (ls : a_LS) (st : List Value) (σ : a_HP) (Q : Option Value → a_HP → Prop) : Rn 77 34 ls st σ Q = acR 77 (o_ldi 4 36 ls st σ) ls σ Q := rn_row rfl ls st σ Q
theorem r_77_36 (ls : a_LS) (st : List Value) (σ : a_HP) (Q : Option Value → a_HP → Prop) : Rn 77 36 ls st σ Q = acR 77 (o_pi (nI 0) 37 ls st σ) ls σ Q := rn_row rfl ls st σ Q
theorem r_77_37 (ls : a_LS) (st : List Value) (σ : a_HP) (Q : Option Value → a_HP → Prop) : Rn 77 37 ls st σ Q = acR 77 (o_pi (nI 1) 38 ls st σ) ls σ Q := rn_row rfl ls st σ Q
theorem r_77_38 (ls : a_LS) (st : List Value) (σ : a_HP) (Q : Option Value → a_HP → Prop) : Rn 77 38 ls st σ Q = acR 77 (o_ivs 91 3 41 ls st σ) ls σ Q := rn_row rfl ls st σ Q
theorem r_77_41 (ls : a_LS) (st : List Value) (σ : a_HP) (Q : Option Value → a_HP → Prop) : Rn 77 41 ls st σ Q = acR 77 (o_ne 49 44 ls st σ) ls σ Q := rn_row rfl ls st σ Q
theorem r_77_44 (ls : a_LS) (st : List Value) (σ : a_HP) (Q : Option Value → a_HP → Prop) : Rn 77 44 ls st σ Q = acR 77 (o_lda 0 45 ls st σ) ls σ Q := rn_row rfl ls st σ Q
theorem r_77_45 (ls : a_LS) (st : List Value) (σ : a_HP) (Q : Option Value → a_HP → Prop) : Rn 77 45 ls st σ Q = acR 77 (o_ivv 7 88 0 48 ls st σ) ls σ Q := rn_row rfl ls st σ Q
theorem r_77_48 (ls : a_LS) (st : List Value) (σ : a_HP) (Q : Option Value → a_HP → Prop) : Rn 77 48 ls st σ Q = acR 77 (o_ri ls st σ) ls σ Q := rn_row rfl ls st σ Q
theorem r_77_49 (ls : a_LS) (st : List Value) (σ : a_HP) (Q : Option Value → a_HP → Prop) : Rn 77 49 ls st σ Q = acR 77 (o_lda 0 50 ls st σ) ls σ Q := rn_row rfl ls st σ Q
theorem r_77_50 (ls : a_LS) (st : List Value) (σ : a_HP) (Q : Option Value → a_HP → Prop) : Rn 77 50 ls st σ Q = acR 77 (o_ldi 1 51 ls st σ) ls σ Q := rn_row rfl ls st σ Q
theorem r_77_51 (ls : a_LS) (st : List Value) (σ : a_HP) (Q : Option Value → a_HP → Prop) : Rn 77 51 ls st σ Q = acR 77 (o_ldi 2 52 ls st σ) ls σ Q := rn_row rfl ls st σ Q
theorem r_77_52 (ls : a_LS) (st : List Value) (σ : a_HP) (Q : Option Value → a_HP → Prop) : Rn 77 52 ls st σ Q = acR 77 (o_ldi 3 53 ls st σ) ls σ Q := rn_row rfl ls st σ Q
theorem r_77_53 (ls : a_LS) (st : List Value) (σ : a_HP) (Q : Option Value → a_HP → Prop) : Rn 77 53 ls st σ Q = acR 77 (o_ivv 7 112 3 56 ls st σ) ls σ Q := rn_row rfl ls st σ Q
theorem r_77_56 (ls : a_LS) (st : List Value) (σ : a_HP) (Q : Option Value → a_HP → Prop) : Rn 77 56 ls st σ Q = acR 77 (o_pi (nI 0) 57 ls st σ) ls σ Q := rn_row rfl ls st σ Q
theorem r_77_57 (ls : a_LS) (st : List Value) (σ : a_HP) (Q : Option Value → a_HP → Prop) : Rn 77 57 ls st σ Q = acR 77 (o_sti 5 59 ls st σ) ls σ Q := rn_row rfl ls st σ Q
theorem r_77_59 (ls : a_LS) (st : List Value) (σ : a_HP) (Q : Option Value → a_HP → Prop) : Rn 77 59 ls st σ Q = acR 77 (o_pi (-1) 60 ls st σ) ls σ Q := rn_row rfl ls st σ Q
theorem r_77_60 (ls : a_LS) (st : List Value) (σ : a_HP) (Q : Option Value → a_HP → Prop) : Rn 77 60 ls st σ Q = acR 77 (o_sti 6 62 ls st σ) ls σ Q := rn_row rfl ls st σ Q
theorem r_77_62 (ls : a_LS) (st : List Value) (σ : a_HP) (Q : Option Value → a_HP → Prop) : Rn 77 62 ls st σ Q = acR 77 (o_pi (nI 0) 63 ls st σ) ls σ Q := rn_row rfl ls st σ Q
theorem r_77_63 (ls : a_LS) (st : List Value) (σ : a_HP) (Q : Option Value → a_HP → Prop) : Rn 77 63 ls st σ Q = acR 77 (o_sti 7 65 ls st σ) ls σ Q := rn_row rfl ls st σ Q
theorem r_77_65 (ls : a_LS) (st : List Value) (σ : a_HP) (Q : Option Value → a_HP → Prop) : Rn 77 65 ls st σ Q = acR 77 (o_ldi 7 67 ls st σ) ls σ Q := rn_row rfl ls st σ Q
theorem r_77_67 (ls : a_LS) (st : List Value) (σ : a_HP) (Q : Option Value → a_HP → Prop) : Rn 77 67 ls st σ Q = acR 77 (o_pi (nI 5) 68 ls st σ) ls σ Q := rn_row rfl ls st σ Q
theorem r_77_68 (ls : a_LS) (st : List Value) (σ : a_HP) (Q : Option Value → a_HP → Prop) : Rn 77 68 ls st σ Q = acR 77 (o_cge 161 71 ls st σ) ls σ Q := rn_row rfl ls st σ Q
theorem r_77_71 (ls : a_LS) (st : List Value) (σ : a_HP) (Q : Option Value → a_HP → Prop) : Rn 77 71 ls st σ Q = acR 77 (o_pi (nI 0) 72 ls st σ) ls σ Q := rn_row rfl ls st σ Q
theorem r_77_72 (ls : a_LS) (st : List Value) (σ : a_HP) (Q : Option Value → a_HP → Prop) : Rn 77 72 ls st σ Q = acR 77 (o_sti 8 74 ls st σ) ls σ Q := rn_row rfl ls st σ Q
theorem r_77_74 (ls : a_LS) (st : List Value) (σ : a_HP) (Q : Option Value → a_HP → Prop) : Rn 77 74 ls st σ Q = acR 77 (o_ldi 8 76 ls st σ) ls σ Q := rn_row rfl ls st σ Q
theorem r_77_76 (ls : a_LS) (st : List Value) (σ : a_HP) (Q : Option Value → a_HP → Prop) : Rn 77 76 ls st σ Q = acR 77 (o_pi (nI 5) 77 ls st σ) ls σ Q := rn_row rfl ls st σ Q
theorem r_77_77 (ls : a_LS) (st : List Value) (σ : a_HP) (Q : Option Value → a_HP → Prop) : Rn 77 77 ls st σ Q = acR 77 (o_cge 155 80 ls st σ) ls σ Q := rn_row rfl ls st σ Q
theorem r_77_80 (ls : a_LS) (st : List Value) (σ : a_HP) (Q : Option Value → a_HP → Prop) : Rn 77 80 ls st σ Q = acR 77 (o_lda 0 81 ls st σ) ls σ Q := rn_row rfl ls st σ Q
theorem r_77_81 (ls : a_LS) (st : List Value) (σ : a_HP) (Q : Option Value → a_HP → Prop) : Rn 77 81 ls st σ Q = acR 77 (o_ldi 1 82 ls st σ) ls σ Q := rn_row rfl ls st σ Q
theorem r_77_82 (ls : a_LS) (st : List Value) (σ : a_HP) (Q : Option Value → a_HP → Prop) : Rn 77 82 ls st σ Q = acR 77 (o_ldi 7 84 ls st σ) ls σ Q := rn_row rfl ls st σ Q
theorem r_77_84 (ls : a_LS) (st : List Value) (σ : a_HP) (Q : Option Value → a_HP → Prop) : Rn 77 84 ls st σ Q = acR 77 (o_ivv 7 111 2 87 ls st σ) ls σ Q := rn_row rfl ls st σ Q
theorem r_77_87 (ls : a_LS) (st : List Value) (σ : a_HP) (Q : Option Value → a_HP → Prop) : Rn 77 87 ls st σ Q = acR 77 (o_eq 149 90 ls st σ) ls σ Q := rn_row rfl ls st σ Q
theorem r_77_90 (ls : a_LS) (st : List Value) (σ : a_HP) (Q : Option Value → a_HP → Prop) : Rn 77 90 ls st σ Q = acR 77 (o_lda 0 91 ls st σ) ls σ Q := rn_row rfl ls st σ Q
theorem r_77_91 (ls : a_LS) (st : List Value) (σ : a_HP) (Q : Option Value → a_HP → Prop) : Rn 77 91 ls st σ Q = acR 77 (o_ldi 2 92 ls st σ) ls σ Q := rn_row rfl ls st σ Q
theorem r_77_92 (ls : a_LS) (st : List Value) (σ : a_HP) (Q : Option Value → a_HP → Prop) : Rn 77 92 ls st σ Q = acR 77 (o_ldi 8 94 ls st σ) ls σ Q := rn_row rfl ls st σ Q
theorem r_77_94 (ls : a_LS) (st : List Value) (σ : a_HP) (Q : Option Value → a_HP → Prop) : Rn 77 94 ls st σ Q = acR 77 (o_ivv 7 111 2 97 ls st σ) ls σ Q := rn_row rfl ls st σ Q
theorem r_77_97 (ls : a_LS) (st : List Value) (σ : a_HP) (Q : Option Value → a_HP → Prop) : Rn 77 97 ls st σ Q = acR 77 (o_eq 149 100 ls st σ) ls σ Q := rn_row rfl ls st σ Q
theorem r_77_100 (ls : a_LS) (st : List Value) (σ : a_HP) (Q : Option Value → a_HP → Prop) : Rn 77 100 ls st σ Q = acR 77 (o_lda 0 101 ls st σ) ls σ Q := rn_row rfl ls st σ Q
theorem r_77_101 (ls : a_LS) (st : List Value) (σ : a_HP) (Q : Option Value → a_HP → Prop) : Rn 77 101 ls st σ Q = acR 77 (o_ldi 1 102 ls st σ) ls σ Q := rn_row rfl ls st σ Q
theorem r_77_102 (ls : a_LS) (st : List Value) (σ : a_HP) (Q : Option Value → a_HP → Prop) : Rn 77 102 ls st σ Q = acR 77 (o_ldi 2 103 ls st σ) ls σ Q := rn_row rfl ls st σ Q
theorem r_77_103 (ls : a_LS) (st : List Value) (σ : a_HP) (Q : Option Value → a_HP → Prop) : Rn 77 103 ls st σ Q = acR 77 (o_ldi 7 105 ls st σ) ls σ Q := rn_row rfl ls st σ Q
theorem r_77_105 (ls : a_LS) (st : List Value) (σ : a_HP) (Q : Option Value → a_HP → Prop) : Rn 77 105 ls st σ Q = acR 77 (o_ldi 8 107 ls st σ) ls σ Q := rn_row rfl ls st σ Q
theorem r_77_107 (ls : a_LS) (st : List Value) (σ : a_HP) (Q : Option Value → a_HP → Prop) : Rn 77 107 ls st σ Q = acR 77 (o_ivv 7 116 4 110 ls st σ) ls σ Q := rn_row rfl ls st σ Q
theorem r_77_110 (ls : a_LS) (st : List Value) (σ : a_HP) (Q : Option Value → a_HP → Prop) : Rn 77 110 ls st σ Q = acR 77 (o_eq 149 113 ls st σ) ls σ Q := rn_row rfl ls st σ Q
theorem r_77_113 (ls : a_LS) (st : List Value) (σ : a_HP) (Q : Option Value → a_HP → Prop) : Rn 77 113 ls st σ Q = acR 77 (o_inc 5 (nI 1) 116 ls st σ) ls σ Q := rn_row rfl ls st σ Q
theorem r_77_116 (ls : a_LS) (st : List Value) (σ : a_HP) (Q : Option Value → a_HP → Prop) : Rn 77 116 ls st σ Q = acR 77 (o_pi (nI 17) 118 ls st σ) ls σ Q := rn_row rfl ls st σ Q
theorem r_77_118 (ls : a_LS) (st : List Value) (σ : a_HP) (Q : Option Value → a_HP → Prop) : Rn 77 118 ls st σ Q = acR 77 (o_ldi 1 119 ls st σ) ls σ Q := rn_row rfl ls st σ Q
theorem r_77_119 (ls : a_LS) (st : List Value) (σ : a_HP) (Q : Option Value → a_HP → Prop) : Rn 77 119 ls st σ Q = acR 77 (o_ldi 7 121 ls st σ) ls σ Q := rn_row rfl ls st σ Q
theorem r_77_121 (ls : a_LS) (st : List Value) (σ : a_HP) (Q : Option Value → a_HP → Prop) : Rn 77 121 ls st σ Q = acR 77 (o_ivs 110 2 124 ls st σ) ls σ Q := rn_row rfl ls st σ Q
theorem r_77_124 (ls : a_LS) (st : List Value) (σ : a_HP) (Q : Option Value → a_HP → Prop) : Rn 77 124 ls st σ Q = acR 77 (o_bi f_mul 125 ls st σ) ls σ Q := rn_row rfl ls st σ Q
theorem r_77_125 (ls : a_LS) (st : List Value) (σ : a_HP) (Q : Option Value → a_HP → Prop) : Rn 77 125 ls st σ Q = acR 77 (o_ldi 2 126 ls st σ) ls σ Q := rn_row rfl ls st σ Q
theorem r_77_126 (ls : a_LS) (st : List Value) (σ : a_HP) (Q : Option Value → a_HP → Prop) : Rn 77 126 ls st σ Q = acR 77 (o_ldi 8 128 ls st σ) ls σ Q := rn_row rfl ls st σ Q
theorem r_77_128 (ls : a_LS) (st : List Value) (σ : a_HP) (Q : Option Value → a_HP → Prop) : Rn 77 128 ls st σ Q = acR 77 (o_ivs 110 2 131 ls st σ) ls σ Q := rn_row rfl ls st σ Q
theorem r_77_131 (ls : a_LS) (st : List Value) (σ : a_HP) (Q : Option Value → a_HP → Prop) : Rn 77 131 ls st σ Q = acR 77 (o_bi f_add 132 ls st σ) ls σ Q := rn_row rfl ls st σ Q
theorem r_77_132 (ls : a_LS) (st : List Value) (σ : a_HP) (Q : Option Value → a_HP → Prop) : Rn 77 132 ls st σ Q = acR 77 (o_sti 9 134 ls st σ) ls σ Q := rn_row rfl ls st σ Q
theorem r_77_134 (ls : a_LS) (st : List Value) (σ : a_HP) (Q : Option Value → a_HP → Prop) : Rn 77 134 ls st σ Q = acR 77 (o_ldi 6 136 ls st σ) ls σ Q := rn_row rfl ls st σ Q
theorem r_77_136 (ls : a_LS) (st : List Value) (σ : a_HP) (Q : Option Value → a_HP → Prop) : Rn 77 136 ls st σ Q = acR 77 (o_pi (-1) 137 ls st σ) ls σ Q := rn_row rfl ls st σ Q
theorem r_77_137 (ls : a_LS) (st : List Value) (σ : a_HP) (Q : Option Value → a_HP → Prop) : Rn 77 137 ls st σ Q = acR 77 (o_cne 145 140 ls st σ) ls σ Q := rn_row rfl ls st σ Q
theorem r_77_140 (ls : a_LS) (st : List Value) (σ : a_HP) (Q : Option Value → a_HP → Prop) : Rn 77 140 ls st σ Q = acR 77 (o_ldi 9 142 ls st σ) ls σ Q := rn_row rfl ls st σ Q
theorem r_77_142 (ls : a_LS) (st : List Value) (σ : a_HP) (Q : Option Value → a_HP → Prop) : Rn 77 142 ls st σ Q = acR 77 (o_go 147 ls st σ) ls σ Q := rn_row rfl ls st σ Q
theorem r_77_145 (ls : a_LS) (st : List Value) (σ : a_HP) (Q : Option Value → a_HP → Prop) : Rn 77 145 ls st σ Q = acR 77 (o_ldi 6 147 ls st σ) ls σ Q := rn_row rfl ls st σ Q
theorem r_77_147 (ls : a_LS) (st : List Value) (σ : a_HP) (Q : Option Value → a_HP → Prop) : Rn 77 147 ls st σ Q = acR 77 (o_sti 6 149 ls st σ) ls σ Q := rn_row rfl ls st σ Q
theorem r_77_149 (ls : a_LS) (st : List Value) (σ : a_HP) (Q : Option Value → a_HP → Prop) : Rn 77 149 ls st σ Q = acR 77 (o_inc 8 (nI 1) 152 ls st σ) ls σ Q := rn_row rfl ls st σ Q
theorem r_77_152 (ls : a_LS) (st : List Value) (σ : a_HP) (Q : Option Value → a_HP → Prop) : Rn 77 152 ls st σ Q = acR 77 (o_go 74 ls st σ) ls σ Q := rn_row rfl ls st σ Q
theorem r_77_155 (ls : a_LS) (st : List Value) (σ : a_HP) (Q : Option Value → a_HP → Prop) : Rn 77 155 ls st σ Q = acR 77 (o_inc 7 (nI 1) 158 ls st σ) ls σ Q := rn_row rfl ls st σ Q
theorem r_77_158 (ls : a_LS) (st : List Value) (σ : a_HP) (Q : Option Value → a_HP → Prop) : Rn 77 158 ls st σ Q = acR 77 (o_go 65 ls st σ) ls σ Q := rn_row rfl ls st σ Q
theorem r_77_161 (ls : a_LS) (st : List Value) (σ : a_HP) (Q : Option Value → a_HP → Prop) : Rn 77 161 ls st σ Q = acR 77 (o_ldi 4 163 ls st σ) ls σ Q := rn_row rfl ls st σ Q
theorem r_77_163 (ls : a_LS) (st : List Value) (σ : a_HP) (Q : Option Value → a_HP → Prop) : Rn 77 163 ls st σ Q = acR 77 (o_ne 171 166 ls st σ) ls σ Q := rn_row rfl ls st σ Q
theorem r_77_166 (ls : a_LS) (st : List Value) (σ : a_HP) (Q : Option Value → a_HP → Prop) : Rn 77 166 ls st σ Q = acR 77 (o_ldi 5 168 ls st σ) ls σ Q := rn_row rfl ls st σ Q
theorem r_77_168 (ls : a_LS) (st : List Value) (σ : a_HP) (Q : Option Value → a_HP → Prop) : Rn 77 168 ls st σ Q = acR 77 (o_go 173 ls st σ) ls σ Q := rn_row rfl ls st σ Q
theorem r_77_171 (ls : a_LS) (st : List Value) (σ : a_HP) (Q : Option Value → a_HP → Prop) : Rn 77 171 ls st σ Q = acR 77 (o_ldi 6 173 ls st σ) ls σ Q := rn_row rfl ls st σ Q
theorem r_77_173 (ls : a_LS) (st : List Value) (σ : a_HP) (Q : Option Value → a_HP → Prop) : Rn 77 173 ls st σ Q = acR 77 (o_ri ls st σ) ls σ Q := rn_row rfl ls st σ Q
/-! 78: NetLaw.odds(II)I -/
theorem cl_78 (x0 : Nat) (x1 : Int32) (x2 : Int32) (σ : a_HP) (Q : Option Value → a_HP → Prop) : Cl 78 [.ref x0, .int x1, .int x2] σ Q = Rn 78 0 [some (.ref x0), some (.int x1), some (.int x2), none, none, none, none, none, none, none, none] [] σ Q := cl_of (Nat.le_of_ble_eq_true rfl) rfl σ Q
theorem r_78_0 (ls : a_LS) (st : List Value) (σ : a_HP) (Q : Option Value → a_HP → Prop) : Rn 78 0 ls st σ Q = acR 78 (o_ldi 1 1 ls st σ) ls σ Q := rn_row rfl ls st σ Q
theorem r_78_1 (ls : a_LS) (st : List Value) (σ : a_HP) (Q : Option Value → a_HP → Prop) : Rn 78 1 ls st σ Q = acR 78 (o_ivs 93 1 4 ls st σ) ls σ Q := rn_row rfl ls st σ Q
theorem r_78_4 (ls : a_LS) (st : List Value) (σ : a_HP) (Q : Option Value → a_HP → Prop) : Rn 78 4 ls st σ Q = acR 78 (o_eq 17 7 ls st σ) ls σ Q := rn_row rfl ls st σ Q
theorem r_78_7 (ls : a_LS) (st : List Value) (σ : a_HP) (Q : Option Value → a_HP → Prop) : Rn 78 7 ls st σ Q = acR 78 (o_ldi 2 8 ls st σ) ls σ Q := rn_row rfl ls st σ Q
theorem r_78_8 (ls : a_LS) (st : List Value) (σ : a_HP) (Q : Option Value → a_HP → Prop) : Rn 78 8 ls st σ Q = acR 78 (o_pi (nI 0) 9 ls st σ) ls σ Q := rn_row rfl ls st σ Q
theorem r_78_9 (ls : a_LS) (st : List Value) (σ : a_HP) (Q : Option Value → a_HP → Prop) : Rn 78 9 ls st σ Q = acR 78 (o_pi (nI 10) 11 ls st σ) ls σ Q := rn_row rfl ls st σ Q
theorem r_78_11 (ls : a_LS) (st : List Value) (σ : a_HP) (Q : Option Value → a_HP → Prop) : Rn 78 11 ls st σ Q = acR 78 (o_ivs 91 3 14 ls st σ) ls σ Q := rn_row rfl ls st σ Q
theorem r_78_14 (ls : a_LS) (st : List Value) (σ : a_HP) (Q : Option Value → a_HP → Prop) : Rn 78 14 ls st σ Q = acR 78 (o_ne 22 17 ls st σ) ls σ Q := rn_row rfl ls st σ Q
theorem r_78_17 (ls : a_LS) (st : List Value) (σ : a_HP) (Q : Option Value → a_HP → Prop) : Rn 78 17 ls st σ Q = acR 78 (o_lda 0 18 ls st σ) ls σ Q := rn_row rfl ls st σ Q
theorem r_78_18 (ls : a_LS) (st : List Value) (σ : a_HP) (Q : Option Value → a_HP → Prop) : Rn 78 18 ls st σ Q = acR 78 (o_ivv 7 87 0 21 ls st σ) ls σ Q := rn_row rfl ls st σ Q
theorem r_78_21 (ls : a_LS) (st : List Value) (σ : a_HP) (Q : Option Value → a_HP → Prop) : Rn 78 21 ls st σ Q = acR 78 (o_ri ls st σ) ls σ Q := rn_row rfl ls st σ Q
theorem r_78_22 (ls : a_LS) (st : List Value) (σ : a_HP) (Q : Option Value → a_HP → Prop) : Rn 78 22 ls st σ Q = acR 78 (o_lda 0 23 ls st σ) ls σ Q := rn_row rfl ls st σ Q
theorem r_78_23 (ls : a_LS) (st : List Value) (σ : a_HP) (Q : Option Value → a_HP → Prop) : Rn 78 23 ls st σ Q = acR 78 (o_ldi 1 24 ls st σ) ls σ Q := rn_row rfl ls st σ Q
theorem r_78_24 (ls : a_LS) (st : List Value) (σ : a_HP) (Q : Option Value → a_HP → Prop) : Rn 78 24 ls st σ Q = acR 78 (o_ivv 7 117 1 27 ls st σ) ls σ Q := rn_row rfl ls st σ Q
theorem r_78_27 (ls : a_LS) (st : List Value) (σ : a_HP) (Q : Option Value → a_HP → Prop) : Rn 78 27 ls st σ Q = acR 78 (o_sti 3 28 ls st σ) ls σ Q := rn_row rfl ls st σ Q
theorem r_78_28 (ls : a_LS) (st : List Value) (σ : a_HP) (Q : Option Value → a_HP → Prop) : Rn 78 28 ls st σ Q = acR 78 (o_pl (lN 0) 29 ls st σ) ls σ Q := rn_row rfl ls st σ Q
theorem r_78_29 (ls : a_LS) (st : List Value) (σ : a_HP) (Q : Option Value → a_HP → Prop) : Rn 78 29 ls st σ Q = acR 78 (o_stl 4 31 ls st σ) ls σ Q := rn_row rfl ls st σ Q
theorem r_78_31 (ls : a_LS) (st : List Value) (σ : a_HP) (Q : Option Value → a_HP → Prop) : Rn 78 31 ls st σ Q = acR 78 (o_pl (lN 1) 32 ls st σ) ls σ Q := rn_row rfl ls st σ Q
theorem r_78_32 (ls : a_LS) (st : List Value) (σ : a_HP) (Q : Option Value → a_HP → Prop) : Rn 78 32 ls st σ Q = acR 78 (o_stl 6 34 ls st σ) ls σ Q := rn_row rfl ls st σ Q
theorem r_78_34 (ls : a_LS) (st : List Value) (σ : a_HP) (Q : Option Value → a_HP → Prop) : Rn 78 34 ls st σ Q = acR 78 (o_pi (nI 0) 35 ls st σ) ls σ Q := rn_row rfl ls st σ Q
theorem r_78_35 (ls : a_LS) (st : List Value) (σ : a_HP) (Q : Option Value → a_HP → Prop) : Rn 78 35 ls st σ Q = acR 78 (o_sti 8 37 ls st σ) ls σ Q := rn_row rfl ls st σ Q
theorem r_78_37 (ls : a_LS) (st : List Value) (σ : a_HP) (Q : Option Value → a_HP → Prop) : Rn 78 37 ls st σ Q = acR 78 (o_ldi 8 39 ls st σ) ls σ Q := rn_row rfl ls st σ Q
theorem r_78_39 (ls : a_LS) (st : List Value) (σ : a_HP) (Q : Option Value → a_HP → Prop) : Rn 78 39 ls st σ Q = acR 78 (o_ldi 3 40 ls st σ) ls σ Q := rn_row rfl ls st σ Q
theorem r_78_40 (ls : a_LS) (st : List Value) (σ : a_HP) (Q : Option Value → a_HP → Prop) : Rn 78 40 ls st σ Q = acR 78 (o_cge 57 43 ls st σ) ls σ Q := rn_row rfl ls st σ Q
theorem r_78_43 (ls : a_LS) (st : List Value) (σ : a_HP) (Q : Option Value → a_HP → Prop) : Rn 78 43 ls st σ Q = acR 78 (o_ldl 6 45 ls st σ) ls σ Q := rn_row rfl ls st σ Q
theorem r_78_45 (ls : a_LS) (st : List Value) (σ : a_HP) (Q : Option Value → a_HP → Prop) : Rn 78 45 ls st σ Q = acR 78 (o_pl (lN 10) 48 ls st σ) ls σ Q := rn_row rfl ls st σ Q
theorem r_78_48 (ls : a_LS) (st : List Value) (σ : a_HP) (Q : Option Value → a_HP → Prop) : Rn 78 48 ls st σ Q = acR 78 (o_bl g_mul 49 ls st σ) ls σ Q := rn_row rfl ls st σ Q
theorem r_78_49 (ls : a_LS) (st : List Value) (σ : a_HP) (Q : Option Value → a_HP → Prop) : Rn 78 49 ls st σ Q = acR 78 (o_stl 6 51 ls st σ) ls σ Q := rn_row rfl ls st σ Q
theorem r_78_51 (ls : a_LS) (st : List Value) (σ : a_HP) (Q : Option Value → a_HP → Prop) : Rn 78 51 ls st σ Q = acR 78 (o_inc 8 (nI 1) 54 ls st σ) ls σ Q := rn_row rfl ls st σ Q
theorem r_78_54 (ls : a_LS) (st : List Value) (σ : a_HP) (Q : Option Value → a_HP → Prop) : Rn 78 54 ls st σ Q = acR 78 (o_go 37 ls st σ) ls σ Q := rn_row rfl ls st σ Q
theorem r_78_57 (ls : a_LS) (st : List Value) (σ : a_HP) (Q : Option Value → a_HP → Prop) : Rn 78 57 ls st σ Q = acR 78 (o_pi (nI 0) 58 ls st σ) ls σ Q := rn_row rfl ls st σ Q
theorem r_78_58 (ls : a_LS) (st : List Value) (σ : a_HP) (Q : Option Value → a_HP → Prop) : Rn 78 58 ls st σ Q = acR 78 (o_sti 8 60 ls st σ) ls σ Q := rn_row rfl ls st σ Q
theorem r_78_60 (ls : a_LS) (st : List Value) (σ : a_HP) (Q : Option Value → a_HP → Prop) : Rn 78 60 ls st σ Q = acR 78 (o_ldi 8 62 ls st σ) ls σ Q := rn_row rfl ls st σ Q
theorem r_78_62 (ls : a_LS) (st : List Value) (σ : a_HP) (Q : Option Value → a_HP → Prop) : Rn 78 62 ls st σ Q = acR 78 (o_pi (nI 1) 63 ls st σ) ls σ Q := rn_row rfl ls st σ Q
theorem r_78_63 (ls : a_LS) (st : List Value) (σ : a_HP) (Q : Option Value → a_HP → Prop) : Rn 78 63 ls st σ Q = acR 78 (o_ldi 3 64 ls st σ) ls σ Q := rn_row rfl ls st σ Q
theorem r_78_64 (ls : a_LS) (st : List Value) (σ : a_HP) (Q : Option Value → a_HP → Prop) : Rn 78 64 ls st σ Q = acR 78 (o_bi f_shl 65 ls st σ) ls σ Q := rn_row rfl ls st σ Q
theorem r_78_65 (ls : a_LS) (st : List Value) (σ : a_HP) (Q : Option Value → a_HP → Prop) : Rn 78 65 ls st σ Q = acR 78 (o_cge 112 68 ls st σ) ls σ Q := rn_row rfl ls st σ Q
theorem r_78_68 (ls : a_LS) (st : List Value) (σ : a_HP) (Q : Option Value → a_HP → Prop) : Rn 78 68 ls st σ Q = acR 78 (o_ldi 8 70 ls st σ) ls σ Q := rn_row rfl ls st σ Q
theorem r_78_70 (ls : a_LS) (st : List Value) (σ : a_HP) (Q : Option Value → a_HP → Prop) : Rn 78 70 ls st σ Q = acR 78 (o_ldi 3 71 ls st σ) ls σ Q := rn_row rfl ls st σ Q
theorem r_78_71 (ls : a_LS) (st : List Value) (σ : a_HP) (Q : Option Value → a_HP → Prop) : Rn 78 71 ls st σ Q = acR 78 (o_ldi 2 72 ls st σ) ls σ Q := rn_row rfl ls st σ Q
theorem r_78_72 (ls : a_LS) (st : List Value) (σ : a_HP) (Q : Option Value → a_HP → Prop) : Rn 78 72 ls st σ Q = acR 78 (o_ivs 119 3 75 ls st σ) ls σ Q := rn_row rfl ls st σ Q
theorem r_78_75 (ls : a_LS) (st : List Value) (σ : a_HP) (Q : Option Value → a_HP → Prop) : Rn 78 75 ls st σ Q = acR 78 (o_stl 9 77 ls st σ) ls σ Q := rn_row rfl ls st σ Q
theorem r_78_77 (ls : a_LS) (st : List Value) (σ : a_HP) (Q : Option Value → a_HP → Prop) : Rn 78 77 ls st σ Q = acR 78 (o_ldl 9 79 ls st σ) ls σ Q := rn_row rfl ls st σ Q
theorem r_78_79 (ls : a_LS) (st : List Value) (σ : a_HP) (Q : Option Value → a_HP → Prop) : Rn 78 79 ls st σ Q = acR 78 (o_pl (lN 0) 80 ls st σ) ls σ Q := rn_row rfl ls st σ Q
theorem r_78_80 (ls : a_LS) (st : List Value) (σ : a_HP) (Q : Option Value → a_HP → Prop) : Rn 78 80 ls st σ Q = acR 78 (o_lcmp 81 ls st σ) ls σ Q := rn_row rfl ls st σ Q
theorem r_78_81 (ls : a_LS) (st : List Value) (σ : a_HP) (Q : Option Value → a_HP → Prop) : Rn 78 81 ls st σ Q = acR 78 (o_eq 106 84 ls st σ) ls σ Q := rn_row rfl ls st σ Q
theorem r_78_84 (ls : a_LS) (st : List Value) (σ : a_HP) (Q : Option Value → a_HP → Prop) : Rn 78 84 ls st σ Q = acR 78 (o_lda 0 85 ls st σ) ls σ Q := rn_row rfl ls st σ Q
theorem r_78_85 (ls : a_LS) (st : List Value) (σ : a_HP) (Q : Option Value → a_HP → Prop) : Rn 78 85 ls st σ Q = acR 78 (o_ldi 1 86 ls st σ) ls σ Q := rn_row rfl ls st σ Q
theorem r_78_86 (ls : a_LS) (st : List Value) (σ : a_HP) (Q : Option Value → a_HP → Prop) : Rn 78 86 ls st σ Q = acR 78 (o_lda 0 87 ls st σ) ls σ Q := rn_row rfl ls st σ Q
theorem r_78_87 (ls : a_LS) (st : List Value) (σ : a_HP) (Q : Option Value → a_HP → Prop) : Rn 78 87 ls st σ Q = acR 78 (o_ldi 8 89 ls st σ) ls σ Q := rn_row rfl ls st σ Q
theorem r_78_89 (ls : a_LS) (st : List Value) (σ : a_HP) (Q : Option Value → a_HP → Prop) : Rn 78 89 ls st σ Q = acR 78 (o_ldi 3 90 ls st σ) ls σ Q := rn_row rfl ls st σ Q
theorem r_78_90 (ls : a_LS) (st : List Value) (σ : a_HP) (Q : Option Value → a_HP → Prop) : Rn 78 90 ls st σ Q = acR 78 (o_ivv 7 118 2 93 ls st σ) ls σ Q := rn_row rfl ls st σ Q
theorem r_78_93 (ls : a_LS) (st : List Value) (σ : a_HP) (Q : Option Value → a_HP → Prop) : Rn 78 93 ls st σ Q = acR 78 (o_ivv 7 107 2 96 ls st σ) ls σ Q := rn_row rfl ls st σ Q
theorem r_78_96 (ls : a_LS) (st : List Value) (σ : a_HP) (Q : Option Value → a_HP → Prop) : Rn 78 96 ls st σ Q = acR 78 (o_eq 106 99 ls st σ) ls σ Q := rn_row rfl ls st σ Q
theorem r_78_99 (ls : a_LS) (st : List Value) (σ : a_HP) (Q : Option Value → a_HP → Prop) : Rn 78 99 ls st σ Q = acR 78 (o_ldl 4 101 ls st σ) ls σ Q := rn_row rfl ls st σ Q
theorem r_78_101 (ls : a_LS) (st : List Value) (σ : a_HP) (Q : Option Value → a_HP → Prop) : Rn 78 101 ls st σ Q = acR 78 (o_ldl 9 103 ls st σ) ls σ Q := rn_row rfl ls st σ Q
theorem r_78_103 (ls : a_LS) (st : List Value) (σ : a_HP) (Q : Option Value → a_HP → Prop) : Rn 78 103 ls st σ Q = acR 78 (o_bl g_add 104 ls st σ) ls σ Q := rn_row rfl ls st σ Q
theorem r_78_104 (ls : a_LS) (st : List Value) (σ : a_HP) (Q : Option Value → a_HP → Prop) : Rn 78 104 ls st σ Q = acR 78 (o_stl 4 106 ls st σ) ls σ Q := rn_row rfl ls st σ Q
theorem r_78_106 (ls : a_LS) (st : List Value) (σ : a_HP) (Q : Option Value → a_HP → Prop) : Rn 78 106 ls st σ Q = acR 78 (o_inc 8 (nI 1) 109 ls st σ) ls σ Q := rn_row rfl ls st σ Q
theorem r_78_109 (ls : a_LS) (st : List Value) (σ : a_HP) (Q : Option Value → a_HP → Prop) : Rn 78 109 ls st σ Q = acR 78 (o_go 60 ls st σ) ls σ Q := rn_row rfl ls st σ Q
theorem r_78_112 (ls : a_LS) (st : List Value) (σ : a_HP) (Q : Option Value → a_HP → Prop) : Rn 78 112 ls st σ Q = acR 78 (o_lda 0 113 ls st σ) ls σ Q := rn_row rfl ls st σ Q
theorem r_78_113 (ls : a_LS) (st : List Value) (σ : a_HP) (Q : Option Value → a_HP → Prop) : Rn 78 113 ls st σ Q = acR 78 (o_get 7 5 116 ls st σ) ls σ Q := rn_row rfl ls st σ Q
theorem r_78_116 (ls : a_LS) (st : List Value) (σ : a_HP) (Q : Option Value → a_HP → Prop) : Rn 78 116 ls st σ Q = acR 78 (o_ldl 4 118 ls st σ) ls σ Q := rn_row rfl ls st σ Q
theorem r_78_118 (ls : a_LS) (st : List Value) (σ : a_HP) (Q : Option Value → a_HP → Prop) : Rn 78 118 ls st σ Q = acR 78 (o_ldl 6 120 ls st σ) ls σ Q := rn_row rfl ls st σ Q
theorem r_78_120 (ls : a_LS) (st : List Value) (σ : a_HP) (Q : Option Value → a_HP → Prop) : Rn 78 120 ls st σ Q = acR 78 (o_ivv 0 0 2 123 ls st σ) ls σ Q := rn_row rfl ls st σ Q
theorem r_78_123 (ls : a_LS) (st : List Value) (σ : a_HP) (Q : Option Value → a_HP → Prop) : Rn 78 123 ls st σ Q = acR 78 (o_pi (nI 1) 124 ls st σ) ls σ Q := rn_row rfl ls st σ Q
theorem r_78_124 (ls : a_LS) (st : List Value) (σ : a_HP) (Q : Option Value → a_HP → Prop) : Rn 78 124 ls st σ Q = acR 78 (o_ri ls st σ) ls σ Q := rn_row rfl ls st σ Q
/-! 79: NetLaw.drawn(II)I -/
theorem cl_79 (x0 : Nat) (x1 : Int32) (x2 : Int32) (σ : a_HP) (Q : Option Value → a_HP → Prop) : Cl 79 [.ref x0, .int x1, .int x2] σ Q = Rn 79 0 [some (.ref x0), some (.int x1), some (.int x2), none, none, none] [] σ Q := cl_of (Nat.le_of_ble_eq_true rfl) rfl σ Q
theorem r_79_0 (ls : a_LS) (st : List Value) (σ : a_HP) (Q : Option Value → a_HP → Prop) : Rn 79 0 ls st σ Q = acR 79 (o_ldi 1 1 ls st σ) ls σ Q := rn_row rfl ls st σ Q
theorem r_79_1 (ls : a_LS) (st : List Value) (σ : a_HP) (Q : Option Value → a_HP → Prop) : Rn 79 1 ls st σ Q = acR 79 (o_pi (nI 0) 2 ls st σ) ls σ Q := rn_row rfl ls st σ Q
theorem r_79_2 (ls : a_LS) (st : List Value) (σ : a_HP) (Q : Option Value → a_HP → Prop) : Rn 79 2 ls st σ Q = acR 79 (o_pi (999999) 5 ls st σ) ls σ Q := rn_row rfl ls st σ Q
theorem r_79_5 (ls : a_LS) (st : List Value) (σ : a_HP) (Q : Option Value → a_HP → Prop) : Rn 79 5 ls st σ Q = acR 79 (o_ivs 91 3 8 ls st σ) ls σ Q := rn_row rfl ls st σ Q
theorem r_79_8 (ls : a_LS) (st : List Value) (σ : a_HP) (Q : Option Value → a_HP → Prop) : Rn 79 8 ls st σ Q = acR 79 (o_eq 21 11 ls st σ) ls σ Q := rn_row rfl ls st σ Q
theorem r_79_11 (ls : a_LS) (st : List Value) (σ : a_HP) (Q : Option Value → a_HP → Prop) : Rn 79 11 ls st σ Q = acR 79 (o_ldi 2 12 ls st σ) ls σ Q := rn_row rfl ls st σ Q
theorem r_79_12 (ls : a_LS) (st : List Value) (σ : a_HP) (Q : Option Value → a_HP → Prop) : Rn 79 12 ls st σ Q = acR 79 (o_pi (nI 0) 13 ls st σ) ls σ Q := rn_row rfl ls st σ Q
theorem r_79_13 (ls : a_LS) (st : List Value) (σ : a_HP) (Q : Option Value → a_HP → Prop) : Rn 79 13 ls st σ Q = acR 79 (o_pi (nI 30) 15 ls st σ) ls σ Q := rn_row rfl ls st σ Q
theorem r_79_15 (ls : a_LS) (st : List Value) (σ : a_HP) (Q : Option Value → a_HP → Prop) : Rn 79 15 ls st σ Q = acR 79 (o_ivs 91 3 18 ls st σ) ls σ Q := rn_row rfl ls st σ Q
theorem r_79_18 (ls : a_LS) (st : List Value) (σ : a_HP) (Q : Option Value → a_HP → Prop) : Rn 79 18 ls st σ Q = acR 79 (o_ne 26 21 ls st σ) ls σ Q := rn_row rfl ls st σ Q
theorem r_79_21 (ls : a_LS) (st : List Value) (σ : a_HP) (Q : Option Value → a_HP → Prop) : Rn 79 21 ls st σ Q = acR 79 (o_lda 0 22 ls st σ) ls σ Q := rn_row rfl ls st σ Q
theorem r_79_22 (ls : a_LS) (st : List Value) (σ : a_HP) (Q : Option Value → a_HP → Prop) : Rn 79 22 ls st σ Q = acR 79 (o_ivv 7 87 0 25 ls st σ) ls σ Q := rn_row rfl ls st σ Q
theorem r_79_25 (ls : a_LS) (st : List Value) (σ : a_HP) (Q : Option Value → a_HP → Prop) : Rn 79 25 ls st σ Q = acR 79 (o_ri ls st σ) ls σ Q := rn_row rfl ls st σ Q
theorem r_79_26 (ls : a_LS) (st : List Value) (σ : a_HP) (Q : Option Value → a_HP → Prop) : Rn 79 26 ls st σ Q = acR 79 (o_lda 0 27 ls st σ) ls σ Q := rn_row rfl ls st σ Q
theorem r_79_27 (ls : a_LS) (st : List Value) (σ : a_HP) (Q : Option Value → a_HP → Prop) : Rn 79 27 ls st σ Q = acR 79 (o_get 7 7 30 ls st σ) ls σ Q := rn_row rfl ls st σ Q
theorem r_79_30 (ls : a_LS) (st : List Value) (σ : a_HP) (Q : Option Value → a_HP → Prop) : Rn 79 30 ls st σ Q = acR 79 (o_lda 0 31 ls st σ) ls σ Q := rn_row rfl ls st σ Q
theorem r_79_31 (ls : a_LS) (st : List Value) (σ : a_HP) (Q : Option Value → a_HP → Prop) : Rn 79 31 ls st σ Q = acR 79 (o_get 7 0 34 ls st σ) ls σ Q := rn_row rfl ls st σ Q
theorem r_79_34 (ls : a_LS) (st : List Value) (σ : a_HP) (Q : Option Value → a_HP → Prop) : Rn 79 34 ls st σ Q = acR 79 (o_ivv 3 17 1 37 ls st σ) ls σ Q := rn_row rfl ls st σ Q
theorem r_79_37 (ls : a_LS) (st : List Value) (σ : a_HP) (Q : Option Value → a_HP → Prop) : Rn 79 37 ls st σ Q = acR 79 (o_ldi 1 38 ls st σ) ls σ Q := rn_row rfl ls st σ Q
theorem r_79_38 (ls : a_LS) (st : List Value) (σ : a_HP) (Q : Option Value → a_HP → Prop) : Rn 79 38 ls st σ Q = acR 79 (o_i2l 39 ls st σ) ls σ Q := rn_row rfl ls st σ Q
theorem r_79_39 (ls : a_LS) (st : List Value) (σ : a_HP) (Q : Option Value → a_HP → Prop) : Rn 79 39 ls st σ Q = acR 79 (o_stl 3 40 ls st σ) ls σ Q := rn_row rfl ls st σ Q
theorem r_79_40 (ls : a_LS) (st : List Value) (σ : a_HP) (Q : Option Value → a_HP → Prop) : Rn 79 40 ls st σ Q = acR 79 (o_pi (nI 0) 41 ls st σ) ls σ Q := rn_row rfl ls st σ Q
theorem r_79_41 (ls : a_LS) (st : List Value) (σ : a_HP) (Q : Option Value → a_HP → Prop) : Rn 79 41 ls st σ Q = acR 79 (o_sti 5 43 ls st σ) ls σ Q := rn_row rfl ls st σ Q
theorem r_79_43 (ls : a_LS) (st : List Value) (σ : a_HP) (Q : Option Value → a_HP → Prop) : Rn 79 43 ls st σ Q = acR 79 (o_ldi 5 45 ls st σ) ls σ Q := rn_row rfl ls st σ Q
theorem r_79_45 (ls : a_LS) (st : List Value) (σ : a_HP) (Q : Option Value → a_HP → Prop) : Rn 79 45 ls st σ Q = acR 79 (o_ldi 2 46 ls st σ) ls σ Q := rn_row rfl ls st σ Q
theorem r_79_46 (ls : a_LS) (st : List Value) (σ : a_HP) (Q : Option Value → a_HP → Prop) : Rn 79 46 ls st σ Q = acR 79 (o_cge 94 49 ls st σ) ls σ Q := rn_row rfl ls st σ Q
theorem r_79_49 (ls : a_LS) (st : List Value) (σ : a_HP) (Q : Option Value → a_HP → Prop) : Rn 79 49 ls st σ Q = acR 79 (o_ldl 3 50 ls st σ) ls σ Q := rn_row rfl ls st σ Q
theorem r_79_50 (ls : a_LS) (st : List Value) (σ : a_HP) (Q : Option Value → a_HP → Prop) : Rn 79 50 ls st σ Q = acR 79 (o_pl (lN 1103515245) 53 ls st σ) ls σ Q := rn_row rfl ls st σ Q
theorem r_79_53 (ls : a_LS) (st : List Value) (σ : a_HP) (Q : Option Value → a_HP → Prop) : Rn 79 53 ls st σ Q = acR 79 (o_bl g_mul 54 ls st σ) ls σ Q := rn_row rfl ls st σ Q
theorem r_79_54 (ls : a_LS) (st : List Value) (σ : a_HP) (Q : Option Value → a_HP → Prop) : Rn 79 54 ls st σ Q = acR 79 (o_pl (lN 12345) 57 ls st σ) ls σ Q := rn_row rfl ls st σ Q
theorem r_79_57 (ls : a_LS) (st : List Value) (σ : a_HP) (Q : Option Value → a_HP → Prop) : Rn 79 57 ls st σ Q = acR 79 (o_bl g_add 58 ls st σ) ls σ Q := rn_row rfl ls st σ Q
theorem r_79_58 (ls : a_LS) (st : List Value) (σ : a_HP) (Q : Option Value → a_HP → Prop) : Rn 79 58 ls st σ Q = acR 79 (o_pl (lN 2147483648) 61 ls st σ) ls σ Q := rn_row rfl ls st σ Q
theorem r_79_61 (ls : a_LS) (st : List Value) (σ : a_HP) (Q : Option Value → a_HP → Prop) : Rn 79 61 ls st σ Q = acR 79 (o_bm g_rem 62 ls st σ) ls σ Q := rn_row rfl ls st σ Q
theorem r_79_62 (ls : a_LS) (st : List Value) (σ : a_HP) (Q : Option Value → a_HP → Prop) : Rn 79 62 ls st σ Q = acR 79 (o_stl 3 63 ls st σ) ls σ Q := rn_row rfl ls st σ Q
theorem r_79_63 (ls : a_LS) (st : List Value) (σ : a_HP) (Q : Option Value → a_HP → Prop) : Rn 79 63 ls st σ Q = acR 79 (o_lda 0 64 ls st σ) ls σ Q := rn_row rfl ls st σ Q
theorem r_79_64 (ls : a_LS) (st : List Value) (σ : a_HP) (Q : Option Value → a_HP → Prop) : Rn 79 64 ls st σ Q = acR 79 (o_get 7 7 67 ls st σ) ls σ Q := rn_row rfl ls st σ Q
theorem r_79_67 (ls : a_LS) (st : List Value) (σ : a_HP) (Q : Option Value → a_HP → Prop) : Rn 79 67 ls st σ Q = acR 79 (o_ldl 3 68 ls st σ) ls σ Q := rn_row rfl ls st σ Q
theorem r_79_68 (ls : a_LS) (st : List Value) (σ : a_HP) (Q : Option Value → a_HP → Prop) : Rn 79 68 ls st σ Q = acR 79 (o_pl (lN 32768) 71 ls st σ) ls σ Q := rn_row rfl ls st σ Q
theorem r_79_71 (ls : a_LS) (st : List Value) (σ : a_HP) (Q : Option Value → a_HP → Prop) : Rn 79 71 ls st σ Q = acR 79 (o_bm g_div 72 ls st σ) ls σ Q := rn_row rfl ls st σ Q
theorem r_79_72 (ls : a_LS) (st : List Value) (σ : a_HP) (Q : Option Value → a_HP → Prop) : Rn 79 72 ls st σ Q = acR 79 (o_pl (lN 65536) 75 ls st σ) ls σ Q := rn_row rfl ls st σ Q
theorem r_79_75 (ls : a_LS) (st : List Value) (σ : a_HP) (Q : Option Value → a_HP → Prop) : Rn 79 75 ls st σ Q = acR 79 (o_bm g_rem 76 ls st σ) ls σ Q := rn_row rfl ls st σ Q
theorem r_79_76 (ls : a_LS) (st : List Value) (σ : a_HP) (Q : Option Value → a_HP → Prop) : Rn 79 76 ls st σ Q = acR 79 (o_l2i 77 ls st σ) ls σ Q := rn_row rfl ls st σ Q
theorem r_79_77 (ls : a_LS) (st : List Value) (σ : a_HP) (Q : Option Value → a_HP → Prop) : Rn 79 77 ls st σ Q = acR 79 (o_put 3 2 80 ls st σ) ls σ Q := rn_row rfl ls st σ Q
theorem r_79_80 (ls : a_LS) (st : List Value) (σ : a_HP) (Q : Option Value → a_HP → Prop) : Rn 79 80 ls st σ Q = acR 79 (o_lda 0 81 ls st σ) ls σ Q := rn_row rfl ls st σ Q
theorem r_79_81 (ls : a_LS) (st : List Value) (σ : a_HP) (Q : Option Value → a_HP → Prop) : Rn 79 81 ls st σ Q = acR 79 (o_get 7 7 84 ls st σ) ls σ Q := rn_row rfl ls st σ Q
theorem r_79_84 (ls : a_LS) (st : List Value) (σ : a_HP) (Q : Option Value → a_HP → Prop) : Rn 79 84 ls st σ Q = acR 79 (o_ivv 3 27 0 87 ls st σ) ls σ Q := rn_row rfl ls st σ Q
theorem r_79_87 (ls : a_LS) (st : List Value) (σ : a_HP) (Q : Option Value → a_HP → Prop) : Rn 79 87 ls st σ Q = acR 79 (o_pop 88 ls st σ) ls σ Q := rn_row rfl ls st σ Q
theorem r_79_88 (ls : a_LS) (st : List Value) (σ : a_HP) (Q : Option Value → a_HP → Prop) : Rn 79 88 ls st σ Q = acR 79 (o_inc 5 (nI 1) 91 ls st σ) ls σ Q := rn_row rfl ls st σ Q
theorem r_79_91 (ls : a_LS) (st : List Value) (σ : a_HP) (Q : Option Value → a_HP → Prop) : Rn 79 91 ls st σ Q = acR 79 (o_go 43 ls st σ) ls σ Q := rn_row rfl ls st σ Q
theorem r_79_94 (ls : a_LS) (st : List Value) (σ : a_HP) (Q : Option Value → a_HP → Prop) : Rn 79 94 ls st σ Q = acR 79 (o_lda 0 95 ls st σ) ls σ Q := rn_row rfl ls st σ Q
theorem r_79_95 (ls : a_LS) (st : List Value) (σ : a_HP) (Q : Option Value → a_HP → Prop) : Rn 79 95 ls st σ Q = acR 79 (o_get 7 7 98 ls st σ) ls σ Q := rn_row rfl ls st σ Q
theorem r_79_98 (ls : a_LS) (st : List Value) (σ : a_HP) (Q : Option Value → a_HP → Prop) : Rn 79 98 ls st σ Q = acR 79 (o_ivv 3 26 0 101 ls st σ) ls σ Q := rn_row rfl ls st σ Q
theorem r_79_101 (ls : a_LS) (st : List Value) (σ : a_HP) (Q : Option Value → a_HP → Prop) : Rn 79 101 ls st σ Q = acR 79 (o_ivs 206 1 104 ls st σ) ls σ Q := rn_row rfl ls st σ Q
theorem r_79_104 (ls : a_LS) (st : List Value) (σ : a_HP) (Q : Option Value → a_HP → Prop) : Rn 79 104 ls st σ Q = acR 79 (o_ri ls st σ) ls σ Q := rn_row rfl ls st σ Q
/-! 80: NetLaw.part(I)J -/
theorem cl_80 (x0 : Nat) (x1 : Int32) (σ : a_HP) (Q : Option Value → a_HP → Prop) : Cl 80 [.ref x0, .int x1] σ Q = Rn 80 0 [some (.ref x0), some (.int x1)] [] σ Q := cl_of (Nat.le_of_ble_eq_true rfl) rfl σ Q
theorem r_80_0 (ls : a_LS) (st : List Value) (σ : a_HP) (Q : Option Value → a_HP → Prop) : Rn 80 0 ls st σ Q = acR 80 (o_ldi 1 1 ls st σ) ls σ Q := rn_row rfl ls st σ Q
theorem r_80_1 (ls : a_LS) (st : List Value) (σ : a_HP) (Q : Option Value → a_HP → Prop) : Rn 80 1 ls st σ Q = acR 80 (o_sw [((nI 0), 28), ((nI 1), 36)] 44 ls st σ) ls σ Q := rn_row rfl ls st σ Q
theorem r_80_28 (ls : a_LS) (st : List Value) (σ : a_HP) (Q : Option Value → a_HP → Prop) : Rn 80 28 ls st σ Q = acR 80 (o_lda 0 29 ls st σ) ls σ Q := rn_row rfl ls st σ Q
theorem r_80_29 (ls : a_LS) (st : List Value) (σ : a_HP) (Q : Option Value → a_HP → Prop) : Rn 80 29 ls st σ Q = acR 80 (o_get 7 5 32 ls st σ) ls σ Q := rn_row rfl ls st σ Q
theorem r_80_32 (ls : a_LS) (st : List Value) (σ : a_HP) (Q : Option Value → a_HP → Prop) : Rn 80 32 ls st σ Q = acR 80 (o_get 0 0 35 ls st σ) ls σ Q := rn_row rfl ls st σ Q
theorem r_80_35 (ls : a_LS) (st : List Value) (σ : a_HP) (Q : Option Value → a_HP → Prop) : Rn 80 35 ls st σ Q = acR 80 (o_rl ls st σ) ls σ Q := rn_row rfl ls st σ Q
theorem r_80_36 (ls : a_LS) (st : List Value) (σ : a_HP) (Q : Option Value → a_HP → Prop) : Rn 80 36 ls st σ Q = acR 80 (o_lda 0 37 ls st σ) ls σ Q := rn_row rfl ls st σ Q
theorem r_80_37 (ls : a_LS) (st : List Value) (σ : a_HP) (Q : Option Value → a_HP → Prop) : Rn 80 37 ls st σ Q = acR 80 (o_get 7 5 40 ls st σ) ls σ Q := rn_row rfl ls st σ Q
theorem r_80_40 (ls : a_LS) (st : List Value) (σ : a_HP) (Q : Option Value → a_HP → Prop) : Rn 80 40 ls st σ Q = acR 80 (o_get 0 1 43 ls st σ) ls σ Q := rn_row rfl ls st σ Q
theorem r_80_43 (ls : a_LS) (st : List Value) (σ : a_HP) (Q : Option Value → a_HP → Prop) : Rn 80 43 ls st σ Q = acR 80 (o_rl ls st σ) ls σ Q := rn_row rfl ls st σ Q
theorem r_80_44 (ls : a_LS) (st : List Value) (σ : a_HP) (Q : Option Value → a_HP → Prop) : Rn 80 44 ls st σ Q = acR 80 (o_lda 0 45 ls st σ) ls σ Q := rn_row rfl ls st σ Q
theorem r_80_45 (ls : a_LS) (st : List Value) (σ : a_HP) (Q : Option Value → a_HP → Prop) : Rn 80 45 ls st σ Q = acR 80 (o_ivv 7 87 0 48 ls st σ) ls σ Q := rn_row rfl ls st σ Q
theorem r_80_48 (ls : a_LS) (st : List Value) (σ : a_HP) (Q : Option Value → a_HP → Prop) : Rn 80 48 ls st σ Q = acR 80 (o_i2l 49 ls st σ) ls σ Q := rn_row rfl ls st σ Q
theorem r_80_49 (ls : a_LS) (st : List Value) (σ : a_HP) (Q : Option Value → a_HP → Prop) : Rn 80 49 ls st σ Q = acR 80 (o_rl ls st σ) ls σ Q := rn_row rfl ls st σ Q
/-! 81: NetLaw.image(I)I -/
theorem cl_81 (x0 : Nat) (x1 : Int32) (σ : a_HP) (Q : Option Value → a_HP → Prop) : Cl 81 [.ref x0, .int x1] σ Q = Rn 81 0 [some (.ref x0), some (.int x1)] [] σ Q := cl_of (Nat.le_of_ble_eq_true rfl) rfl σ Q
theorem r_81_0 (ls : a_LS) (st : List Value) (σ : a_HP) (Q : Option Value → a_HP → Prop) : Rn 81 0 ls st σ Q = acR 81 (o_ldi 1 1 ls st σ) ls σ Q := rn_row rfl ls st σ Q
theorem r_81_1 (ls : a_LS) (st : List Value) (σ : a_HP) (Q : Option Value → a_HP → Prop) : Rn 81 1 ls st σ Q = acR 81 (o_ivs 94 1 4 ls st σ) ls σ Q := rn_row rfl ls st σ Q
theorem r_81_4 (ls : a_LS) (st : List Value) (σ : a_HP) (Q : Option Value → a_HP → Prop) : Rn 81 4 ls st σ Q = acR 81 (o_ne 12 7 ls st σ) ls σ Q := rn_row rfl ls st σ Q
theorem r_81_7 (ls : a_LS) (st : List Value) (σ : a_HP) (Q : Option Value → a_HP → Prop) : Rn 81 7 ls st σ Q = acR 81 (o_lda 0 8 ls st σ) ls σ Q := rn_row rfl ls st σ Q
theorem r_81_8 (ls : a_LS) (st : List Value) (σ : a_HP) (Q : Option Value → a_HP → Prop) : Rn 81 8 ls st σ Q = acR 81 (o_ivv 7 87 0 11 ls st σ) ls σ Q := rn_row rfl ls st σ Q
theorem r_81_11 (ls : a_LS) (st : List Value) (σ : a_HP) (Q : Option Value → a_HP → Prop) : Rn 81 11 ls st σ Q = acR 81 (o_ri ls st σ) ls σ Q := rn_row rfl ls st σ Q
theorem r_81_12 (ls : a_LS) (st : List Value) (σ : a_HP) (Q : Option Value → a_HP → Prop) : Rn 81 12 ls st σ Q = acR 81 (o_lda 0 13 ls st σ) ls σ Q := rn_row rfl ls st σ Q
theorem r_81_13 (ls : a_LS) (st : List Value) (σ : a_HP) (Q : Option Value → a_HP → Prop) : Rn 81 13 ls st σ Q = acR 81 (o_get 7 3 16 ls st σ) ls σ Q := rn_row rfl ls st σ Q
theorem r_81_16 (ls : a_LS) (st : List Value) (σ : a_HP) (Q : Option Value → a_HP → Prop) : Rn 81 16 ls st σ Q = acR 81 (o_ldi 1 17 ls st σ) ls σ Q := rn_row rfl ls st σ Q
theorem r_81_17 (ls : a_LS) (st : List Value) (σ : a_HP) (Q : Option Value → a_HP → Prop) : Rn 81 17 ls st σ Q = acR 81 (o_aal 18 ls st σ) ls σ Q := rn_row rfl ls st σ Q
theorem r_81_18 (ls : a_LS) (st : List Value) (σ : a_HP) (Q : Option Value → a_HP → Prop) : Rn 81 18 ls st σ Q = acR 81 (o_pi (nI 1) 19 ls st σ) ls σ Q := rn_row rfl ls st σ Q
theorem r_81_19 (ls : a_LS) (st : List Value) (σ : a_HP) (Q : Option Value → a_HP → Prop) : Rn 81 19 ls st σ Q = acR 81 (o_putz 1 0 22 ls st σ) ls σ Q := rn_row rfl ls st σ Q
theorem r_81_22 (ls : a_LS) (st : List Value) (σ : a_HP) (Q : Option Value → a_HP → Prop) : Rn 81 22 ls st σ Q = acR 81 (o_lda 0 23 ls st σ) ls σ Q := rn_row rfl ls st σ Q
theorem r_81_23 (ls : a_LS) (st : List Value) (σ : a_HP) (Q : Option Value → a_HP → Prop) : Rn 81 23 ls st σ Q = acR 81 (o_get 7 3 26 ls st σ) ls σ Q := rn_row rfl ls st σ Q
theorem r_81_26 (ls : a_LS) (st : List Value) (σ : a_HP) (Q : Option Value → a_HP → Prop) : Rn 81 26 ls st σ Q = acR 81 (o_ldi 1 27 ls st σ) ls σ Q := rn_row rfl ls st σ Q
theorem r_81_27 (ls : a_LS) (st : List Value) (σ : a_HP) (Q : Option Value → a_HP → Prop) : Rn 81 27 ls st σ Q = acR 81 (o_aal 28 ls st σ) ls σ Q := rn_row rfl ls st σ Q
theorem r_81_28 (ls : a_LS) (st : List Value) (σ : a_HP) (Q : Option Value → a_HP → Prop) : Rn 81 28 ls st σ Q = acR 81 (o_get 1 1 31 ls st σ) ls σ Q := rn_row rfl ls st σ Q
theorem r_81_31 (ls : a_LS) (st : List Value) (σ : a_HP) (Q : Option Value → a_HP → Prop) : Rn 81 31 ls st σ Q = acR 81 (o_lda 0 32 ls st σ) ls σ Q := rn_row rfl ls st σ Q
theorem r_81_32 (ls : a_LS) (st : List Value) (σ : a_HP) (Q : Option Value → a_HP → Prop) : Rn 81 32 ls st σ Q = acR 81 (o_get 7 0 35 ls st σ) ls σ Q := rn_row rfl ls st σ Q
theorem r_81_35 (ls : a_LS) (st : List Value) (σ : a_HP) (Q : Option Value → a_HP → Prop) : Rn 81 35 ls st σ Q = acR 81 (o_ivv 3 17 1 38 ls st σ) ls σ Q := rn_row rfl ls st σ Q
theorem r_81_38 (ls : a_LS) (st : List Value) (σ : a_HP) (Q : Option Value → a_HP → Prop) : Rn 81 38 ls st σ Q = acR 81 (o_lda 0 39 ls st σ) ls σ Q := rn_row rfl ls st σ Q
theorem r_81_39 (ls : a_LS) (st : List Value) (σ : a_HP) (Q : Option Value → a_HP → Prop) : Rn 81 39 ls st σ Q = acR 81 (o_get 7 3 42 ls st σ) ls σ Q := rn_row rfl ls st σ Q
theorem r_81_42 (ls : a_LS) (st : List Value) (σ : a_HP) (Q : Option Value → a_HP → Prop) : Rn 81 42 ls st σ Q = acR 81 (o_ldi 1 43 ls st σ) ls σ Q := rn_row rfl ls st σ Q
theorem r_81_43 (ls : a_LS) (st : List Value) (σ : a_HP) (Q : Option Value → a_HP → Prop) : Rn 81 43 ls st σ Q = acR 81 (o_aal 44 ls st σ) ls σ Q := rn_row rfl ls st σ Q
theorem r_81_44 (ls : a_LS) (st : List Value) (σ : a_HP) (Q : Option Value → a_HP → Prop) : Rn 81 44 ls st σ Q = acR 81 (o_get 1 2 47 ls st σ) ls σ Q := rn_row rfl ls st σ Q
theorem r_81_47 (ls : a_LS) (st : List Value) (σ : a_HP) (Q : Option Value → a_HP → Prop) : Rn 81 47 ls st σ Q = acR 81 (o_lda 0 48 ls st σ) ls σ Q := rn_row rfl ls st σ Q
theorem r_81_48 (ls : a_LS) (st : List Value) (σ : a_HP) (Q : Option Value → a_HP → Prop) : Rn 81 48 ls st σ Q = acR 81 (o_get 7 1 51 ls st σ) ls σ Q := rn_row rfl ls st σ Q
theorem r_81_51 (ls : a_LS) (st : List Value) (σ : a_HP) (Q : Option Value → a_HP → Prop) : Rn 81 51 ls st σ Q = acR 81 (o_ivv 4 31 1 54 ls st σ) ls σ Q := rn_row rfl ls st σ Q
theorem r_81_54 (ls : a_LS) (st : List Value) (σ : a_HP) (Q : Option Value → a_HP → Prop) : Rn 81 54 ls st σ Q = acR 81 (o_lda 0 55 ls st σ) ls σ Q := rn_row rfl ls st σ Q
theorem r_81_55 (ls : a_LS) (st : List Value) (σ : a_HP) (Q : Option Value → a_HP → Prop) : Rn 81 55 ls st σ Q = acR 81 (o_get 7 3 58 ls st σ) ls σ Q := rn_row rfl ls st σ Q
theorem r_81_58 (ls : a_LS) (st : List Value) (σ : a_HP) (Q : Option Value → a_HP → Prop) : Rn 81 58 ls st σ Q = acR 81 (o_ldi 1 59 ls st σ) ls σ Q := rn_row rfl ls st σ Q
theorem r_81_59 (ls : a_LS) (st : List Value) (σ : a_HP) (Q : Option Value → a_HP → Prop) : Rn 81 59 ls st σ Q = acR 81 (o_aal 60 ls st σ) ls σ Q := rn_row rfl ls st σ Q
theorem r_81_60 (ls : a_LS) (st : List Value) (σ : a_HP) (Q : Option Value → a_HP → Prop) : Rn 81 60 ls st σ Q = acR 81 (o_get 1 3 63 ls st σ) ls σ Q := rn_row rfl ls st σ Q
theorem r_81_63 (ls : a_LS) (st : List Value) (σ : a_HP) (Q : Option Value → a_HP → Prop) : Rn 81 63 ls st σ Q = acR 81 (o_lda 0 64 ls st σ) ls σ Q := rn_row rfl ls st σ Q
theorem r_81_64 (ls : a_LS) (st : List Value) (σ : a_HP) (Q : Option Value → a_HP → Prop) : Rn 81 64 ls st σ Q = acR 81 (o_get 7 2 67 ls st σ) ls σ Q := rn_row rfl ls st σ Q
theorem r_81_67 (ls : a_LS) (st : List Value) (σ : a_HP) (Q : Option Value → a_HP → Prop) : Rn 81 67 ls st σ Q = acR 81 (o_ivv 5 33 1 70 ls st σ) ls σ Q := rn_row rfl ls st σ Q
theorem r_81_70 (ls : a_LS) (st : List Value) (σ : a_HP) (Q : Option Value → a_HP → Prop) : Rn 81 70 ls st σ Q = acR 81 (o_pi (nI 1) 71 ls st σ) ls σ Q := rn_row rfl ls st σ Q
theorem r_81_71 (ls : a_LS) (st : List Value) (σ : a_HP) (Q : Option Value → a_HP → Prop) : Rn 81 71 ls st σ Q = acR 81 (o_ri ls st σ) ls σ Q := rn_row rfl ls st σ Q
/-! 82: NetLaw.from(I)I -/
theorem cl_82 (x0 : Nat) (x1 : Int32) (σ : a_HP) (Q : Option Value → a_HP → Prop) : Cl 82 [.ref x0, .int x1] σ Q = Rn 82 0 [some (.ref x0), some (.int x1)] [] σ Q := cl_of (Nat.le_of_ble_eq_true rfl) rfl σ Q
theorem r_82_0 (ls : a_LS) (st : List Value) (σ : a_HP) (Q : Option Value → a_HP → Prop) : Rn 82 0 ls st σ Q = acR 82 (o_ldi 1 1 ls st σ) ls σ Q := rn_row rfl ls st σ Q
theorem r_82_1 (ls : a_LS) (st : List Value) (σ : a_HP) (Q : Option Value → a_HP → Prop) : Rn 82 1 ls st σ Q = acR 82 (o_ivs 94 1 4 ls st σ) ls σ Q := rn_row rfl ls st σ Q
theorem r_82_4 (ls : a_LS) (st : List Value) (σ : a_HP) (Q : Option Value → a_HP → Prop) : Rn 82 4 ls st σ Q = acR 82 (o_ne 12 7 ls st σ) ls σ Q := rn_row rfl ls st σ Q
theorem r_82_7 (ls : a_LS) (st : List Value) (σ : a_HP) (Q : Option Value → a_HP → Prop) : Rn 82 7 ls st σ Q = acR 82 (o_lda 0 8 ls st σ) ls σ Q := rn_row rfl ls st σ Q
theorem r_82_8 (ls : a_LS) (st : List Value) (σ : a_HP) (Q : Option Value → a_HP → Prop) : Rn 82 8 ls st σ Q = acR 82 (o_ivv 7 87 0 11 ls st σ) ls σ Q := rn_row rfl ls st σ Q
theorem r_82_11 (ls : a_LS) (st : List Value) (σ : a_HP) (Q : Option Value → a_HP → Prop) : Rn 82 11 ls st σ Q = acR 82 (o_ri ls st σ) ls σ Q := rn_row rfl ls st σ Q
theorem r_82_12 (ls : a_LS) (st : List Value) (σ : a_HP) (Q : Option Value → a_HP → Prop) : Rn 82 12 ls st σ Q = acR 82 (o_lda 0 13 ls st σ) ls σ Q := rn_row rfl ls st σ Q
theorem r_82_13 (ls : a_LS) (st : List Value) (σ : a_HP) (Q : Option Value → a_HP → Prop) : Rn 82 13 ls st σ Q = acR 82 (o_get 7 3 16 ls st σ) ls σ Q := rn_row rfl ls st σ Q
theorem r_82_16 (ls : a_LS) (st : List Value) (σ : a_HP) (Q : Option Value → a_HP → Prop) : Rn 82 16 ls st σ Q = acR 82 (o_ldi 1 17 ls st σ) ls σ Q := rn_row rfl ls st σ Q
theorem r_82_17 (ls : a_LS) (st : List Value) (σ : a_HP) (Q : Option Value → a_HP → Prop) : Rn 82 17 ls st σ Q = acR 82 (o_aal 18 ls st σ) ls σ Q := rn_row rfl ls st σ Q
theorem r_82_18 (ls : a_LS) (st : List Value) (σ : a_HP) (Q : Option Value → a_HP → Prop) : Rn 82 18 ls st σ Q = acR 82 (o_get 1 0 21 ls st σ) ls σ Q := rn_row rfl ls st σ Q
theorem r_82_21 (ls : a_LS) (st : List Value) (σ : a_HP) (Q : Option Value → a_HP → Prop) : Rn 82 21 ls st σ Q = acR 82 (o_ne 29 24 ls st σ) ls σ Q := rn_row rfl ls st σ Q
theorem r_82_24 (ls : a_LS) (st : List Value) (σ : a_HP) (Q : Option Value → a_HP → Prop) : Rn 82 24 ls st σ Q = acR 82 (o_lda 0 25 ls st σ) ls σ Q := rn_row rfl ls st σ Q
theorem r_82_25 (ls : a_LS) (st : List Value) (σ : a_HP) (Q : Option Value → a_HP → Prop) : Rn 82 25 ls st σ Q = acR 82 (o_ivv 7 89 0 28 ls st σ) ls σ Q := rn_row rfl ls st σ Q
theorem r_82_28 (ls : a_LS) (st : List Value) (σ : a_HP) (Q : Option Value → a_HP → Prop) : Rn 82 28 ls st σ Q = acR 82 (o_ri ls st σ) ls σ Q := rn_row rfl ls st σ Q
theorem r_82_29 (ls : a_LS) (st : List Value) (σ : a_HP) (Q : Option Value → a_HP → Prop) : Rn 82 29 ls st σ Q = acR 82 (o_lda 0 30 ls st σ) ls σ Q := rn_row rfl ls st σ Q
theorem r_82_30 (ls : a_LS) (st : List Value) (σ : a_HP) (Q : Option Value → a_HP → Prop) : Rn 82 30 ls st σ Q = acR 82 (o_get 7 0 33 ls st σ) ls σ Q := rn_row rfl ls st σ Q
theorem r_82_33 (ls : a_LS) (st : List Value) (σ : a_HP) (Q : Option Value → a_HP → Prop) : Rn 82 33 ls st σ Q = acR 82 (o_lda 0 34 ls st σ) ls σ Q := rn_row rfl ls st σ Q
theorem r_82_34 (ls : a_LS) (st : List Value) (σ : a_HP) (Q : Option Value → a_HP → Prop) : Rn 82 34 ls st σ Q = acR 82 (o_get 7 3 37 ls st σ) ls σ Q := rn_row rfl ls st σ Q
theorem r_82_37 (ls : a_LS) (st : List Value) (σ : a_HP) (Q : Option Value → a_HP → Prop) : Rn 82 37 ls st σ Q = acR 82 (o_ldi 1 38 ls st σ) ls σ Q := rn_row rfl ls st σ Q
theorem r_82_38 (ls : a_LS) (st : List Value) (σ : a_HP) (Q : Option Value → a_HP → Prop) : Rn 82 38 ls st σ Q = acR 82 (o_aal 39 ls st σ) ls σ Q := rn_row rfl ls st σ Q
theorem r_82_39 (ls : a_LS) (st : List Value) (σ : a_HP) (Q : Option Value → a_HP → Prop) : Rn 82 39 ls st σ Q = acR 82 (o_get 1 1 42 ls st σ) ls σ Q := rn_row rfl ls st σ Q
theorem r_82_42 (ls : a_LS) (st : List Value) (σ : a_HP) (Q : Option Value → a_HP → Prop) : Rn 82 42 ls st σ Q = acR 82 (o_ivv 3 17 1 45 ls st σ) ls σ Q := rn_row rfl ls st σ Q
theorem r_82_45 (ls : a_LS) (st : List Value) (σ : a_HP) (Q : Option Value → a_HP → Prop) : Rn 82 45 ls st σ Q = acR 82 (o_lda 0 46 ls st σ) ls σ Q := rn_row rfl ls st σ Q
theorem r_82_46 (ls : a_LS) (st : List Value) (σ : a_HP) (Q : Option Value → a_HP → Prop) : Rn 82 46 ls st σ Q = acR 82 (o_get 7 1 49 ls st σ) ls σ Q := rn_row rfl ls st σ Q
theorem r_82_49 (ls : a_LS) (st : List Value) (σ : a_HP) (Q : Option Value → a_HP → Prop) : Rn 82 49 ls st σ Q = acR 82 (o_lda 0 50 ls st σ) ls σ Q := rn_row rfl ls st σ Q
theorem r_82_50 (ls : a_LS) (st : List Value) (σ : a_HP) (Q : Option Value → a_HP → Prop) : Rn 82 50 ls st σ Q = acR 82 (o_get 7 3 53 ls st σ) ls σ Q := rn_row rfl ls st σ Q
theorem r_82_53 (ls : a_LS) (st : List Value) (σ : a_HP) (Q : Option Value → a_HP → Prop) : Rn 82 53 ls st σ Q = acR 82 (o_ldi 1 54 ls st σ) ls σ Q := rn_row rfl ls st σ Q
theorem r_82_54 (ls : a_LS) (st : List Value) (σ : a_HP) (Q : Option Value → a_HP → Prop) : Rn 82 54 ls st σ Q = acR 82 (o_aal 55 ls st σ) ls σ Q := rn_row rfl ls st σ Q
theorem r_82_55 (ls : a_LS) (st : List Value) (σ : a_HP) (Q : Option Value → a_HP → Prop) : Rn 82 55 ls st σ Q = acR 82 (o_get 1 2 58 ls st σ) ls σ Q := rn_row rfl ls st σ Q
theorem r_82_58 (ls : a_LS) (st : List Value) (σ : a_HP) (Q : Option Value → a_HP → Prop) : Rn 82 58 ls st σ Q = acR 82 (o_ivv 4 31 1 61 ls st σ) ls σ Q := rn_row rfl ls st σ Q
theorem r_82_61 (ls : a_LS) (st : List Value) (σ : a_HP) (Q : Option Value → a_HP → Prop) : Rn 82 61 ls st σ Q = acR 82 (o_lda 0 62 ls st σ) ls σ Q := rn_row rfl ls st σ Q
theorem r_82_62 (ls : a_LS) (st : List Value) (σ : a_HP) (Q : Option Value → a_HP → Prop) : Rn 82 62 ls st σ Q = acR 82 (o_get 7 2 65 ls st σ) ls σ Q := rn_row rfl ls st σ Q
theorem r_82_65 (ls : a_LS) (st : List Value) (σ : a_HP) (Q : Option Value → a_HP → Prop) : Rn 82 65 ls st σ Q = acR 82 (o_lda 0 66 ls st σ) ls σ Q := rn_row rfl ls st σ Q
theorem r_82_66 (ls : a_LS) (st : List Value) (σ : a_HP) (Q : Option Value → a_HP → Prop) : Rn 82 66 ls st σ Q = acR 82 (o_get 7 3 69 ls st σ) ls σ Q := rn_row rfl ls st σ Q
theorem r_82_69 (ls : a_LS) (st : List Value) (σ : a_HP) (Q : Option Value → a_HP → Prop) : Rn 82 69 ls st σ Q = acR 82 (o_ldi 1 70 ls st σ) ls σ Q := rn_row rfl ls st σ Q
theorem r_82_70 (ls : a_LS) (st : List Value) (σ : a_HP) (Q : Option Value → a_HP → Prop) : Rn 82 70 ls st σ Q = acR 82 (o_aal 71 ls st σ) ls σ Q := rn_row rfl ls st σ Q
theorem r_82_71 (ls : a_LS) (st : List Value) (σ : a_HP) (Q : Option Value → a_HP → Prop) : Rn 82 71 ls st σ Q = acR 82 (o_get 1 3 74 ls st σ) ls σ Q := rn_row rfl ls st σ Q
theorem r_82_74 (ls : a_LS) (st : List Value) (σ : a_HP) (Q : Option Value → a_HP → Prop) : Rn 82 74 ls st σ Q = acR 82 (o_ivv 5 33 1 77 ls st σ) ls σ Q := rn_row rfl ls st σ Q
theorem r_82_77 (ls : a_LS) (st : List Value) (σ : a_HP) (Q : Option Value → a_HP → Prop) : Rn 82 77 ls st σ Q = acR 82 (o_pi (nI 1) 78 ls st σ) ls σ Q := rn_row rfl ls st σ Q
theorem r_82_78 (ls : a_LS) (st : List Value) (σ : a_HP) (Q : Option Value → a_HP → Prop) : Rn 82 78 ls st σ Q = acR 82 (o_ri ls st σ) ls σ Q := rn_row rfl ls st σ Q
/-! 83: NetLaw.status(I)I -/
theorem cl_83 (x0 : Nat) (x1 : Int32) (σ : a_HP) (Q : Option Value → a_HP → Prop) : Cl 83 [.ref x0, .int x1] σ Q = Rn 83 0 [some (.ref x0), some (.int x1)] [] σ Q := cl_of (Nat.le_of_ble_eq_true rfl) rfl σ Q
theorem r_83_0 (ls : a_LS) (st : List Value) (σ : a_HP) (Q : Option Value → a_HP → Prop) : Rn 83 0 ls st σ Q = acR 83 (o_ldi 1 1 ls st σ) ls σ Q := rn_row rfl ls st σ Q
theorem r_83_1 (ls : a_LS) (st : List Value) (σ : a_HP) (Q : Option Value → a_HP → Prop) : Rn 83 1 ls st σ Q = acR 83 (o_pi (nI 0) 2 ls st σ) ls σ Q := rn_row rfl ls st σ Q
theorem r_83_2 (ls : a_LS) (st : List Value) (σ : a_HP) (Q : Option Value → a_HP → Prop) : Rn 83 2 ls st σ Q = acR 83 (o_pi (nI 2) 3 ls st σ) ls σ Q := rn_row rfl ls st σ Q
theorem r_83_3 (ls : a_LS) (st : List Value) (σ : a_HP) (Q : Option Value → a_HP → Prop) : Rn 83 3 ls st σ Q = acR 83 (o_ivs 91 3 6 ls st σ) ls σ Q := rn_row rfl ls st σ Q
theorem r_83_6 (ls : a_LS) (st : List Value) (σ : a_HP) (Q : Option Value → a_HP → Prop) : Rn 83 6 ls st σ Q = acR 83 (o_ne 16 9 ls st σ) ls σ Q := rn_row rfl ls st σ Q
theorem r_83_9 (ls : a_LS) (st : List Value) (σ : a_HP) (Q : Option Value → a_HP → Prop) : Rn 83 9 ls st σ Q = acR 83 (o_lda 0 10 ls st σ) ls σ Q := rn_row rfl ls st σ Q
theorem r_83_10 (ls : a_LS) (st : List Value) (σ : a_HP) (Q : Option Value → a_HP → Prop) : Rn 83 10 ls st σ Q = acR 83 (o_pi (nI 0) 11 ls st σ) ls σ Q := rn_row rfl ls st σ Q
theorem r_83_11 (ls : a_LS) (st : List Value) (σ : a_HP) (Q : Option Value → a_HP → Prop) : Rn 83 11 ls st σ Q = acR 83 (o_pi (-1) 12 ls st σ) ls σ Q := rn_row rfl ls st σ Q
theorem r_83_12 (ls : a_LS) (st : List Value) (σ : a_HP) (Q : Option Value → a_HP → Prop) : Rn 83 12 ls st σ Q = acR 83 (o_ivv 7 86 2 15 ls st σ) ls σ Q := rn_row rfl ls st σ Q
theorem r_83_15 (ls : a_LS) (st : List Value) (σ : a_HP) (Q : Option Value → a_HP → Prop) : Rn 83 15 ls st σ Q = acR 83 (o_ri ls st σ) ls σ Q := rn_row rfl ls st σ Q
theorem r_83_16 (ls : a_LS) (st : List Value) (σ : a_HP) (Q : Option Value → a_HP → Prop) : Rn 83 16 ls st σ Q = acR 83 (o_lda 0 17 ls st σ) ls σ Q := rn_row rfl ls st σ Q
theorem r_83_17 (ls : a_LS) (st : List Value) (σ : a_HP) (Q : Option Value → a_HP → Prop) : Rn 83 17 ls st σ Q = acR 83 (o_get 7 6 20 ls st σ) ls σ Q := rn_row rfl ls st σ Q
theorem r_83_20 (ls : a_LS) (st : List Value) (σ : a_HP) (Q : Option Value → a_HP → Prop) : Rn 83 20 ls st σ Q = acR 83 (o_ldi 1 21 ls st σ) ls σ Q := rn_row rfl ls st σ Q
theorem r_83_21 (ls : a_LS) (st : List Value) (σ : a_HP) (Q : Option Value → a_HP → Prop) : Rn 83 21 ls st σ Q = acR 83 (o_ial 22 ls st σ) ls σ Q := rn_row rfl ls st σ Q
theorem r_83_22 (ls : a_LS) (st : List Value) (σ : a_HP) (Q : Option Value → a_HP → Prop) : Rn 83 22 ls st σ Q = acR 83 (o_ri ls st σ) ls σ Q := rn_row rfl ls st σ Q
/-! 84: NetLaw.count(I)I -/
theorem cl_84 (x0 : Nat) (x1 : Int32) (σ : a_HP) (Q : Option Value → a_HP → Prop) : Cl 84 [.ref x0, .int x1] σ Q = Rn 84 0 [some (.ref x0), some (.int x1)] [] σ Q := cl_of (Nat.le_of_ble_eq_true rfl) rfl σ Q
theorem r_84_0 (ls : a_LS) (st : List Value) (σ : a_HP) (Q : Option Value → a_HP → Prop) : Rn 84 0 ls st σ Q = acR 84 (o_ldi 1 1 ls st σ) ls σ Q := rn_row rfl ls st σ Q
theorem r_84_1 (ls : a_LS) (st : List Value) (σ : a_HP) (Q : Option Value → a_HP → Prop) : Rn 84 1 ls st σ Q = acR 84 (o_pi (nI 0) 2 ls st σ) ls σ Q := rn_row rfl ls st σ Q
theorem r_84_2 (ls : a_LS) (st : List Value) (σ : a_HP) (Q : Option Value → a_HP → Prop) : Rn 84 2 ls st σ Q = acR 84 (o_pi (nI 7) 4 ls st σ) ls σ Q := rn_row rfl ls st σ Q
theorem r_84_4 (ls : a_LS) (st : List Value) (σ : a_HP) (Q : Option Value → a_HP → Prop) : Rn 84 4 ls st σ Q = acR 84 (o_ivs 91 3 7 ls st σ) ls σ Q := rn_row rfl ls st σ Q
theorem r_84_7 (ls : a_LS) (st : List Value) (σ : a_HP) (Q : Option Value → a_HP → Prop) : Rn 84 7 ls st σ Q = acR 84 (o_eq 18 10 ls st σ) ls σ Q := rn_row rfl ls st σ Q
theorem r_84_10 (ls : a_LS) (st : List Value) (σ : a_HP) (Q : Option Value → a_HP → Prop) : Rn 84 10 ls st σ Q = acR 84 (o_lda 0 11 ls st σ) ls σ Q := rn_row rfl ls st σ Q
theorem r_84_11 (ls : a_LS) (st : List Value) (σ : a_HP) (Q : Option Value → a_HP → Prop) : Rn 84 11 ls st σ Q = acR 84 (o_ldi 1 12 ls st σ) ls σ Q := rn_row rfl ls st σ Q
theorem r_84_12 (ls : a_LS) (st : List Value) (σ : a_HP) (Q : Option Value → a_HP → Prop) : Rn 84 12 ls st σ Q = acR 84 (o_ivv 7 98 1 15 ls st σ) ls σ Q := rn_row rfl ls st σ Q
theorem r_84_15 (ls : a_LS) (st : List Value) (σ : a_HP) (Q : Option Value → a_HP → Prop) : Rn 84 15 ls st σ Q = acR 84 (o_go 22 ls st σ) ls σ Q := rn_row rfl ls st σ Q
theorem r_84_18 (ls : a_LS) (st : List Value) (σ : a_HP) (Q : Option Value → a_HP → Prop) : Rn 84 18 ls st σ Q = acR 84 (o_lda 0 19 ls st σ) ls σ Q := rn_row rfl ls st σ Q
theorem r_84_19 (ls : a_LS) (st : List Value) (σ : a_HP) (Q : Option Value → a_HP → Prop) : Rn 84 19 ls st σ Q = acR 84 (o_ivv 7 87 0 22 ls st σ) ls σ Q := rn_row rfl ls st σ Q
theorem r_84_22 (ls : a_LS) (st : List Value) (σ : a_HP) (Q : Option Value → a_HP → Prop) : Rn 84 22 ls st σ Q = acR 84 (o_ri ls st σ) ls σ Q := rn_row rfl ls st σ Q
/-! 85: NetLaw.digest()J -/
theorem cl_85 (x0 : Nat) (σ : a_HP) (Q : Option Value → a_HP → Prop) : Cl 85 [.ref x0] σ Q = Rn 85 0 [some (.ref x0), none, none, none] [] σ Q := cl_of (Nat.le_of_ble_eq_true rfl) rfl σ Q
theorem r_85_0 (ls : a_LS) (st : List Value) (σ : a_HP) (Q : Option Value → a_HP → Prop) : Rn 85 0 ls st σ Q = acR 85 (o_pl (lN 1087) 3 ls st σ) ls σ Q := rn_row rfl ls st σ Q
theorem r_85_3 (ls : a_LS) (st : List Value) (σ : a_HP) (Q : Option Value → a_HP → Prop) : Rn 85 3 ls st σ Q = acR 85 (o_stl 1 4 ls st σ) ls σ Q := rn_row rfl ls st σ Q
theorem r_85_4 (ls : a_LS) (st : List Value) (σ : a_HP) (Q : Option Value → a_HP → Prop) : Rn 85 4 ls st σ Q = acR 85 (o_pi (nI 0) 5 ls st σ) ls σ Q := rn_row rfl ls st σ Q
theorem r_85_5 (ls : a_LS) (st : List Value) (σ : a_HP) (Q : Option Value → a_HP → Prop) : Rn 85 5 ls st σ Q = acR 85 (o_sti 3 6 ls st σ) ls σ Q := rn_row rfl ls st σ Q
theorem r_85_6 (ls : a_LS) (st : List Value) (σ : a_HP) (Q : Option Value → a_HP → Prop) : Rn 85 6 ls st σ Q = acR 85 (o_ldi 3 7 ls st σ) ls σ Q := rn_row rfl ls st σ Q
theorem r_85_7 (ls : a_LS) (st : List Value) (σ : a_HP) (Q : Option Value → a_HP → Prop) : Rn 85 7 ls st σ Q = acR 85 (o_pi (nI 8) 9 ls st σ) ls σ Q := rn_row rfl ls st σ Q
theorem r_85_9 (ls : a_LS) (st : List Value) (σ : a_HP) (Q : Option Value → a_HP → Prop) : Rn 85 9 ls st σ Q = acR 85 (o_cge 31 12 ls st σ) ls σ Q := rn_row rfl ls st σ Q
theorem r_85_12 (ls : a_LS) (st : List Value) (σ : a_HP) (Q : Option Value → a_HP → Prop) : Rn 85 12 ls st σ Q = acR 85 (o_pl (lN 31) 15 ls st σ) ls σ Q := rn_row rfl ls st σ Q
theorem r_85_15 (ls : a_LS) (st : List Value) (σ : a_HP) (Q : Option Value → a_HP → Prop) : Rn 85 15 ls st σ Q = acR 85 (o_ldl 1 16 ls st σ) ls σ Q := rn_row rfl ls st σ Q
theorem r_85_16 (ls : a_LS) (st : List Value) (σ : a_HP) (Q : Option Value → a_HP → Prop) : Rn 85 16 ls st σ Q = acR 85 (o_bl g_mul 17 ls st σ) ls σ Q := rn_row rfl ls st σ Q
theorem r_85_17 (ls : a_LS) (st : List Value) (σ : a_HP) (Q : Option Value → a_HP → Prop) : Rn 85 17 ls st σ Q = acR 85 (o_lda 0 18 ls st σ) ls σ Q := rn_row rfl ls st σ Q
theorem r_85_18 (ls : a_LS) (st : List Value) (σ : a_HP) (Q : Option Value → a_HP → Prop) : Rn 85 18 ls st σ Q = acR 85 (o_ldi 3 19 ls st σ) ls σ Q := rn_row rfl ls st σ Q
theorem r_85_19 (ls : a_LS) (st : List Value) (σ : a_HP) (Q : Option Value → a_HP → Prop) : Rn 85 19 ls st σ Q = acR 85 (o_ivv 7 98 1 22 ls st σ) ls σ Q := rn_row rfl ls st σ Q
theorem r_85_22 (ls : a_LS) (st : List Value) (σ : a_HP) (Q : Option Value → a_HP → Prop) : Rn 85 22 ls st σ Q = acR 85 (o_i2l 23 ls st σ) ls σ Q := rn_row rfl ls st σ Q
theorem r_85_23 (ls : a_LS) (st : List Value) (σ : a_HP) (Q : Option Value → a_HP → Prop) : Rn 85 23 ls st σ Q = acR 85 (o_bl g_add 24 ls st σ) ls σ Q := rn_row rfl ls st σ Q
theorem r_85_24 (ls : a_LS) (st : List Value) (σ : a_HP) (Q : Option Value → a_HP → Prop) : Rn 85 24 ls st σ Q = acR 85 (o_stl 1 25 ls st σ) ls σ Q := rn_row rfl ls st σ Q
theorem r_85_25 (ls : a_LS) (st : List Value) (σ : a_HP) (Q : Option Value → a_HP → Prop) : Rn 85 25 ls st σ Q = acR 85 (o_inc 3 (nI 1) 28 ls st σ) ls σ Q := rn_row rfl ls st σ Q
theorem r_85_28 (ls : a_LS) (st : List Value) (σ : a_HP) (Q : Option Value → a_HP → Prop) : Rn 85 28 ls st σ Q = acR 85 (o_go 6 ls st σ) ls σ Q := rn_row rfl ls st σ Q
theorem r_85_31 (ls : a_LS) (st : List Value) (σ : a_HP) (Q : Option Value → a_HP → Prop) : Rn 85 31 ls st σ Q = acR 85 (o_lda 0 32 ls st σ) ls σ Q := rn_row rfl ls st σ Q
theorem r_85_32 (ls : a_LS) (st : List Value) (σ : a_HP) (Q : Option Value → a_HP → Prop) : Rn 85 32 ls st σ Q = acR 85 (o_get 7 0 35 ls st σ) ls σ Q := rn_row rfl ls st σ Q
theorem r_85_35 (ls : a_LS) (st : List Value) (σ : a_HP) (Q : Option Value → a_HP → Prop) : Rn 85 35 ls st σ Q = acR 85 (o_ldl 1 36 ls st σ) ls σ Q := rn_row rfl ls st σ Q
theorem r_85_36 (ls : a_LS) (st : List Value) (σ : a_HP) (Q : Option Value → a_HP → Prop) : Rn 85 36 ls st σ Q = acR 85 (o_ivv 3 28 1 39 ls st σ) ls σ Q := rn_row rfl ls st σ Q
theorem r_85_39 (ls : a_LS) (st : List Value) (σ : a_HP) (Q : Option Value → a_HP → Prop) : Rn 85 39 ls st σ Q = acR 85 (o_stl 1 40 ls st σ) ls σ Q := rn_row rfl ls st σ Q
theorem r_85_40 (ls : a_LS) (st : List Value) (σ : a_HP) (Q : Option Value → a_HP → Prop) : Rn 85 40 ls st σ Q = acR 85 (o_lda 0 41 ls st σ) ls σ Q := rn_row rfl ls st σ Q
theorem r_85_41 (ls : a_LS) (st : List Value) (σ : a_HP) (Q : Option Value → a_HP → Prop) : Rn 85 41 ls st σ Q = acR 85 (o_get 7 2 44 ls st σ) ls σ Q := rn_row rfl ls st σ Q
theorem r_85_44 (ls : a_LS) (st : List Value) (σ : a_HP) (Q : Option Value → a_HP → Prop) : Rn 85 44 ls st σ Q = acR 85 (o_ldl 1 45 ls st σ) ls σ Q := rn_row rfl ls st σ Q
theorem r_85_45 (ls : a_LS) (st : List Value) (σ : a_HP) (Q : Option Value → a_HP → Prop) : Rn 85 45 ls st σ Q = acR 85 (o_ivv 5 39 1 48 ls st σ) ls σ Q := rn_row rfl ls st σ Q
theorem r_85_48 (ls : a_LS) (st : List Value) (σ : a_HP) (Q : Option Value → a_HP → Prop) : Rn 85 48 ls st σ Q = acR 85 (o_stl 1 49 ls st σ) ls σ Q := rn_row rfl ls st σ Q
theorem r_85_49 (ls : a_LS) (st : List Value) (σ : a_HP) (Q : Option Value → a_HP → Prop) : Rn 85 49 ls st σ Q = acR 85 (o_pl (lN 31) 52 ls st σ) ls σ Q := rn_row rfl ls st σ Q
theorem r_85_52 (ls : a_LS) (st : List Value) (σ : a_HP) (Q : Option Value → a_HP → Prop) : Rn 85 52 ls st σ Q = acR 85 (o_ldl 1 53 ls st σ) ls σ Q := rn_row rfl ls st σ Q
theorem r_85_53 (ls : a_LS) (st : List Value) (σ : a_HP) (Q : Option Value → a_HP → Prop) : Rn 85 53 ls st σ Q = acR 85 (o_bl g_mul 54 ls st σ) ls σ Q := rn_row rfl ls st σ Q
theorem r_85_54 (ls : a_LS) (st : List Value) (σ : a_HP) (Q : Option Value → a_HP → Prop) : Rn 85 54 ls st σ Q = acR 85 (o_lda 0 55 ls st σ) ls σ Q := rn_row rfl ls st σ Q
theorem r_85_55 (ls : a_LS) (st : List Value) (σ : a_HP) (Q : Option Value → a_HP → Prop) : Rn 85 55 ls st σ Q = acR 85 (o_get 7 5 58 ls st σ) ls σ Q := rn_row rfl ls st σ Q
theorem r_85_58 (ls : a_LS) (st : List Value) (σ : a_HP) (Q : Option Value → a_HP → Prop) : Rn 85 58 ls st σ Q = acR 85 (o_get 0 0 61 ls st σ) ls σ Q := rn_row rfl ls st σ Q
theorem r_85_61 (ls : a_LS) (st : List Value) (σ : a_HP) (Q : Option Value → a_HP → Prop) : Rn 85 61 ls st σ Q = acR 85 (o_bl g_add 62 ls st σ) ls σ Q := rn_row rfl ls st σ Q
theorem r_85_62 (ls : a_LS) (st : List Value) (σ : a_HP) (Q : Option Value → a_HP → Prop) : Rn 85 62 ls st σ Q = acR 85 (o_stl 1 63 ls st σ) ls σ Q := rn_row rfl ls st σ Q
theorem r_85_63 (ls : a_LS) (st : List Value) (σ : a_HP) (Q : Option Value → a_HP → Prop) : Rn 85 63 ls st σ Q = acR 85 (o_pl (lN 31) 66 ls st σ) ls σ Q := rn_row rfl ls st σ Q
theorem r_85_66 (ls : a_LS) (st : List Value) (σ : a_HP) (Q : Option Value → a_HP → Prop) : Rn 85 66 ls st σ Q = acR 85 (o_ldl 1 67 ls st σ) ls σ Q := rn_row rfl ls st σ Q
theorem r_85_67 (ls : a_LS) (st : List Value) (σ : a_HP) (Q : Option Value → a_HP → Prop) : Rn 85 67 ls st σ Q = acR 85 (o_bl g_mul 68 ls st σ) ls σ Q := rn_row rfl ls st σ Q
theorem r_85_68 (ls : a_LS) (st : List Value) (σ : a_HP) (Q : Option Value → a_HP → Prop) : Rn 85 68 ls st σ Q = acR 85 (o_lda 0 69 ls st σ) ls σ Q := rn_row rfl ls st σ Q
theorem r_85_69 (ls : a_LS) (st : List Value) (σ : a_HP) (Q : Option Value → a_HP → Prop) : Rn 85 69 ls st σ Q = acR 85 (o_get 7 5 72 ls st σ) ls σ Q := rn_row rfl ls st σ Q
theorem r_85_72 (ls : a_LS) (st : List Value) (σ : a_HP) (Q : Option Value → a_HP → Prop) : Rn 85 72 ls st σ Q = acR 85 (o_get 0 1 75 ls st σ) ls σ Q := rn_row rfl ls st σ Q
theorem r_85_75 (ls : a_LS) (st : List Value) (σ : a_HP) (Q : Option Value → a_HP → Prop) : Rn 85 75 ls st σ Q = acR 85 (o_bl g_add 76 ls st σ) ls σ Q := rn_row rfl ls st σ Q
theorem r_85_76 (ls : a_LS) (st : List Value) (σ : a_HP) (Q : Option Value → a_HP → Prop) : Rn 85 76 ls st σ Q = acR 85 (o_rl ls st σ) ls σ Q := rn_row rfl ls st σ Q
/-! 86: NetLaw.refuse(II)I -/
theorem cl_86 (x0 : Nat) (x1 : Int32) (x2 : Int32) (σ : a_HP) (Q : Option Value → a_HP → Prop) : Cl 86 [.ref x0, .int x1, .int x2] σ Q = Rn 86 0 [some (.ref x0), some (.int x1), some (.int x2)] [] σ Q := cl_of (Nat.le_of_ble_eq_true rfl) rfl σ Q
theorem r_86_0 (ls : a_LS) (st : List Value) (σ : a_HP) (Q : Option Value → a_HP → Prop) : Rn 86 0 ls st σ Q = acR 86 (o_lda 0 1 ls st σ) ls σ Q := rn_row rfl ls st σ Q
theorem r_86_1 (ls : a_LS) (st : List Value) (σ : a_HP) (Q : Option Value → a_HP → Prop) : Rn 86 1 ls st σ Q = acR 86 (o_get 7 6 4 ls st σ) ls σ Q := rn_row rfl ls st σ Q
theorem r_86_4 (ls : a_LS) (st : List Value) (σ : a_HP) (Q : Option Value → a_HP → Prop) : Rn 86 4 ls st σ Q = acR 86 (o_ldi 1 5 ls st σ) ls σ Q := rn_row rfl ls st σ Q
theorem r_86_5 (ls : a_LS) (st : List Value) (σ : a_HP) (Q : Option Value → a_HP → Prop) : Rn 86 5 ls st σ Q = acR 86 (o_dup2 6 ls st σ) ls σ Q := rn_row rfl ls st σ Q
theorem r_86_6 (ls : a_LS) (st : List Value) (σ : a_HP) (Q : Option Value → a_HP → Prop) : Rn 86 6 ls st σ Q = acR 86 (o_ial 7 ls st σ) ls σ Q := rn_row rfl ls st σ Q
theorem r_86_7 (ls : a_LS) (st : List Value) (σ : a_HP) (Q : Option Value → a_HP → Prop) : Rn 86 7 ls st σ Q = acR 86 (o_pi (nI 1) 8 ls st σ) ls σ Q := rn_row rfl ls st σ Q
theorem r_86_8 (ls : a_LS) (st : List Value) (σ : a_HP) (Q : Option Value → a_HP → Prop) : Rn 86 8 ls st σ Q = acR 86 (o_bi f_add 9 ls st σ) ls σ Q := rn_row rfl ls st σ Q
theorem r_86_9 (ls : a_LS) (st : List Value) (σ : a_HP) (Q : Option Value → a_HP → Prop) : Rn 86 9 ls st σ Q = acR 86 (o_ias 10 ls st σ) ls σ Q := rn_row rfl ls st σ Q
theorem r_86_10 (ls : a_LS) (st : List Value) (σ : a_HP) (Q : Option Value → a_HP → Prop) : Rn 86 10 ls st σ Q = acR 86 (o_ldi 2 11 ls st σ) ls σ Q := rn_row rfl ls st σ Q
theorem r_86_11 (ls : a_LS) (st : List Value) (σ : a_HP) (Q : Option Value → a_HP → Prop) : Rn 86 11 ls st σ Q = acR 86 (o_ri ls st σ) ls σ Q := rn_row rfl ls st σ Q
/-! 87: NetLaw.bad()I -/
theorem cl_87 (x0 : Nat) (σ : a_HP) (Q : Option Value → a_HP → Prop) : Cl 87 [.ref x0] σ Q = Rn 87 0 [some (.ref x0)] [] σ Q := cl_of (Nat.le_of_ble_eq_true rfl) rfl σ Q
theorem r_87_0 (ls : a_LS) (st : List Value) (σ : a_HP) (Q : Option Value → a_HP → Prop) : Rn 87 0 ls st σ Q = acR 87 (o_lda 0 1 ls st σ) ls σ Q := rn_row rfl ls st σ Q
theorem r_87_1 (ls : a_LS) (st : List Value) (σ : a_HP) (Q : Option Value → a_HP → Prop) : Rn 87 1 ls st σ Q = acR 87 (o_pi (nI 0) 2 ls st σ) ls σ Q := rn_row rfl ls st σ Q
theorem r_87_2 (ls : a_LS) (st : List Value) (σ : a_HP) (Q : Option Value → a_HP → Prop) : Rn 87 2 ls st σ Q = acR 87 (o_pi (-2) 4 ls st σ) ls σ Q := rn_row rfl ls st σ Q
theorem r_87_4 (ls : a_LS) (st : List Value) (σ : a_HP) (Q : Option Value → a_HP → Prop) : Rn 87 4 ls st σ Q = acR 87 (o_ivv 7 86 2 7 ls st σ) ls σ Q := rn_row rfl ls st σ Q
theorem r_87_7 (ls : a_LS) (st : List Value) (σ : a_HP) (Q : Option Value → a_HP → Prop) : Rn 87 7 ls st σ Q = acR 87 (o_ri ls st σ) ls σ Q := rn_row rfl ls st σ Q
/-! 88: NetLaw.badByTen()I -/
theorem cl_88 (x0 : Nat) (σ : a_HP) (Q : Option Value → a_HP → Prop) : Cl 88 [.ref x0] σ Q = Rn 88 0 [some (.ref x0)] [] σ Q := cl_of (Nat.le_of_ble_eq_true rfl) rfl σ Q
theorem r_88_0 (ls : a_LS) (st : List Value) (σ : a_HP) (Q : Option Value → a_HP → Prop) : Rn 88 0 ls st σ Q = acR 88 (o_lda 0 1 ls st σ) ls σ Q := rn_row rfl ls st σ Q
theorem r_88_1 (ls : a_LS) (st : List Value) (σ : a_HP) (Q : Option Value → a_HP → Prop) : Rn 88 1 ls st σ Q = acR 88 (o_pi (nI 0) 2 ls st σ) ls σ Q := rn_row rfl ls st σ Q
theorem r_88_2 (ls : a_LS) (st : List Value) (σ : a_HP) (Q : Option Value → a_HP → Prop) : Rn 88 2 ls st σ Q = acR 88 (o_pi (-10) 4 ls st σ) ls σ Q := rn_row rfl ls st σ Q
theorem r_88_4 (ls : a_LS) (st : List Value) (σ : a_HP) (Q : Option Value → a_HP → Prop) : Rn 88 4 ls st σ Q = acR 88 (o_ivv 7 86 2 7 ls st σ) ls σ Q := rn_row rfl ls st σ Q
theorem r_88_7 (ls : a_LS) (st : List Value) (σ : a_HP) (Q : Option Value → a_HP → Prop) : Rn 88 7 ls st σ Q = acR 88 (o_ri ls st σ) ls σ Q := rn_row rfl ls st σ Q
/-! 89: NetLaw.no()I -/
theorem cl_89 (x0 : Nat) (σ : a_HP) (Q : Option Value → a_HP → Prop) : Cl 89 [.ref x0] σ Q = Rn 89 0 [some (.ref x0)] [] σ Q := cl_of (Nat.le_of_ble_eq_true rfl) rfl σ Q
theorem r_89_0 (ls : a_LS) (st : List Value) (σ : a_HP) (Q : Option Value → a_HP → Prop) : Rn 89 0 ls st σ Q = acR 89 (o_lda 0 1 ls st σ) ls σ Q := rn_row rfl ls st σ Q
theorem r_89_1 (ls : a_LS) (st : List Value) (σ : a_HP) (Q : Option Value → a_HP → Prop) : Rn 89 1 ls st σ Q = acR 89 (o_pi (nI 1) 2 ls st σ) ls σ Q := rn_row rfl ls st σ Q
theorem r_89_2 (ls : a_LS) (st : List Value) (σ : a_HP) (Q : Option Value → a_HP → Prop) : Rn 89 2 ls st σ Q = acR 89 (o_pi (-3) 4 ls st σ) ls σ Q := rn_row rfl ls st σ Q
theorem r_89_4 (ls : a_LS) (st : List Value) (σ : a_HP) (Q : Option Value → a_HP → Prop) : Rn 89 4 ls st σ Q = acR 89 (o_ivv 7 86 2 7 ls st σ) ls σ Q := rn_row rfl ls st σ Q
theorem r_89_7 (ls : a_LS) (st : List Value) (σ : a_HP) (Q : Option Value → a_HP → Prop) : Rn 89 7 ls st σ Q = acR 89 (o_ri ls st σ) ls σ Q := rn_row rfl ls st σ Q
/-! 90: NetLaw.full()I -/
theorem cl_90 (x0 : Nat) (σ : a_HP) (Q : Option Value → a_HP → Prop) : Cl 90 [.ref x0] σ Q = Rn 90 0 [some (.ref x0)] [] σ Q := cl_of (Nat.le_of_ble_eq_true rfl) rfl σ Q
theorem r_90_0 (ls : a_LS) (st : List Value) (σ : a_HP) (Q : Option Value → a_HP → Prop) : Rn 90 0 ls st σ Q = acR 90 (o_lda 0 1 ls st σ) ls σ Q := rn_row rfl ls st σ Q
theorem r_90_1 (ls : a_LS) (st : List Value) (σ : a_HP) (Q : Option Value → a_HP → Prop) : Rn 90 1 ls st σ Q = acR 90 (o_pi (nI 2) 2 ls st σ) ls σ Q := rn_row rfl ls st σ Q
theorem r_90_2 (ls : a_LS) (st : List Value) (σ : a_HP) (Q : Option Value → a_HP → Prop) : Rn 90 2 ls st σ Q = acR 90 (o_pi (-4) 4 ls st σ) ls σ Q := rn_row rfl ls st σ Q
theorem r_90_4 (ls : a_LS) (st : List Value) (σ : a_HP) (Q : Option Value → a_HP → Prop) : Rn 90 4 ls st σ Q = acR 90 (o_ivv 7 86 2 7 ls st σ) ls σ Q := rn_row rfl ls st σ Q
theorem r_90_7 (ls : a_LS) (st : List Value) (σ : a_HP) (Q : Option Value → a_HP → Prop) : Rn 90 7 ls st σ Q = acR 90 (o_ri ls st σ) ls σ Q := rn_row rfl ls st σ Q
/-! 91: NetLaw.within(III)Z -/
theorem cl_91 (x0 : Int32) (x1 : Int32) (x2 : Int32) (σ : a_HP) (Q : Option Value → a_HP → Prop) : Cl 91 [.int x0, .int x1, .int x2] σ Q = Rn 91 0 [some (.int x0), some (.int x1), some (.int x2)] [] σ Q := cl_of (Nat.le_of_ble_eq_true rfl) rfl σ Q
theorem r_91_0 (ls : a_LS) (st : List Value) (σ : a_HP) (Q : Option Value → a_HP → Prop) : Rn 91 0 ls st σ Q = acR 91 (o_ldi 1 1 ls st σ) ls σ Q := rn_row rfl ls st σ Q
theorem r_91_1 (ls : a_LS) (st : List Value) (σ : a_HP) (Q : Option Value → a_HP → Prop) : Rn 91 1 ls st σ Q = acR 91 (o_ldi 0 2 ls st σ) ls σ Q := rn_row rfl ls st σ Q
theorem r_91_2 (ls : a_LS) (st : List Value) (σ : a_HP) (Q : Option Value → a_HP → Prop) : Rn 91 2 ls st σ Q = acR 91 (o_cgt 14 5 ls st σ) ls σ Q := rn_row rfl ls st σ Q
theorem r_91_5 (ls : a_LS) (st : List Value) (σ : a_HP) (Q : Option Value → a_HP → Prop) : Rn 91 5 ls st σ Q = acR 91 (o_ldi 0 6 ls st σ) ls σ Q := rn_row rfl ls st σ Q
theorem r_91_6 (ls : a_LS) (st : List Value) (σ : a_HP) (Q : Option Value → a_HP → Prop) : Rn 91 6 ls st σ Q = acR 91 (o_ldi 2 7 ls st σ) ls σ Q := rn_row rfl ls st σ Q
theorem r_91_7 (ls : a_LS) (st : List Value) (σ : a_HP) (Q : Option Value → a_HP → Prop) : Rn 91 7 ls st σ Q = acR 91 (o_cgt 14 10 ls st σ) ls σ Q := rn_row rfl ls st σ Q
theorem r_91_10 (ls : a_LS) (st : List Value) (σ : a_HP) (Q : Option Value → a_HP → Prop) : Rn 91 10 ls st σ Q = acR 91 (o_pi (nI 1) 11 ls st σ) ls σ Q := rn_row rfl ls st σ Q
theorem r_91_11 (ls : a_LS) (st : List Value) (σ : a_HP) (Q : Option Value → a_HP → Prop) : Rn 91 11 ls st σ Q = acR 91 (o_go 15 ls st σ) ls σ Q := rn_row rfl ls st σ Q
theorem r_91_14 (ls : a_LS) (st : List Value) (σ : a_HP) (Q : Option Value → a_HP → Prop) : Rn 91 14 ls st σ Q = acR 91 (o_pi (nI 0) 15 ls st σ) ls σ Q := rn_row rfl ls st σ Q
theorem r_91_15 (ls : a_LS) (st : List Value) (σ : a_HP) (Q : Option Value → a_HP → Prop) : Rn 91 15 ls st σ Q = acR 91 (o_rz ls st σ) ls σ Q := rn_row rfl ls st σ Q
/-! 92: NetLaw.isKnot(I)Z -/
theorem cl_92 (x0 : Int32) (σ : a_HP) (Q : Option Value → a_HP → Prop) : Cl 92 [.int x0] σ Q = Rn 92 0 [some (.int x0)] [] σ Q := cl_of (Nat.le_of_ble_eq_true rfl) rfl σ Q
theorem r_92_0 (ls : a_LS) (st : List Value) (σ : a_HP) (Q : Option Value → a_HP → Prop) : Rn 92 0 ls st σ Q = acR 92 (o_ldi 0 1 ls st σ) ls σ Q := rn_row rfl ls st σ Q
theorem r_92_1 (ls : a_LS) (st : List Value) (σ : a_HP) (Q : Option Value → a_HP → Prop) : Rn 92 1 ls st σ Q = acR 92 (o_pi (nI 0) 2 ls st σ) ls σ Q := rn_row rfl ls st σ Q
theorem r_92_2 (ls : a_LS) (st : List Value) (σ : a_HP) (Q : Option Value → a_HP → Prop) : Rn 92 2 ls st σ Q = acR 92 (o_pi (nI 15) 4 ls st σ) ls σ Q := rn_row rfl ls st σ Q
theorem r_92_4 (ls : a_LS) (st : List Value) (σ : a_HP) (Q : Option Value → a_HP → Prop) : Rn 92 4 ls st σ Q = acR 92 (o_ivs 91 3 7 ls st σ) ls σ Q := rn_row rfl ls st σ Q
theorem r_92_7 (ls : a_LS) (st : List Value) (σ : a_HP) (Q : Option Value → a_HP → Prop) : Rn 92 7 ls st σ Q = acR 92 (o_rz ls st σ) ls σ Q := rn_row rfl ls st σ Q
/-! 93: NetLaw.isClause(I)Z -/
theorem cl_93 (x0 : Int32) (σ : a_HP) (Q : Option Value → a_HP → Prop) : Cl 93 [.int x0] σ Q = Rn 93 0 [some (.int x0)] [] σ Q := cl_of (Nat.le_of_ble_eq_true rfl) rfl σ Q
theorem r_93_0 (ls : a_LS) (st : List Value) (σ : a_HP) (Q : Option Value → a_HP → Prop) : Rn 93 0 ls st σ Q = acR 93 (o_ldi 0 1 ls st σ) ls σ Q := rn_row rfl ls st σ Q
theorem r_93_1 (ls : a_LS) (st : List Value) (σ : a_HP) (Q : Option Value → a_HP → Prop) : Rn 93 1 ls st σ Q = acR 93 (o_pi (nI 0) 2 ls st σ) ls σ Q := rn_row rfl ls st σ Q
theorem r_93_2 (ls : a_LS) (st : List Value) (σ : a_HP) (Q : Option Value → a_HP → Prop) : Rn 93 2 ls st σ Q = acR 93 (o_pi (nI 8) 4 ls st σ) ls σ Q := rn_row rfl ls st σ Q
theorem r_93_4 (ls : a_LS) (st : List Value) (σ : a_HP) (Q : Option Value → a_HP → Prop) : Rn 93 4 ls st σ Q = acR 93 (o_ivs 91 3 7 ls st σ) ls σ Q := rn_row rfl ls st σ Q
theorem r_93_7 (ls : a_LS) (st : List Value) (σ : a_HP) (Q : Option Value → a_HP → Prop) : Rn 93 7 ls st σ Q = acR 93 (o_rz ls st σ) ls σ Q := rn_row rfl ls st σ Q
/-! 94: NetLaw.isImage(I)Z -/
theorem cl_94 (x0 : Int32) (σ : a_HP) (Q : Option Value → a_HP → Prop) : Cl 94 [.int x0] σ Q = Rn 94 0 [some (.int x0)] [] σ Q := cl_of (Nat.le_of_ble_eq_true rfl) rfl σ Q
theorem r_94_0 (ls : a_LS) (st : List Value) (σ : a_HP) (Q : Option Value → a_HP → Prop) : Rn 94 0 ls st σ Q = acR 94 (o_ldi 0 1 ls st σ) ls σ Q := rn_row rfl ls st σ Q
theorem r_94_1 (ls : a_LS) (st : List Value) (σ : a_HP) (Q : Option Value → a_HP → Prop) : Rn 94 1 ls st σ Q = acR 94 (o_pi (nI 0) 2 ls st σ) ls σ Q := rn_row rfl ls st σ Q
theorem r_94_2 (ls : a_LS) (st : List Value) (σ : a_HP) (Q : Option Value → a_HP → Prop) : Rn 94 2 ls st σ Q = acR 94 (o_pi (nI 1) 3 ls st σ) ls σ Q := rn_row rfl ls st σ Q
theorem r_94_3 (ls : a_LS) (st : List Value) (σ : a_HP) (Q : Option Value → a_HP → Prop) : Rn 94 3 ls st σ Q = acR 94 (o_ivs 91 3 6 ls st σ) ls σ Q := rn_row rfl ls st σ Q
theorem r_94_6 (ls : a_LS) (st : List Value) (σ : a_HP) (Q : Option Value → a_HP → Prop) : Rn 94 6 ls st σ Q = acR 94 (o_rz ls st σ) ls σ Q := rn_row rfl ls st σ Q
/-! 95: NetLaw.netFits(II)Z -/
theorem cl_95 (x0 : Int32) (x1 : Int32) (σ : a_HP) (Q : Option Value → a_HP → Prop) : Cl 95 [.int x0, .int x1] σ Q = Rn 95 0 [some (.int x0), some (.int x1)] [] σ Q := cl_of (Nat.le_of_ble_eq_true rfl) rfl σ Q
theorem r_95_0 (ls : a_LS) (st : List Value) (σ : a_HP) (Q : Option Value → a_HP → Prop) : Rn 95 0 ls st σ Q = acR 95 (o_ldi 0 1 ls st σ) ls σ Q := rn_row rfl ls st σ Q
theorem r_95_1 (ls : a_LS) (st : List Value) (σ : a_HP) (Q : Option Value → a_HP → Prop) : Rn 95 1 ls st σ Q = acR 95 (o_pi (nI 0) 2 ls st σ) ls σ Q := rn_row rfl ls st σ Q
theorem r_95_2 (ls : a_LS) (st : List Value) (σ : a_HP) (Q : Option Value → a_HP → Prop) : Rn 95 2 ls st σ Q = acR 95 (o_pi (nI 1) 3 ls st σ) ls σ Q := rn_row rfl ls st σ Q
theorem r_95_3 (ls : a_LS) (st : List Value) (σ : a_HP) (Q : Option Value → a_HP → Prop) : Rn 95 3 ls st σ Q = acR 95 (o_ivs 91 3 6 ls st σ) ls σ Q := rn_row rfl ls st σ Q
theorem r_95_6 (ls : a_LS) (st : List Value) (σ : a_HP) (Q : Option Value → a_HP → Prop) : Rn 95 6 ls st σ Q = acR 95 (o_eq 23 9 ls st σ) ls σ Q := rn_row rfl ls st σ Q
theorem r_95_9 (ls : a_LS) (st : List Value) (σ : a_HP) (Q : Option Value → a_HP → Prop) : Rn 95 9 ls st σ Q = acR 95 (o_ldi 1 10 ls st σ) ls σ Q := rn_row rfl ls st σ Q
theorem r_95_10 (ls : a_LS) (st : List Value) (σ : a_HP) (Q : Option Value → a_HP → Prop) : Rn 95 10 ls st σ Q = acR 95 (o_pi (nI 0) 11 ls st σ) ls σ Q := rn_row rfl ls st σ Q
theorem r_95_11 (ls : a_LS) (st : List Value) (σ : a_HP) (Q : Option Value → a_HP → Prop) : Rn 95 11 ls st σ Q = acR 95 (o_pi (nI 99) 13 ls st σ) ls σ Q := rn_row rfl ls st σ Q
theorem r_95_13 (ls : a_LS) (st : List Value) (σ : a_HP) (Q : Option Value → a_HP → Prop) : Rn 95 13 ls st σ Q = acR 95 (o_ivs 91 3 16 ls st σ) ls σ Q := rn_row rfl ls st σ Q
theorem r_95_16 (ls : a_LS) (st : List Value) (σ : a_HP) (Q : Option Value → a_HP → Prop) : Rn 95 16 ls st σ Q = acR 95 (o_eq 23 19 ls st σ) ls σ Q := rn_row rfl ls st σ Q
theorem r_95_19 (ls : a_LS) (st : List Value) (σ : a_HP) (Q : Option Value → a_HP → Prop) : Rn 95 19 ls st σ Q = acR 95 (o_pi (nI 1) 20 ls st σ) ls σ Q := rn_row rfl ls st σ Q
theorem r_95_20 (ls : a_LS) (st : List Value) (σ : a_HP) (Q : Option Value → a_HP → Prop) : Rn 95 20 ls st σ Q = acR 95 (o_go 24 ls st σ) ls σ Q := rn_row rfl ls st σ Q
theorem r_95_23 (ls : a_LS) (st : List Value) (σ : a_HP) (Q : Option Value → a_HP → Prop) : Rn 95 23 ls st σ Q = acR 95 (o_pi (nI 0) 24 ls st σ) ls σ Q := rn_row rfl ls st σ Q
theorem r_95_24 (ls : a_LS) (st : List Value) (σ : a_HP) (Q : Option Value → a_HP → Prop) : Rn 95 24 ls st σ Q = acR 95 (o_rz ls st σ) ls σ Q := rn_row rfl ls st σ Q
/-! 96: NetLaw.tieFits(IIII)Z -/
theorem cl_96 (x0 : Int32) (x1 : Int32) (x2 : Int32) (x3 : Int32) (σ : a_HP) (Q : Option Value → a_HP → Prop) : Cl 96 [.int x0, .int x1, .int x2, .int x3] σ Q = Rn 96 0 [some (.int x0), some (.int x1), some (.int x2), some (.int x3)] [] σ Q := cl_of (Nat.le_of_ble_eq_true rfl) rfl σ Q
theorem r_96_0 (ls : a_LS) (st : List Value) (σ : a_HP) (Q : Option Value → a_HP → Prop) : Rn 96 0 ls st σ Q = acR 96 (o_ldi 0 1 ls st σ) ls σ Q := rn_row rfl ls st σ Q
theorem r_96_1 (ls : a_LS) (st : List Value) (σ : a_HP) (Q : Option Value → a_HP → Prop) : Rn 96 1 ls st σ Q = acR 96 (o_ivs 92 1 4 ls st σ) ls σ Q := rn_row rfl ls st σ Q
theorem r_96_4 (ls : a_LS) (st : List Value) (σ : a_HP) (Q : Option Value → a_HP → Prop) : Rn 96 4 ls st σ Q = acR 96 (o_eq 39 7 ls st σ) ls σ Q := rn_row rfl ls st σ Q
theorem r_96_7 (ls : a_LS) (st : List Value) (σ : a_HP) (Q : Option Value → a_HP → Prop) : Rn 96 7 ls st σ Q = acR 96 (o_ldi 1 8 ls st σ) ls σ Q := rn_row rfl ls st σ Q
theorem r_96_8 (ls : a_LS) (st : List Value) (σ : a_HP) (Q : Option Value → a_HP → Prop) : Rn 96 8 ls st σ Q = acR 96 (o_pi (nI 0) 9 ls st σ) ls σ Q := rn_row rfl ls st σ Q
theorem r_96_9 (ls : a_LS) (st : List Value) (σ : a_HP) (Q : Option Value → a_HP → Prop) : Rn 96 9 ls st σ Q = acR 96 (o_pi (nI 5) 10 ls st σ) ls σ Q := rn_row rfl ls st σ Q
theorem r_96_10 (ls : a_LS) (st : List Value) (σ : a_HP) (Q : Option Value → a_HP → Prop) : Rn 96 10 ls st σ Q = acR 96 (o_ivs 91 3 13 ls st σ) ls σ Q := rn_row rfl ls st σ Q
theorem r_96_13 (ls : a_LS) (st : List Value) (σ : a_HP) (Q : Option Value → a_HP → Prop) : Rn 96 13 ls st σ Q = acR 96 (o_eq 39 16 ls st σ) ls σ Q := rn_row rfl ls st σ Q
theorem r_96_16 (ls : a_LS) (st : List Value) (σ : a_HP) (Q : Option Value → a_HP → Prop) : Rn 96 16 ls st σ Q = acR 96 (o_ldi 2 17 ls st σ) ls σ Q := rn_row rfl ls st σ Q
theorem r_96_17 (ls : a_LS) (st : List Value) (σ : a_HP) (Q : Option Value → a_HP → Prop) : Rn 96 17 ls st σ Q = acR 96 (o_pi (nI 1) 18 ls st σ) ls σ Q := rn_row rfl ls st σ Q
theorem r_96_18 (ls : a_LS) (st : List Value) (σ : a_HP) (Q : Option Value → a_HP → Prop) : Rn 96 18 ls st σ Q = acR 96 (o_pi (nI 9) 20 ls st σ) ls σ Q := rn_row rfl ls st σ Q
theorem r_96_20 (ls : a_LS) (st : List Value) (σ : a_HP) (Q : Option Value → a_HP → Prop) : Rn 96 20 ls st σ Q = acR 96 (o_ivs 91 3 23 ls st σ) ls σ Q := rn_row rfl ls st σ Q
theorem r_96_23 (ls : a_LS) (st : List Value) (σ : a_HP) (Q : Option Value → a_HP → Prop) : Rn 96 23 ls st σ Q = acR 96 (o_eq 39 26 ls st σ) ls σ Q := rn_row rfl ls st σ Q
theorem r_96_26 (ls : a_LS) (st : List Value) (σ : a_HP) (Q : Option Value → a_HP → Prop) : Rn 96 26 ls st σ Q = acR 96 (o_ldi 3 27 ls st σ) ls σ Q := rn_row rfl ls st σ Q
theorem r_96_27 (ls : a_LS) (st : List Value) (σ : a_HP) (Q : Option Value → a_HP → Prop) : Rn 96 27 ls st σ Q = acR 96 (o_pi (nI 0) 28 ls st σ) ls σ Q := rn_row rfl ls st σ Q
theorem r_96_28 (ls : a_LS) (st : List Value) (σ : a_HP) (Q : Option Value → a_HP → Prop) : Rn 96 28 ls st σ Q = acR 96 (o_pi (nI 2) 29 ls st σ) ls σ Q := rn_row rfl ls st σ Q
theorem r_96_29 (ls : a_LS) (st : List Value) (σ : a_HP) (Q : Option Value → a_HP → Prop) : Rn 96 29 ls st σ Q = acR 96 (o_ivs 91 3 32 ls st σ) ls σ Q := rn_row rfl ls st σ Q
theorem r_96_32 (ls : a_LS) (st : List Value) (σ : a_HP) (Q : Option Value → a_HP → Prop) : Rn 96 32 ls st σ Q = acR 96 (o_eq 39 35 ls st σ) ls σ Q := rn_row rfl ls st σ Q
theorem r_96_35 (ls : a_LS) (st : List Value) (σ : a_HP) (Q : Option Value → a_HP → Prop) : Rn 96 35 ls st σ Q = acR 96 (o_pi (nI 1) 36 ls st σ) ls σ Q := rn_row rfl ls st σ Q
theorem r_96_36 (ls : a_LS) (st : List Value) (σ : a_HP) (Q : Option Value → a_HP → Prop) : Rn 96 36 ls st σ Q = acR 96 (o_go 40 ls st σ) ls σ Q := rn_row rfl ls st σ Q
theorem r_96_39 (ls : a_LS) (st : List Value) (σ : a_HP) (Q : Option Value → a_HP → Prop) : Rn 96 39 ls st σ Q = acR 96 (o_pi (nI 0) 40 ls st σ) ls σ Q := rn_row rfl ls st σ Q
theorem r_96_40 (ls : a_LS) (st : List Value) (σ : a_HP) (Q : Option Value → a_HP → Prop) : Rn 96 40 ls st σ Q = acR 96 (o_rz ls st σ) ls σ Q := rn_row rfl ls st σ Q
/-! 97: NetLaw.wideFits(II)Z -/
theorem cl_97 (x0 : Int32) (x1 : Int32) (σ : a_HP) (Q : Option Value → a_HP → Prop) : Cl 97 [.int x0, .int x1] σ Q = Rn 97 0 [some (.int x0), some (.int x1)] [] σ Q := cl_of (Nat.le_of_ble_eq_true rfl) rfl σ Q
theorem r_97_0 (ls : a_LS) (st : List Value) (σ : a_HP) (Q : Option Value → a_HP → Prop) : Rn 97 0 ls st σ Q = acR 97 (o_ldi 0 1 ls st σ) ls σ Q := rn_row rfl ls st σ Q
theorem r_97_1 (ls : a_LS) (st : List Value) (σ : a_HP) (Q : Option Value → a_HP → Prop) : Rn 97 1 ls st σ Q = acR 97 (o_ivs 93 1 4 ls st σ) ls σ Q := rn_row rfl ls st σ Q
theorem r_97_4 (ls : a_LS) (st : List Value) (σ : a_HP) (Q : Option Value → a_HP → Prop) : Rn 97 4 ls st σ Q = acR 97 (o_eq 21 7 ls st σ) ls σ Q := rn_row rfl ls st σ Q
theorem r_97_7 (ls : a_LS) (st : List Value) (σ : a_HP) (Q : Option Value → a_HP → Prop) : Rn 97 7 ls st σ Q = acR 97 (o_ldi 1 8 ls st σ) ls σ Q := rn_row rfl ls st σ Q
theorem r_97_8 (ls : a_LS) (st : List Value) (σ : a_HP) (Q : Option Value → a_HP → Prop) : Rn 97 8 ls st σ Q = acR 97 (o_pi (nI 0) 9 ls st σ) ls σ Q := rn_row rfl ls st σ Q
theorem r_97_9 (ls : a_LS) (st : List Value) (σ : a_HP) (Q : Option Value → a_HP → Prop) : Rn 97 9 ls st σ Q = acR 97 (o_pi (nI 30) 11 ls st σ) ls σ Q := rn_row rfl ls st σ Q
theorem r_97_11 (ls : a_LS) (st : List Value) (σ : a_HP) (Q : Option Value → a_HP → Prop) : Rn 97 11 ls st σ Q = acR 97 (o_ivs 91 3 14 ls st σ) ls σ Q := rn_row rfl ls st σ Q
theorem r_97_14 (ls : a_LS) (st : List Value) (σ : a_HP) (Q : Option Value → a_HP → Prop) : Rn 97 14 ls st σ Q = acR 97 (o_eq 21 17 ls st σ) ls σ Q := rn_row rfl ls st σ Q
theorem r_97_17 (ls : a_LS) (st : List Value) (σ : a_HP) (Q : Option Value → a_HP → Prop) : Rn 97 17 ls st σ Q = acR 97 (o_pi (nI 1) 18 ls st σ) ls σ Q := rn_row rfl ls st σ Q
theorem r_97_18 (ls : a_LS) (st : List Value) (σ : a_HP) (Q : Option Value → a_HP → Prop) : Rn 97 18 ls st σ Q = acR 97 (o_go 22 ls st σ) ls σ Q := rn_row rfl ls st σ Q
theorem r_97_21 (ls : a_LS) (st : List Value) (σ : a_HP) (Q : Option Value → a_HP → Prop) : Rn 97 21 ls st σ Q = acR 97 (o_pi (nI 0) 22 ls st σ) ls σ Q := rn_row rfl ls st σ Q
theorem r_97_22 (ls : a_LS) (st : List Value) (σ : a_HP) (Q : Option Value → a_HP → Prop) : Rn 97 22 ls st σ Q = acR 97 (o_rz ls st σ) ls σ Q := rn_row rfl ls st σ Q
/-! 98: NetLaw.howMany(I)I -/
theorem cl_98 (x0 : Nat) (x1 : Int32) (σ : a_HP) (Q : Option Value → a_HP → Prop) : Cl 98 [.ref x0, .int x1] σ Q = Rn 98 0 [some (.ref x0), some (.int x1)] [] σ Q := cl_of (Nat.le_of_ble_eq_true rfl) rfl σ Q
theorem r_98_0 (ls : a_LS) (st : List Value) (σ : a_HP) (Q : Option Value → a_HP → Prop) : Rn 98 0 ls st σ Q = acR 98 (o_ldi 1 1 ls st σ) ls σ Q := rn_row rfl ls st σ Q
theorem r_98_1 (ls : a_LS) (st : List Value) (σ : a_HP) (Q : Option Value → a_HP → Prop) : Rn 98 1 ls st σ Q = acR 98 (o_sw [((nI 0), 44), ((nI 1), 52), ((nI 2), 60), ((nI 3), 68), ((nI 4), 76), ((nI 5), 84), ((nI 6), 92)] 100 ls st σ) ls σ Q := rn_row rfl ls st σ Q
theorem r_98_44 (ls : a_LS) (st : List Value) (σ : a_HP) (Q : Option Value → a_HP → Prop) : Rn 98 44 ls st σ Q = acR 98 (o_lda 0 45 ls st σ) ls σ Q := rn_row rfl ls st σ Q
theorem r_98_45 (ls : a_LS) (st : List Value) (σ : a_HP) (Q : Option Value → a_HP → Prop) : Rn 98 45 ls st σ Q = acR 98 (o_get 7 0 48 ls st σ) ls σ Q := rn_row rfl ls st σ Q
theorem r_98_48 (ls : a_LS) (st : List Value) (σ : a_HP) (Q : Option Value → a_HP → Prop) : Rn 98 48 ls st σ Q = acR 98 (o_ivv 3 20 0 51 ls st σ) ls σ Q := rn_row rfl ls st σ Q
theorem r_98_51 (ls : a_LS) (st : List Value) (σ : a_HP) (Q : Option Value → a_HP → Prop) : Rn 98 51 ls st σ Q = acR 98 (o_ri ls st σ) ls σ Q := rn_row rfl ls st σ Q
theorem r_98_52 (ls : a_LS) (st : List Value) (σ : a_HP) (Q : Option Value → a_HP → Prop) : Rn 98 52 ls st σ Q = acR 98 (o_lda 0 53 ls st σ) ls σ Q := rn_row rfl ls st σ Q
theorem r_98_53 (ls : a_LS) (st : List Value) (σ : a_HP) (Q : Option Value → a_HP → Prop) : Rn 98 53 ls st σ Q = acR 98 (o_get 7 0 56 ls st σ) ls σ Q := rn_row rfl ls st σ Q
theorem r_98_56 (ls : a_LS) (st : List Value) (σ : a_HP) (Q : Option Value → a_HP → Prop) : Rn 98 56 ls st σ Q = acR 98 (o_get 3 0 59 ls st σ) ls σ Q := rn_row rfl ls st σ Q
theorem r_98_59 (ls : a_LS) (st : List Value) (σ : a_HP) (Q : Option Value → a_HP → Prop) : Rn 98 59 ls st σ Q = acR 98 (o_ri ls st σ) ls σ Q := rn_row rfl ls st σ Q
theorem r_98_60 (ls : a_LS) (st : List Value) (σ : a_HP) (Q : Option Value → a_HP → Prop) : Rn 98 60 ls st σ Q = acR 98 (o_lda 0 61 ls st σ) ls σ Q := rn_row rfl ls st σ Q
theorem r_98_61 (ls : a_LS) (st : List Value) (σ : a_HP) (Q : Option Value → a_HP → Prop) : Rn 98 61 ls st σ Q = acR 98 (o_get 7 0 64 ls st σ) ls σ Q := rn_row rfl ls st σ Q
theorem r_98_64 (ls : a_LS) (st : List Value) (σ : a_HP) (Q : Option Value → a_HP → Prop) : Rn 98 64 ls st σ Q = acR 98 (o_get 3 1 67 ls st σ) ls σ Q := rn_row rfl ls st σ Q
theorem r_98_67 (ls : a_LS) (st : List Value) (σ : a_HP) (Q : Option Value → a_HP → Prop) : Rn 98 67 ls st σ Q = acR 98 (o_ri ls st σ) ls σ Q := rn_row rfl ls st σ Q
theorem r_98_68 (ls : a_LS) (st : List Value) (σ : a_HP) (Q : Option Value → a_HP → Prop) : Rn 98 68 ls st σ Q = acR 98 (o_lda 0 69 ls st σ) ls σ Q := rn_row rfl ls st σ Q
theorem r_98_69 (ls : a_LS) (st : List Value) (σ : a_HP) (Q : Option Value → a_HP → Prop) : Rn 98 69 ls st σ Q = acR 98 (o_get 7 0 72 ls st σ) ls σ Q := rn_row rfl ls st σ Q
theorem r_98_72 (ls : a_LS) (st : List Value) (σ : a_HP) (Q : Option Value → a_HP → Prop) : Rn 98 72 ls st σ Q = acR 98 (o_get 3 2 75 ls st σ) ls σ Q := rn_row rfl ls st σ Q
theorem r_98_75 (ls : a_LS) (st : List Value) (σ : a_HP) (Q : Option Value → a_HP → Prop) : Rn 98 75 ls st σ Q = acR 98 (o_ri ls st σ) ls σ Q := rn_row rfl ls st σ Q
theorem r_98_76 (ls : a_LS) (st : List Value) (σ : a_HP) (Q : Option Value → a_HP → Prop) : Rn 98 76 ls st σ Q = acR 98 (o_lda 0 77 ls st σ) ls σ Q := rn_row rfl ls st σ Q
theorem r_98_77 (ls : a_LS) (st : List Value) (σ : a_HP) (Q : Option Value → a_HP → Prop) : Rn 98 77 ls st σ Q = acR 98 (o_get 7 0 80 ls st σ) ls σ Q := rn_row rfl ls st σ Q
theorem r_98_80 (ls : a_LS) (st : List Value) (σ : a_HP) (Q : Option Value → a_HP → Prop) : Rn 98 80 ls st σ Q = acR 98 (o_get 3 3 83 ls st σ) ls σ Q := rn_row rfl ls st σ Q
theorem r_98_83 (ls : a_LS) (st : List Value) (σ : a_HP) (Q : Option Value → a_HP → Prop) : Rn 98 83 ls st σ Q = acR 98 (o_ri ls st σ) ls σ Q := rn_row rfl ls st σ Q
theorem r_98_84 (ls : a_LS) (st : List Value) (σ : a_HP) (Q : Option Value → a_HP → Prop) : Rn 98 84 ls st σ Q = acR 98 (o_lda 0 85 ls st σ) ls σ Q := rn_row rfl ls st σ Q
theorem r_98_85 (ls : a_LS) (st : List Value) (σ : a_HP) (Q : Option Value → a_HP → Prop) : Rn 98 85 ls st σ Q = acR 98 (o_get 7 2 88 ls st σ) ls σ Q := rn_row rfl ls st σ Q
theorem r_98_88 (ls : a_LS) (st : List Value) (σ : a_HP) (Q : Option Value → a_HP → Prop) : Rn 98 88 ls st σ Q = acR 98 (o_get 5 0 91 ls st σ) ls σ Q := rn_row rfl ls st σ Q
theorem r_98_91 (ls : a_LS) (st : List Value) (σ : a_HP) (Q : Option Value → a_HP → Prop) : Rn 98 91 ls st σ Q = acR 98 (o_ri ls st σ) ls σ Q := rn_row rfl ls st σ Q
theorem r_98_92 (ls : a_LS) (st : List Value) (σ : a_HP) (Q : Option Value → a_HP → Prop) : Rn 98 92 ls st σ Q = acR 98 (o_lda 0 93 ls st σ) ls σ Q := rn_row rfl ls st σ Q
theorem r_98_93 (ls : a_LS) (st : List Value) (σ : a_HP) (Q : Option Value → a_HP → Prop) : Rn 98 93 ls st σ Q = acR 98 (o_get 7 1 96 ls st σ) ls σ Q := rn_row rfl ls st σ Q
theorem r_98_96 (ls : a_LS) (st : List Value) (σ : a_HP) (Q : Option Value → a_HP → Prop) : Rn 98 96 ls st σ Q = acR 98 (o_get 4 0 99 ls st σ) ls σ Q := rn_row rfl ls st σ Q
theorem r_98_99 (ls : a_LS) (st : List Value) (σ : a_HP) (Q : Option Value → a_HP → Prop) : Rn 98 99 ls st σ Q = acR 98 (o_ri ls st σ) ls σ Q := rn_row rfl ls st σ Q
theorem r_98_100 (ls : a_LS) (st : List Value) (σ : a_HP) (Q : Option Value → a_HP → Prop) : Rn 98 100 ls st σ Q = acR 98 (o_lda 0 101 ls st σ) ls σ Q := rn_row rfl ls st σ Q
theorem r_98_101 (ls : a_LS) (st : List Value) (σ : a_HP) (Q : Option Value → a_HP → Prop) : Rn 98 101 ls st σ Q = acR 98 (o_get 7 4 104 ls st σ) ls σ Q := rn_row rfl ls st σ Q
theorem r_98_104 (ls : a_LS) (st : List Value) (σ : a_HP) (Q : Option Value → a_HP → Prop) : Rn 98 104 ls st σ Q = acR 98 (o_get 6 0 107 ls st σ) ls σ Q := rn_row rfl ls st σ Q
theorem r_98_107 (ls : a_LS) (st : List Value) (σ : a_HP) (Q : Option Value → a_HP → Prop) : Rn 98 107 ls st σ Q = acR 98 (o_ri ls st σ) ls σ Q := rn_row rfl ls st σ Q
/-! 99: NetLaw.tellAnew(II)V -/
theorem cl_99 (x0 : Nat) (x1 : Int32) (x2 : Int32) (σ : a_HP) (Q : Option Value → a_HP → Prop) : Cl 99 [.ref x0, .int x1, .int x2] σ Q = Rn 99 0 [some (.ref x0), some (.int x1), some (.int x2)] [] σ Q := cl_of (Nat.le_of_ble_eq_true rfl) rfl σ Q
theorem r_99_0 (ls : a_LS) (st : List Value) (σ : a_HP) (Q : Option Value → a_HP → Prop) : Rn 99 0 ls st σ Q = acR 99 (o_lda 0 1 ls st σ) ls σ Q := rn_row rfl ls st σ Q
theorem r_99_1 (ls : a_LS) (st : List Value) (σ : a_HP) (Q : Option Value → a_HP → Prop) : Rn 99 1 ls st σ Q = acR 99 (o_get 7 0 4 ls st σ) ls σ Q := rn_row rfl ls st σ Q
theorem r_99_4 (ls : a_LS) (st : List Value) (σ : a_HP) (Q : Option Value → a_HP → Prop) : Rn 99 4 ls st σ Q = acR 99 (o_ldi 1 5 ls st σ) ls σ Q := rn_row rfl ls st σ Q
theorem r_99_5 (ls : a_LS) (st : List Value) (σ : a_HP) (Q : Option Value → a_HP → Prop) : Rn 99 5 ls st σ Q = acR 99 (o_ldi 2 6 ls st σ) ls σ Q := rn_row rfl ls st σ Q
theorem r_99_6 (ls : a_LS) (st : List Value) (σ : a_HP) (Q : Option Value → a_HP → Prop) : Rn 99 6 ls st σ Q = acR 99 (o_ivv 3 16 2 9 ls st σ) ls σ Q := rn_row rfl ls st σ Q
theorem r_99_9 (ls : a_LS) (st : List Value) (σ : a_HP) (Q : Option Value → a_HP → Prop) : Rn 99 9 ls st σ Q = acR 99 (o_lda 0 10 ls st σ) ls σ Q := rn_row rfl ls st σ Q
theorem r_99_10 (ls : a_LS) (st : List Value) (σ : a_HP) (Q : Option Value → a_HP → Prop) : Rn 99 10 ls st σ Q = acR 99 (o_get 7 1 13 ls st σ) ls σ Q := rn_row rfl ls st σ Q
theorem r_99_13 (ls : a_LS) (st : List Value) (σ : a_HP) (Q : Option Value → a_HP → Prop) : Rn 99 13 ls st σ Q = acR 99 (o_pi (nI 0) 14 ls st σ) ls σ Q := rn_row rfl ls st σ Q
theorem r_99_14 (ls : a_LS) (st : List Value) (σ : a_HP) (Q : Option Value → a_HP → Prop) : Rn 99 14 ls st σ Q = acR 99 (o_put 4 0 17 ls st σ) ls σ Q := rn_row rfl ls st σ Q
theorem r_99_17 (ls : a_LS) (st : List Value) (σ : a_HP) (Q : Option Value → a_HP → Prop) : Rn 99 17 ls st σ Q = acR 99 (o_lda 0 18 ls st σ) ls σ Q := rn_row rfl ls st σ Q
theorem r_99_18 (ls : a_LS) (st : List Value) (σ : a_HP) (Q : Option Value → a_HP → Prop) : Rn 99 18 ls st σ Q = acR 99 (o_get 7 2 21 ls st σ) ls σ Q := rn_row rfl ls st σ Q
theorem r_99_21 (ls : a_LS) (st : List Value) (σ : a_HP) (Q : Option Value → a_HP → Prop) : Rn 99 21 ls st σ Q = acR 99 (o_pi (nI 0) 22 ls st σ) ls σ Q := rn_row rfl ls st σ Q
theorem r_99_22 (ls : a_LS) (st : List Value) (σ : a_HP) (Q : Option Value → a_HP → Prop) : Rn 99 22 ls st σ Q = acR 99 (o_put 5 0 25 ls st σ) ls σ Q := rn_row rfl ls st σ Q
theorem r_99_25 (ls : a_LS) (st : List Value) (σ : a_HP) (Q : Option Value → a_HP → Prop) : Rn 99 25 ls st σ Q = acR 99 (o_rv ls st σ) ls σ Q := rn_row rfl ls st σ Q
/-! 100: NetLaw.firstRefusedItem()I -/
theorem cl_100 (x0 : Nat) (σ : a_HP) (Q : Option Value → a_HP → Prop) : Cl 100 [.ref x0] σ Q = Rn 100 0 [some (.ref x0), none] [] σ Q := cl_of (Nat.le_of_ble_eq_true rfl) rfl σ Q
theorem r_100_0 (ls : a_LS) (st : List Value) (σ : a_HP) (Q : Option Value → a_HP → Prop) : Rn 100 0 ls st σ Q = acR 100 (o_pi (nI 0) 1 ls st σ) ls σ Q := rn_row rfl ls st σ Q
theorem r_100_1 (ls : a_LS) (st : List Value) (σ : a_HP) (Q : Option Value → a_HP → Prop) : Rn 100 1 ls st σ Q = acR 100 (o_sti 1 2 ls st σ) ls σ Q := rn_row rfl ls st σ Q
theorem r_100_2 (ls : a_LS) (st : List Value) (σ : a_HP) (Q : Option Value → a_HP → Prop) : Rn 100 2 ls st σ Q = acR 100 (o_ldi 1 3 ls st σ) ls σ Q := rn_row rfl ls st σ Q
theorem r_100_3 (ls : a_LS) (st : List Value) (σ : a_HP) (Q : Option Value → a_HP → Prop) : Rn 100 3 ls st σ Q = acR 100 (o_lda 0 4 ls st σ) ls σ Q := rn_row rfl ls st σ Q
theorem r_100_4 (ls : a_LS) (st : List Value) (σ : a_HP) (Q : Option Value → a_HP → Prop) : Rn 100 4 ls st σ Q = acR 100 (o_get 7 4 7 ls st σ) ls σ Q := rn_row rfl ls st σ Q
theorem r_100_7 (ls : a_LS) (st : List Value) (σ : a_HP) (Q : Option Value → a_HP → Prop) : Rn 100 7 ls st σ Q = acR 100 (o_get 6 1 10 ls st σ) ls σ Q := rn_row rfl ls st σ Q
theorem r_100_10 (ls : a_LS) (st : List Value) (σ : a_HP) (Q : Option Value → a_HP → Prop) : Rn 100 10 ls st σ Q = acR 100 (o_cge 29 13 ls st σ) ls σ Q := rn_row rfl ls st σ Q
theorem r_100_13 (ls : a_LS) (st : List Value) (σ : a_HP) (Q : Option Value → a_HP → Prop) : Rn 100 13 ls st σ Q = acR 100 (o_lda 0 14 ls st σ) ls σ Q := rn_row rfl ls st σ Q
theorem r_100_14 (ls : a_LS) (st : List Value) (σ : a_HP) (Q : Option Value → a_HP → Prop) : Rn 100 14 ls st σ Q = acR 100 (o_ldi 1 15 ls st σ) ls σ Q := rn_row rfl ls st σ Q
theorem r_100_15 (ls : a_LS) (st : List Value) (σ : a_HP) (Q : Option Value → a_HP → Prop) : Rn 100 15 ls st σ Q = acR 100 (o_ivv 7 101 1 18 ls st σ) ls σ Q := rn_row rfl ls st σ Q
theorem r_100_18 (ls : a_LS) (st : List Value) (σ : a_HP) (Q : Option Value → a_HP → Prop) : Rn 100 18 ls st σ Q = acR 100 (o_ne 23 21 ls st σ) ls σ Q := rn_row rfl ls st σ Q
theorem r_100_21 (ls : a_LS) (st : List Value) (σ : a_HP) (Q : Option Value → a_HP → Prop) : Rn 100 21 ls st σ Q = acR 100 (o_ldi 1 22 ls st σ) ls σ Q := rn_row rfl ls st σ Q
theorem r_100_22 (ls : a_LS) (st : List Value) (σ : a_HP) (Q : Option Value → a_HP → Prop) : Rn 100 22 ls st σ Q = acR 100 (o_ri ls st σ) ls σ Q := rn_row rfl ls st σ Q
theorem r_100_23 (ls : a_LS) (st : List Value) (σ : a_HP) (Q : Option Value → a_HP → Prop) : Rn 100 23 ls st σ Q = acR 100 (o_inc 1 (nI 1) 26 ls st σ) ls σ Q := rn_row rfl ls st σ Q
theorem r_100_26 (ls : a_LS) (st : List Value) (σ : a_HP) (Q : Option Value → a_HP → Prop) : Rn 100 26 ls st σ Q = acR 100 (o_go 2 ls st σ) ls σ Q := rn_row rfl ls st σ Q
theorem r_100_29 (ls : a_LS) (st : List Value) (σ : a_HP) (Q : Option Value → a_HP → Prop) : Rn 100 29 ls st σ Q = acR 100 (o_pi (-1) 30 ls st σ) ls σ Q := rn_row rfl ls st σ Q
theorem r_100_30 (ls : a_LS) (st : List Value) (σ : a_HP) (Q : Option Value → a_HP → Prop) : Rn 100 30 ls st σ Q = acR 100 (o_ri ls st σ) ls σ Q := rn_row rfl ls st σ Q
/-! 101: NetLaw.itemFits(I)Z -/
theorem cl_101 (x0 : Nat) (x1 : Int32) (σ : a_HP) (Q : Option Value → a_HP → Prop) : Cl 101 [.ref x0, .int x1] σ Q = Rn 101 0 [some (.ref x0), some (.int x1)] [] σ Q := cl_of (Nat.le_of_ble_eq_true rfl) rfl σ Q
theorem r_101_0 (ls : a_LS) (st : List Value) (σ : a_HP) (Q : Option Value → a_HP → Prop) : Rn 101 0 ls st σ Q = acR 101 (o_lda 0 1 ls st σ) ls σ Q := rn_row rfl ls st σ Q
theorem r_101_1 (ls : a_LS) (st : List Value) (σ : a_HP) (Q : Option Value → a_HP → Prop) : Rn 101 1 ls st σ Q = acR 101 (o_get 7 4 4 ls st σ) ls σ Q := rn_row rfl ls st σ Q
theorem r_101_4 (ls : a_LS) (st : List Value) (σ : a_HP) (Q : Option Value → a_HP → Prop) : Rn 101 4 ls st σ Q = acR 101 (o_ldi 1 5 ls st σ) ls σ Q := rn_row rfl ls st σ Q
theorem r_101_5 (ls : a_LS) (st : List Value) (σ : a_HP) (Q : Option Value → a_HP → Prop) : Rn 101 5 ls st σ Q = acR 101 (o_ivv 6 41 1 8 ls st σ) ls σ Q := rn_row rfl ls st σ Q
theorem r_101_8 (ls : a_LS) (st : List Value) (σ : a_HP) (Q : Option Value → a_HP → Prop) : Rn 101 8 ls st σ Q = acR 101 (o_sw [((nI 0), 36), ((nI 1), 58)] 98 ls st σ) ls σ Q := rn_row rfl ls st σ Q
theorem r_101_36 (ls : a_LS) (st : List Value) (σ : a_HP) (Q : Option Value → a_HP → Prop) : Rn 101 36 ls st σ Q = acR 101 (o_lda 0 37 ls st σ) ls σ Q := rn_row rfl ls st σ Q
theorem r_101_37 (ls : a_LS) (st : List Value) (σ : a_HP) (Q : Option Value → a_HP → Prop) : Rn 101 37 ls st σ Q = acR 101 (o_get 7 4 40 ls st σ) ls σ Q := rn_row rfl ls st σ Q
theorem r_101_40 (ls : a_LS) (st : List Value) (σ : a_HP) (Q : Option Value → a_HP → Prop) : Rn 101 40 ls st σ Q = acR 101 (o_ldi 1 41 ls st σ) ls σ Q := rn_row rfl ls st σ Q
theorem r_101_41 (ls : a_LS) (st : List Value) (σ : a_HP) (Q : Option Value → a_HP → Prop) : Rn 101 41 ls st σ Q = acR 101 (o_pi (nI 0) 42 ls st σ) ls σ Q := rn_row rfl ls st σ Q
theorem r_101_42 (ls : a_LS) (st : List Value) (σ : a_HP) (Q : Option Value → a_HP → Prop) : Rn 101 42 ls st σ Q = acR 101 (o_ivv 6 42 2 45 ls st σ) ls σ Q := rn_row rfl ls st σ Q
theorem r_101_45 (ls : a_LS) (st : List Value) (σ : a_HP) (Q : Option Value → a_HP → Prop) : Rn 101 45 ls st σ Q = acR 101 (o_lda 0 46 ls st σ) ls σ Q := rn_row rfl ls st σ Q
theorem r_101_46 (ls : a_LS) (st : List Value) (σ : a_HP) (Q : Option Value → a_HP → Prop) : Rn 101 46 ls st σ Q = acR 101 (o_get 7 4 49 ls st σ) ls σ Q := rn_row rfl ls st σ Q
theorem r_101_49 (ls : a_LS) (st : List Value) (σ : a_HP) (Q : Option Value → a_HP → Prop) : Rn 101 49 ls st σ Q = acR 101 (o_ldi 1 50 ls st σ) ls σ Q := rn_row rfl ls st σ Q
theorem r_101_50 (ls : a_LS) (st : List Value) (σ : a_HP) (Q : Option Value → a_HP → Prop) : Rn 101 50 ls st σ Q = acR 101 (o_pi (nI 1) 51 ls st σ) ls σ Q := rn_row rfl ls st σ Q
theorem r_101_51 (ls : a_LS) (st : List Value) (σ : a_HP) (Q : Option Value → a_HP → Prop) : Rn 101 51 ls st σ Q = acR 101 (o_ivv 6 42 2 54 ls st σ) ls σ Q := rn_row rfl ls st σ Q
theorem r_101_54 (ls : a_LS) (st : List Value) (σ : a_HP) (Q : Option Value → a_HP → Prop) : Rn 101 54 ls st σ Q = acR 101 (o_ivs 95 2 57 ls st σ) ls σ Q := rn_row rfl ls st σ Q
theorem r_101_57 (ls : a_LS) (st : List Value) (σ : a_HP) (Q : Option Value → a_HP → Prop) : Rn 101 57 ls st σ Q = acR 101 (o_rz ls st σ) ls σ Q := rn_row rfl ls st σ Q
theorem r_101_58 (ls : a_LS) (st : List Value) (σ : a_HP) (Q : Option Value → a_HP → Prop) : Rn 101 58 ls st σ Q = acR 101 (o_lda 0 59 ls st σ) ls σ Q := rn_row rfl ls st σ Q
theorem r_101_59 (ls : a_LS) (st : List Value) (σ : a_HP) (Q : Option Value → a_HP → Prop) : Rn 101 59 ls st σ Q = acR 101 (o_get 7 4 62 ls st σ) ls σ Q := rn_row rfl ls st σ Q
theorem r_101_62 (ls : a_LS) (st : List Value) (σ : a_HP) (Q : Option Value → a_HP → Prop) : Rn 101 62 ls st σ Q = acR 101 (o_ldi 1 63 ls st σ) ls σ Q := rn_row rfl ls st σ Q
theorem r_101_63 (ls : a_LS) (st : List Value) (σ : a_HP) (Q : Option Value → a_HP → Prop) : Rn 101 63 ls st σ Q = acR 101 (o_pi (nI 0) 64 ls st σ) ls σ Q := rn_row rfl ls st σ Q
theorem r_101_64 (ls : a_LS) (st : List Value) (σ : a_HP) (Q : Option Value → a_HP → Prop) : Rn 101 64 ls st σ Q = acR 101 (o_ivv 6 42 2 67 ls st σ) ls σ Q := rn_row rfl ls st σ Q
theorem r_101_67 (ls : a_LS) (st : List Value) (σ : a_HP) (Q : Option Value → a_HP → Prop) : Rn 101 67 ls st σ Q = acR 101 (o_lda 0 68 ls st σ) ls σ Q := rn_row rfl ls st σ Q
theorem r_101_68 (ls : a_LS) (st : List Value) (σ : a_HP) (Q : Option Value → a_HP → Prop) : Rn 101 68 ls st σ Q = acR 101 (o_get 7 4 71 ls st σ) ls σ Q := rn_row rfl ls st σ Q
theorem r_101_71 (ls : a_LS) (st : List Value) (σ : a_HP) (Q : Option Value → a_HP → Prop) : Rn 101 71 ls st σ Q = acR 101 (o_ldi 1 72 ls st σ) ls σ Q := rn_row rfl ls st σ Q
theorem r_101_72 (ls : a_LS) (st : List Value) (σ : a_HP) (Q : Option Value → a_HP → Prop) : Rn 101 72 ls st σ Q = acR 101 (o_pi (nI 1) 73 ls st σ) ls σ Q := rn_row rfl ls st σ Q
theorem r_101_73 (ls : a_LS) (st : List Value) (σ : a_HP) (Q : Option Value → a_HP → Prop) : Rn 101 73 ls st σ Q = acR 101 (o_ivv 6 42 2 76 ls st σ) ls σ Q := rn_row rfl ls st σ Q
theorem r_101_76 (ls : a_LS) (st : List Value) (σ : a_HP) (Q : Option Value → a_HP → Prop) : Rn 101 76 ls st σ Q = acR 101 (o_lda 0 77 ls st σ) ls σ Q := rn_row rfl ls st σ Q
theorem r_101_77 (ls : a_LS) (st : List Value) (σ : a_HP) (Q : Option Value → a_HP → Prop) : Rn 101 77 ls st σ Q = acR 101 (o_get 7 4 80 ls st σ) ls σ Q := rn_row rfl ls st σ Q
theorem r_101_80 (ls : a_LS) (st : List Value) (σ : a_HP) (Q : Option Value → a_HP → Prop) : Rn 101 80 ls st σ Q = acR 101 (o_ldi 1 81 ls st σ) ls σ Q := rn_row rfl ls st σ Q
theorem r_101_81 (ls : a_LS) (st : List Value) (σ : a_HP) (Q : Option Value → a_HP → Prop) : Rn 101 81 ls st σ Q = acR 101 (o_pi (nI 2) 82 ls st σ) ls σ Q := rn_row rfl ls st σ Q
theorem r_101_82 (ls : a_LS) (st : List Value) (σ : a_HP) (Q : Option Value → a_HP → Prop) : Rn 101 82 ls st σ Q = acR 101 (o_ivv 6 42 2 85 ls st σ) ls σ Q := rn_row rfl ls st σ Q
theorem r_101_85 (ls : a_LS) (st : List Value) (σ : a_HP) (Q : Option Value → a_HP → Prop) : Rn 101 85 ls st σ Q = acR 101 (o_lda 0 86 ls st σ) ls σ Q := rn_row rfl ls st σ Q
theorem r_101_86 (ls : a_LS) (st : List Value) (σ : a_HP) (Q : Option Value → a_HP → Prop) : Rn 101 86 ls st σ Q = acR 101 (o_get 7 4 89 ls st σ) ls σ Q := rn_row rfl ls st σ Q
theorem r_101_89 (ls : a_LS) (st : List Value) (σ : a_HP) (Q : Option Value → a_HP → Prop) : Rn 101 89 ls st σ Q = acR 101 (o_ldi 1 90 ls st σ) ls σ Q := rn_row rfl ls st σ Q
theorem r_101_90 (ls : a_LS) (st : List Value) (σ : a_HP) (Q : Option Value → a_HP → Prop) : Rn 101 90 ls st σ Q = acR 101 (o_pi (nI 3) 91 ls st σ) ls σ Q := rn_row rfl ls st σ Q
theorem r_101_91 (ls : a_LS) (st : List Value) (σ : a_HP) (Q : Option Value → a_HP → Prop) : Rn 101 91 ls st σ Q = acR 101 (o_ivv 6 42 2 94 ls st σ) ls σ Q := rn_row rfl ls st σ Q
theorem r_101_94 (ls : a_LS) (st : List Value) (σ : a_HP) (Q : Option Value → a_HP → Prop) : Rn 101 94 ls st σ Q = acR 101 (o_ivs 96 4 97 ls st σ) ls σ Q := rn_row rfl ls st σ Q
theorem r_101_97 (ls : a_LS) (st : List Value) (σ : a_HP) (Q : Option Value → a_HP → Prop) : Rn 101 97 ls st σ Q = acR 101 (o_rz ls st σ) ls σ Q := rn_row rfl ls st σ Q
theorem r_101_98 (ls : a_LS) (st : List Value) (σ : a_HP) (Q : Option Value → a_HP → Prop) : Rn 101 98 ls st σ Q = acR 101 (o_lda 0 99 ls st σ) ls σ Q := rn_row rfl ls st σ Q
theorem r_101_99 (ls : a_LS) (st : List Value) (σ : a_HP) (Q : Option Value → a_HP → Prop) : Rn 101 99 ls st σ Q = acR 101 (o_get 7 4 102 ls st σ) ls σ Q := rn_row rfl ls st σ Q
theorem r_101_102 (ls : a_LS) (st : List Value) (σ : a_HP) (Q : Option Value → a_HP → Prop) : Rn 101 102 ls st σ Q = acR 101 (o_ldi 1 103 ls st σ) ls σ Q := rn_row rfl ls st σ Q
theorem r_101_103 (ls : a_LS) (st : List Value) (σ : a_HP) (Q : Option Value → a_HP → Prop) : Rn 101 103 ls st σ Q = acR 101 (o_pi (nI 0) 104 ls st σ) ls σ Q := rn_row rfl ls st σ Q
theorem r_101_104 (ls : a_LS) (st : List Value) (σ : a_HP) (Q : Option Value → a_HP → Prop) : Rn 101 104 ls st σ Q = acR 101 (o_ivv 6 42 2 107 ls st σ) ls σ Q := rn_row rfl ls st σ Q
theorem r_101_107 (ls : a_LS) (st : List Value) (σ : a_HP) (Q : Option Value → a_HP → Prop) : Rn 101 107 ls st σ Q = acR 101 (o_lda 0 108 ls st σ) ls σ Q := rn_row rfl ls st σ Q
theorem r_101_108 (ls : a_LS) (st : List Value) (σ : a_HP) (Q : Option Value → a_HP → Prop) : Rn 101 108 ls st σ Q = acR 101 (o_get 7 4 111 ls st σ) ls σ Q := rn_row rfl ls st σ Q
theorem r_101_111 (ls : a_LS) (st : List Value) (σ : a_HP) (Q : Option Value → a_HP → Prop) : Rn 101 111 ls st σ Q = acR 101 (o_ldi 1 112 ls st σ) ls σ Q := rn_row rfl ls st σ Q
theorem r_101_112 (ls : a_LS) (st : List Value) (σ : a_HP) (Q : Option Value → a_HP → Prop) : Rn 101 112 ls st σ Q = acR 101 (o_pi (nI 1) 113 ls st σ) ls σ Q := rn_row rfl ls st σ Q
theorem r_101_113 (ls : a_LS) (st : List Value) (σ : a_HP) (Q : Option Value → a_HP → Prop) : Rn 101 113 ls st σ Q = acR 101 (o_ivv 6 42 2 116 ls st σ) ls σ Q := rn_row rfl ls st σ Q
theorem r_101_116 (ls : a_LS) (st : List Value) (σ : a_HP) (Q : Option Value → a_HP → Prop) : Rn 101 116 ls st σ Q = acR 101 (o_ivs 97 2 119 ls st σ) ls σ Q := rn_row rfl ls st σ Q
theorem r_101_119 (ls : a_LS) (st : List Value) (σ : a_HP) (Q : Option Value → a_HP → Prop) : Rn 101 119 ls st σ Q = acR 101 (o_rz ls st σ) ls σ Q := rn_row rfl ls st σ Q
/-! 102: NetLaw.tellItem(I)V -/
theorem cl_102 (x0 : Nat) (x1 : Int32) (σ : a_HP) (Q : Option Value → a_HP → Prop) : Cl 102 [.ref x0, .int x1] σ Q = Rn 102 0 [some (.ref x0), some (.int x1)] [] σ Q := cl_of (Nat.le_of_ble_eq_true rfl) rfl σ Q
theorem r_102_0 (ls : a_LS) (st : List Value) (σ : a_HP) (Q : Option Value → a_HP → Prop) : Rn 102 0 ls st σ Q = acR 102 (o_lda 0 1 ls st σ) ls σ Q := rn_row rfl ls st σ Q
theorem r_102_1 (ls : a_LS) (st : List Value) (σ : a_HP) (Q : Option Value → a_HP → Prop) : Rn 102 1 ls st σ Q = acR 102 (o_get 7 4 4 ls st σ) ls σ Q := rn_row rfl ls st σ Q
theorem r_102_4 (ls : a_LS) (st : List Value) (σ : a_HP) (Q : Option Value → a_HP → Prop) : Rn 102 4 ls st σ Q = acR 102 (o_ldi 1 5 ls st σ) ls σ Q := rn_row rfl ls st σ Q
theorem r_102_5 (ls : a_LS) (st : List Value) (σ : a_HP) (Q : Option Value → a_HP → Prop) : Rn 102 5 ls st σ Q = acR 102 (o_ivv 6 41 1 8 ls st σ) ls σ Q := rn_row rfl ls st σ Q
theorem r_102_8 (ls : a_LS) (st : List Value) (σ : a_HP) (Q : Option Value → a_HP → Prop) : Rn 102 8 ls st σ Q = acR 102 (o_sw [((nI 0), 36), ((nI 1), 61)] 107 ls st σ) ls σ Q := rn_row rfl ls st σ Q
theorem r_102_36 (ls : a_LS) (st : List Value) (σ : a_HP) (Q : Option Value → a_HP → Prop) : Rn 102 36 ls st σ Q = acR 102 (o_lda 0 37 ls st σ) ls σ Q := rn_row rfl ls st σ Q
theorem r_102_37 (ls : a_LS) (st : List Value) (σ : a_HP) (Q : Option Value → a_HP → Prop) : Rn 102 37 ls st σ Q = acR 102 (o_lda 0 38 ls st σ) ls σ Q := rn_row rfl ls st σ Q
theorem r_102_38 (ls : a_LS) (st : List Value) (σ : a_HP) (Q : Option Value → a_HP → Prop) : Rn 102 38 ls st σ Q = acR 102 (o_get 7 4 41 ls st σ) ls σ Q := rn_row rfl ls st σ Q
theorem r_102_41 (ls : a_LS) (st : List Value) (σ : a_HP) (Q : Option Value → a_HP → Prop) : Rn 102 41 ls st σ Q = acR 102 (o_ldi 1 42 ls st σ) ls σ Q := rn_row rfl ls st σ Q
theorem r_102_42 (ls : a_LS) (st : List Value) (σ : a_HP) (Q : Option Value → a_HP → Prop) : Rn 102 42 ls st σ Q = acR 102 (o_pi (nI 0) 43 ls st σ) ls σ Q := rn_row rfl ls st σ Q
theorem r_102_43 (ls : a_LS) (st : List Value) (σ : a_HP) (Q : Option Value → a_HP → Prop) : Rn 102 43 ls st σ Q = acR 102 (o_ivv 6 42 2 46 ls st σ) ls σ Q := rn_row rfl ls st σ Q
theorem r_102_46 (ls : a_LS) (st : List Value) (σ : a_HP) (Q : Option Value → a_HP → Prop) : Rn 102 46 ls st σ Q = acR 102 (o_lda 0 47 ls st σ) ls σ Q := rn_row rfl ls st σ Q
theorem r_102_47 (ls : a_LS) (st : List Value) (σ : a_HP) (Q : Option Value → a_HP → Prop) : Rn 102 47 ls st σ Q = acR 102 (o_get 7 4 50 ls st σ) ls σ Q := rn_row rfl ls st σ Q
theorem r_102_50 (ls : a_LS) (st : List Value) (σ : a_HP) (Q : Option Value → a_HP → Prop) : Rn 102 50 ls st σ Q = acR 102 (o_ldi 1 51 ls st σ) ls σ Q := rn_row rfl ls st σ Q
theorem r_102_51 (ls : a_LS) (st : List Value) (σ : a_HP) (Q : Option Value → a_HP → Prop) : Rn 102 51 ls st σ Q = acR 102 (o_pi (nI 1) 52 ls st σ) ls σ Q := rn_row rfl ls st σ Q
theorem r_102_52 (ls : a_LS) (st : List Value) (σ : a_HP) (Q : Option Value → a_HP → Prop) : Rn 102 52 ls st σ Q = acR 102 (o_ivv 6 42 2 55 ls st σ) ls σ Q := rn_row rfl ls st σ Q
theorem r_102_55 (ls : a_LS) (st : List Value) (σ : a_HP) (Q : Option Value → a_HP → Prop) : Rn 102 55 ls st σ Q = acR 102 (o_ivv 7 99 2 58 ls st σ) ls σ Q := rn_row rfl ls st σ Q
theorem r_102_58 (ls : a_LS) (st : List Value) (σ : a_HP) (Q : Option Value → a_HP → Prop) : Rn 102 58 ls st σ Q = acR 102 (o_go 133 ls st σ) ls σ Q := rn_row rfl ls st σ Q
theorem r_102_61 (ls : a_LS) (st : List Value) (σ : a_HP) (Q : Option Value → a_HP → Prop) : Rn 102 61 ls st σ Q = acR 102 (o_lda 0 62 ls st σ) ls σ Q := rn_row rfl ls st σ Q
theorem r_102_62 (ls : a_LS) (st : List Value) (σ : a_HP) (Q : Option Value → a_HP → Prop) : Rn 102 62 ls st σ Q = acR 102 (o_get 7 0 65 ls st σ) ls σ Q := rn_row rfl ls st σ Q
theorem r_102_65 (ls : a_LS) (st : List Value) (σ : a_HP) (Q : Option Value → a_HP → Prop) : Rn 102 65 ls st σ Q = acR 102 (o_lda 0 66 ls st σ) ls σ Q := rn_row rfl ls st σ Q
theorem r_102_66 (ls : a_LS) (st : List Value) (σ : a_HP) (Q : Option Value → a_HP → Prop) : Rn 102 66 ls st σ Q = acR 102 (o_get 7 4 69 ls st σ) ls σ Q := rn_row rfl ls st σ Q
theorem r_102_69 (ls : a_LS) (st : List Value) (σ : a_HP) (Q : Option Value → a_HP → Prop) : Rn 102 69 ls st σ Q = acR 102 (o_ldi 1 70 ls st σ) ls σ Q := rn_row rfl ls st σ Q
theorem r_102_70 (ls : a_LS) (st : List Value) (σ : a_HP) (Q : Option Value → a_HP → Prop) : Rn 102 70 ls st σ Q = acR 102 (o_pi (nI 0) 71 ls st σ) ls σ Q := rn_row rfl ls st σ Q
theorem r_102_71 (ls : a_LS) (st : List Value) (σ : a_HP) (Q : Option Value → a_HP → Prop) : Rn 102 71 ls st σ Q = acR 102 (o_ivv 6 42 2 74 ls st σ) ls σ Q := rn_row rfl ls st σ Q
theorem r_102_74 (ls : a_LS) (st : List Value) (σ : a_HP) (Q : Option Value → a_HP → Prop) : Rn 102 74 ls st σ Q = acR 102 (o_lda 0 75 ls st σ) ls σ Q := rn_row rfl ls st σ Q
theorem r_102_75 (ls : a_LS) (st : List Value) (σ : a_HP) (Q : Option Value → a_HP → Prop) : Rn 102 75 ls st σ Q = acR 102 (o_get 7 4 78 ls st σ) ls σ Q := rn_row rfl ls st σ Q
theorem r_102_78 (ls : a_LS) (st : List Value) (σ : a_HP) (Q : Option Value → a_HP → Prop) : Rn 102 78 ls st σ Q = acR 102 (o_ldi 1 79 ls st σ) ls σ Q := rn_row rfl ls st σ Q
theorem r_102_79 (ls : a_LS) (st : List Value) (σ : a_HP) (Q : Option Value → a_HP → Prop) : Rn 102 79 ls st σ Q = acR 102 (o_pi (nI 1) 80 ls st σ) ls σ Q := rn_row rfl ls st σ Q
theorem r_102_80 (ls : a_LS) (st : List Value) (σ : a_HP) (Q : Option Value → a_HP → Prop) : Rn 102 80 ls st σ Q = acR 102 (o_ivv 6 42 2 83 ls st σ) ls σ Q := rn_row rfl ls st σ Q
theorem r_102_83 (ls : a_LS) (st : List Value) (σ : a_HP) (Q : Option Value → a_HP → Prop) : Rn 102 83 ls st σ Q = acR 102 (o_lda 0 84 ls st σ) ls σ Q := rn_row rfl ls st σ Q
theorem r_102_84 (ls : a_LS) (st : List Value) (σ : a_HP) (Q : Option Value → a_HP → Prop) : Rn 102 84 ls st σ Q = acR 102 (o_get 7 4 87 ls st σ) ls σ Q := rn_row rfl ls st σ Q
theorem r_102_87 (ls : a_LS) (st : List Value) (σ : a_HP) (Q : Option Value → a_HP → Prop) : Rn 102 87 ls st σ Q = acR 102 (o_ldi 1 88 ls st σ) ls σ Q := rn_row rfl ls st σ Q
theorem r_102_88 (ls : a_LS) (st : List Value) (σ : a_HP) (Q : Option Value → a_HP → Prop) : Rn 102 88 ls st σ Q = acR 102 (o_pi (nI 2) 89 ls st σ) ls σ Q := rn_row rfl ls st σ Q
theorem r_102_89 (ls : a_LS) (st : List Value) (σ : a_HP) (Q : Option Value → a_HP → Prop) : Rn 102 89 ls st σ Q = acR 102 (o_ivv 6 42 2 92 ls st σ) ls σ Q := rn_row rfl ls st σ Q
theorem r_102_92 (ls : a_LS) (st : List Value) (σ : a_HP) (Q : Option Value → a_HP → Prop) : Rn 102 92 ls st σ Q = acR 102 (o_lda 0 93 ls st σ) ls σ Q := rn_row rfl ls st σ Q
theorem r_102_93 (ls : a_LS) (st : List Value) (σ : a_HP) (Q : Option Value → a_HP → Prop) : Rn 102 93 ls st σ Q = acR 102 (o_get 7 4 96 ls st σ) ls σ Q := rn_row rfl ls st σ Q
theorem r_102_96 (ls : a_LS) (st : List Value) (σ : a_HP) (Q : Option Value → a_HP → Prop) : Rn 102 96 ls st σ Q = acR 102 (o_ldi 1 97 ls st σ) ls σ Q := rn_row rfl ls st σ Q
theorem r_102_97 (ls : a_LS) (st : List Value) (σ : a_HP) (Q : Option Value → a_HP → Prop) : Rn 102 97 ls st σ Q = acR 102 (o_pi (nI 3) 98 ls st σ) ls σ Q := rn_row rfl ls st σ Q
theorem r_102_98 (ls : a_LS) (st : List Value) (σ : a_HP) (Q : Option Value → a_HP → Prop) : Rn 102 98 ls st σ Q = acR 102 (o_ivv 6 42 2 101 ls st σ) ls σ Q := rn_row rfl ls st σ Q
theorem r_102_101 (ls : a_LS) (st : List Value) (σ : a_HP) (Q : Option Value → a_HP → Prop) : Rn 102 101 ls st σ Q = acR 102 (o_ivv 3 18 4 104 ls st σ) ls σ Q := rn_row rfl ls st σ Q
theorem r_102_104 (ls : a_LS) (st : List Value) (σ : a_HP) (Q : Option Value → a_HP → Prop) : Rn 102 104 ls st σ Q = acR 102 (o_go 133 ls st σ) ls σ Q := rn_row rfl ls st σ Q
theorem r_102_107 (ls : a_LS) (st : List Value) (σ : a_HP) (Q : Option Value → a_HP → Prop) : Rn 102 107 ls st σ Q = acR 102 (o_lda 0 108 ls st σ) ls σ Q := rn_row rfl ls st σ Q
theorem r_102_108 (ls : a_LS) (st : List Value) (σ : a_HP) (Q : Option Value → a_HP → Prop) : Rn 102 108 ls st σ Q = acR 102 (o_get 7 0 111 ls st σ) ls σ Q := rn_row rfl ls st σ Q
theorem r_102_111 (ls : a_LS) (st : List Value) (σ : a_HP) (Q : Option Value → a_HP → Prop) : Rn 102 111 ls st σ Q = acR 102 (o_get 3 7 114 ls st σ) ls σ Q := rn_row rfl ls st σ Q
theorem r_102_114 (ls : a_LS) (st : List Value) (σ : a_HP) (Q : Option Value → a_HP → Prop) : Rn 102 114 ls st σ Q = acR 102 (o_lda 0 115 ls st σ) ls σ Q := rn_row rfl ls st σ Q
theorem r_102_115 (ls : a_LS) (st : List Value) (σ : a_HP) (Q : Option Value → a_HP → Prop) : Rn 102 115 ls st σ Q = acR 102 (o_get 7 4 118 ls st σ) ls σ Q := rn_row rfl ls st σ Q
theorem r_102_118 (ls : a_LS) (st : List Value) (σ : a_HP) (Q : Option Value → a_HP → Prop) : Rn 102 118 ls st σ Q = acR 102 (o_ldi 1 119 ls st σ) ls σ Q := rn_row rfl ls st σ Q
theorem r_102_119 (ls : a_LS) (st : List Value) (σ : a_HP) (Q : Option Value → a_HP → Prop) : Rn 102 119 ls st σ Q = acR 102 (o_pi (nI 0) 120 ls st σ) ls σ Q := rn_row rfl ls st σ Q
theorem r_102_120 (ls : a_LS) (st : List Value) (σ : a_HP) (Q : Option Value → a_HP → Prop) : Rn 102 120 ls st σ Q = acR 102 (o_ivv 6 42 2 123 ls st σ) ls σ Q := rn_row rfl ls st σ Q
theorem r_102_123 (ls : a_LS) (st : List Value) (σ : a_HP) (Q : Option Value → a_HP → Prop) : Rn 102 123 ls st σ Q = acR 102 (o_lda 0 124 ls st σ) ls σ Q := rn_row rfl ls st σ Q
theorem r_102_124 (ls : a_LS) (st : List Value) (σ : a_HP) (Q : Option Value → a_HP → Prop) : Rn 102 124 ls st σ Q = acR 102 (o_get 7 4 127 ls st σ) ls σ Q := rn_row rfl ls st σ Q
theorem r_102_127 (ls : a_LS) (st : List Value) (σ : a_HP) (Q : Option Value → a_HP → Prop) : Rn 102 127 ls st σ Q = acR 102 (o_ldi 1 128 ls st σ) ls σ Q := rn_row rfl ls st σ Q
theorem r_102_128 (ls : a_LS) (st : List Value) (σ : a_HP) (Q : Option Value → a_HP → Prop) : Rn 102 128 ls st σ Q = acR 102 (o_pi (nI 1) 129 ls st σ) ls σ Q := rn_row rfl ls st σ Q
theorem r_102_129 (ls : a_LS) (st : List Value) (σ : a_HP) (Q : Option Value → a_HP → Prop) : Rn 102 129 ls st σ Q = acR 102 (o_ivv 6 42 2 132 ls st σ) ls σ Q := rn_row rfl ls st σ Q
theorem r_102_132 (ls : a_LS) (st : List Value) (σ : a_HP) (Q : Option Value → a_HP → Prop) : Rn 102 132 ls st σ Q = acR 102 (o_ias 133 ls st σ) ls σ Q := rn_row rfl ls st σ Q
theorem r_102_133 (ls : a_LS) (st : List Value) (σ : a_HP) (Q : Option Value → a_HP → Prop) : Rn 102 133 ls st σ Q = acR 102 (o_rv ls st σ) ls σ Q := rn_row rfl ls st σ Q
/-! 103: NetLaw.knotAt(II)I -/
theorem cl_103 (x0 : Int32) (x1 : Int32) (σ : a_HP) (Q : Option Value → a_HP → Prop) : Cl 103 [.int x0, .int x1] σ Q = Rn 103 0 [some (.int x0), some (.int x1), none, none] [] σ Q := cl_of (Nat.le_of_ble_eq_true rfl) rfl σ Q
theorem r_103_0 (ls : a_LS) (st : List Value) (σ : a_HP) (Q : Option Value → a_HP → Prop) : Rn 103 0 ls st σ Q = acR 103 (o_ldi 0 1 ls st σ) ls σ Q := rn_row rfl ls st σ Q
theorem r_103_1 (ls : a_LS) (st : List Value) (σ : a_HP) (Q : Option Value → a_HP → Prop) : Rn 103 1 ls st σ Q = acR 103 (o_pi (nI 3) 2 ls st σ) ls σ Q := rn_row rfl ls st σ Q
theorem r_103_2 (ls : a_LS) (st : List Value) (σ : a_HP) (Q : Option Value → a_HP → Prop) : Rn 103 2 ls st σ Q = acR 103 (o_bd f_div 3 ls st σ) ls σ Q := rn_row rfl ls st σ Q
theorem r_103_3 (ls : a_LS) (st : List Value) (σ : a_HP) (Q : Option Value → a_HP → Prop) : Rn 103 3 ls st σ Q = acR 103 (o_ldi 1 4 ls st σ) ls σ Q := rn_row rfl ls st σ Q
theorem r_103_4 (ls : a_LS) (st : List Value) (σ : a_HP) (Q : Option Value → a_HP → Prop) : Rn 103 4 ls st σ Q = acR 103 (o_pi (nI 2) 5 ls st σ) ls σ Q := rn_row rfl ls st σ Q
theorem r_103_5 (ls : a_LS) (st : List Value) (σ : a_HP) (Q : Option Value → a_HP → Prop) : Rn 103 5 ls st σ Q = acR 103 (o_bd f_div 6 ls st σ) ls σ Q := rn_row rfl ls st σ Q
theorem r_103_6 (ls : a_LS) (st : List Value) (σ : a_HP) (Q : Option Value → a_HP → Prop) : Rn 103 6 ls st σ Q = acR 103 (o_bi f_add 7 ls st σ) ls σ Q := rn_row rfl ls st σ Q
theorem r_103_7 (ls : a_LS) (st : List Value) (σ : a_HP) (Q : Option Value → a_HP → Prop) : Rn 103 7 ls st σ Q = acR 103 (o_sti 2 8 ls st σ) ls σ Q := rn_row rfl ls st σ Q
theorem r_103_8 (ls : a_LS) (st : List Value) (σ : a_HP) (Q : Option Value → a_HP → Prop) : Rn 103 8 ls st σ Q = acR 103 (o_ldi 0 9 ls st σ) ls σ Q := rn_row rfl ls st σ Q
theorem r_103_9 (ls : a_LS) (st : List Value) (σ : a_HP) (Q : Option Value → a_HP → Prop) : Rn 103 9 ls st σ Q = acR 103 (o_pi (nI 3) 10 ls st σ) ls σ Q := rn_row rfl ls st σ Q
theorem r_103_10 (ls : a_LS) (st : List Value) (σ : a_HP) (Q : Option Value → a_HP → Prop) : Rn 103 10 ls st σ Q = acR 103 (o_bd f_rem 11 ls st σ) ls σ Q := rn_row rfl ls st σ Q
theorem r_103_11 (ls : a_LS) (st : List Value) (σ : a_HP) (Q : Option Value → a_HP → Prop) : Rn 103 11 ls st σ Q = acR 103 (o_ldi 1 12 ls st σ) ls σ Q := rn_row rfl ls st σ Q
theorem r_103_12 (ls : a_LS) (st : List Value) (σ : a_HP) (Q : Option Value → a_HP → Prop) : Rn 103 12 ls st σ Q = acR 103 (o_pi (nI 2) 13 ls st σ) ls σ Q := rn_row rfl ls st σ Q
theorem r_103_13 (ls : a_LS) (st : List Value) (σ : a_HP) (Q : Option Value → a_HP → Prop) : Rn 103 13 ls st σ Q = acR 103 (o_bd f_rem 14 ls st σ) ls σ Q := rn_row rfl ls st σ Q
theorem r_103_14 (ls : a_LS) (st : List Value) (σ : a_HP) (Q : Option Value → a_HP → Prop) : Rn 103 14 ls st σ Q = acR 103 (o_bi f_add 15 ls st σ) ls σ Q := rn_row rfl ls st σ Q
theorem r_103_15 (ls : a_LS) (st : List Value) (σ : a_HP) (Q : Option Value → a_HP → Prop) : Rn 103 15 ls st σ Q = acR 103 (o_sti 3 16 ls st σ) ls σ Q := rn_row rfl ls st σ Q
theorem r_103_16 (ls : a_LS) (st : List Value) (σ : a_HP) (Q : Option Value → a_HP → Prop) : Rn 103 16 ls st σ Q = acR 103 (o_ldi 2 17 ls st σ) ls σ Q := rn_row rfl ls st σ Q
theorem r_103_17 (ls : a_LS) (st : List Value) (σ : a_HP) (Q : Option Value → a_HP → Prop) : Rn 103 17 ls st σ Q = acR 103 (o_pi (nI 4) 18 ls st σ) ls σ Q := rn_row rfl ls st σ Q
theorem r_103_18 (ls : a_LS) (st : List Value) (σ : a_HP) (Q : Option Value → a_HP → Prop) : Rn 103 18 ls st σ Q = acR 103 (o_bi f_mul 19 ls st σ) ls σ Q := rn_row rfl ls st σ Q
theorem r_103_19 (ls : a_LS) (st : List Value) (σ : a_HP) (Q : Option Value → a_HP → Prop) : Rn 103 19 ls st σ Q = acR 103 (o_ldi 3 20 ls st σ) ls σ Q := rn_row rfl ls st σ Q
theorem r_103_20 (ls : a_LS) (st : List Value) (σ : a_HP) (Q : Option Value → a_HP → Prop) : Rn 103 20 ls st σ Q = acR 103 (o_bi f_add 21 ls st σ) ls σ Q := rn_row rfl ls st σ Q
theorem r_103_21 (ls : a_LS) (st : List Value) (σ : a_HP) (Q : Option Value → a_HP → Prop) : Rn 103 21 ls st σ Q = acR 103 (o_ri ls st σ) ls σ Q := rn_row rfl ls st σ Q
/-! 104: NetLaw.hasKnot(II)Z -/
theorem cl_104 (x0 : Int32) (x1 : Int32) (σ : a_HP) (Q : Option Value → a_HP → Prop) : Cl 104 [.int x0, .int x1] σ Q = Rn 104 0 [some (.int x0), some (.int x1), none] [] σ Q := cl_of (Nat.le_of_ble_eq_true rfl) rfl σ Q
theorem r_104_0 (ls : a_LS) (st : List Value) (σ : a_HP) (Q : Option Value → a_HP → Prop) : Rn 104 0 ls st σ Q = acR 104 (o_pi (nI 0) 1 ls st σ) ls σ Q := rn_row rfl ls st σ Q
theorem r_104_1 (ls : a_LS) (st : List Value) (σ : a_HP) (Q : Option Value → a_HP → Prop) : Rn 104 1 ls st σ Q = acR 104 (o_sti 2 2 ls st σ) ls σ Q := rn_row rfl ls st σ Q
theorem r_104_2 (ls : a_LS) (st : List Value) (σ : a_HP) (Q : Option Value → a_HP → Prop) : Rn 104 2 ls st σ Q = acR 104 (o_ldi 2 3 ls st σ) ls σ Q := rn_row rfl ls st σ Q
theorem r_104_3 (ls : a_LS) (st : List Value) (σ : a_HP) (Q : Option Value → a_HP → Prop) : Rn 104 3 ls st σ Q = acR 104 (o_pi (nI 4) 4 ls st σ) ls σ Q := rn_row rfl ls st σ Q
theorem r_104_4 (ls : a_LS) (st : List Value) (σ : a_HP) (Q : Option Value → a_HP → Prop) : Rn 104 4 ls st σ Q = acR 104 (o_cge 24 7 ls st σ) ls σ Q := rn_row rfl ls st σ Q
theorem r_104_7 (ls : a_LS) (st : List Value) (σ : a_HP) (Q : Option Value → a_HP → Prop) : Rn 104 7 ls st σ Q = acR 104 (o_ldi 0 8 ls st σ) ls σ Q := rn_row rfl ls st σ Q
theorem r_104_8 (ls : a_LS) (st : List Value) (σ : a_HP) (Q : Option Value → a_HP → Prop) : Rn 104 8 ls st σ Q = acR 104 (o_ldi 2 9 ls st σ) ls σ Q := rn_row rfl ls st σ Q
theorem r_104_9 (ls : a_LS) (st : List Value) (σ : a_HP) (Q : Option Value → a_HP → Prop) : Rn 104 9 ls st σ Q = acR 104 (o_ivs 103 2 12 ls st σ) ls σ Q := rn_row rfl ls st σ Q
theorem r_104_12 (ls : a_LS) (st : List Value) (σ : a_HP) (Q : Option Value → a_HP → Prop) : Rn 104 12 ls st σ Q = acR 104 (o_ldi 1 13 ls st σ) ls σ Q := rn_row rfl ls st σ Q
theorem r_104_13 (ls : a_LS) (st : List Value) (σ : a_HP) (Q : Option Value → a_HP → Prop) : Rn 104 13 ls st σ Q = acR 104 (o_cne 18 16 ls st σ) ls σ Q := rn_row rfl ls st σ Q
theorem r_104_16 (ls : a_LS) (st : List Value) (σ : a_HP) (Q : Option Value → a_HP → Prop) : Rn 104 16 ls st σ Q = acR 104 (o_pi (nI 1) 17 ls st σ) ls σ Q := rn_row rfl ls st σ Q
theorem r_104_17 (ls : a_LS) (st : List Value) (σ : a_HP) (Q : Option Value → a_HP → Prop) : Rn 104 17 ls st σ Q = acR 104 (o_rz ls st σ) ls σ Q := rn_row rfl ls st σ Q
theorem r_104_18 (ls : a_LS) (st : List Value) (σ : a_HP) (Q : Option Value → a_HP → Prop) : Rn 104 18 ls st σ Q = acR 104 (o_inc 2 (nI 1) 21 ls st σ) ls σ Q := rn_row rfl ls st σ Q
theorem r_104_21 (ls : a_LS) (st : List Value) (σ : a_HP) (Q : Option Value → a_HP → Prop) : Rn 104 21 ls st σ Q = acR 104 (o_go 2 ls st σ) ls σ Q := rn_row rfl ls st σ Q
theorem r_104_24 (ls : a_LS) (st : List Value) (σ : a_HP) (Q : Option Value → a_HP → Prop) : Rn 104 24 ls st σ Q = acR 104 (o_pi (nI 0) 25 ls st σ) ls σ Q := rn_row rfl ls st σ Q
theorem r_104_25 (ls : a_LS) (st : List Value) (σ : a_HP) (Q : Option Value → a_HP → Prop) : Rn 104 25 ls st σ Q = acR 104 (o_rz ls st σ) ls σ Q := rn_row rfl ls st σ Q
/-! 105: NetLaw.knotBits(II)I -/
theorem cl_105 (x0 : Int32) (x1 : Int32) (σ : a_HP) (Q : Option Value → a_HP → Prop) : Cl 105 [.int x0, .int x1] σ Q = Rn 105 0 [some (.int x0), some (.int x1), none, none] [] σ Q := cl_of (Nat.le_of_ble_eq_true rfl) rfl σ Q
theorem r_105_0 (ls : a_LS) (st : List Value) (σ : a_HP) (Q : Option Value → a_HP → Prop) : Rn 105 0 ls st σ Q = acR 105 (o_pi (nI 0) 1 ls st σ) ls σ Q := rn_row rfl ls st σ Q
theorem r_105_1 (ls : a_LS) (st : List Value) (σ : a_HP) (Q : Option Value → a_HP → Prop) : Rn 105 1 ls st σ Q = acR 105 (o_sti 2 2 ls st σ) ls σ Q := rn_row rfl ls st σ Q
theorem r_105_2 (ls : a_LS) (st : List Value) (σ : a_HP) (Q : Option Value → a_HP → Prop) : Rn 105 2 ls st σ Q = acR 105 (o_pi (nI 0) 3 ls st σ) ls σ Q := rn_row rfl ls st σ Q
theorem r_105_3 (ls : a_LS) (st : List Value) (σ : a_HP) (Q : Option Value → a_HP → Prop) : Rn 105 3 ls st σ Q = acR 105 (o_sti 3 4 ls st σ) ls σ Q := rn_row rfl ls st σ Q
theorem r_105_4 (ls : a_LS) (st : List Value) (σ : a_HP) (Q : Option Value → a_HP → Prop) : Rn 105 4 ls st σ Q = acR 105 (o_ldi 3 5 ls st σ) ls σ Q := rn_row rfl ls st σ Q
theorem r_105_5 (ls : a_LS) (st : List Value) (σ : a_HP) (Q : Option Value → a_HP → Prop) : Rn 105 5 ls st σ Q = acR 105 (o_pi (nI 4) 6 ls st σ) ls σ Q := rn_row rfl ls st σ Q
theorem r_105_6 (ls : a_LS) (st : List Value) (σ : a_HP) (Q : Option Value → a_HP → Prop) : Rn 105 6 ls st σ Q = acR 105 (o_cge 33 9 ls st σ) ls σ Q := rn_row rfl ls st σ Q
theorem r_105_9 (ls : a_LS) (st : List Value) (σ : a_HP) (Q : Option Value → a_HP → Prop) : Rn 105 9 ls st σ Q = acR 105 (o_ldi 1 10 ls st σ) ls σ Q := rn_row rfl ls st σ Q
theorem r_105_10 (ls : a_LS) (st : List Value) (σ : a_HP) (Q : Option Value → a_HP → Prop) : Rn 105 10 ls st σ Q = acR 105 (o_ldi 3 11 ls st σ) ls σ Q := rn_row rfl ls st σ Q
theorem r_105_11 (ls : a_LS) (st : List Value) (σ : a_HP) (Q : Option Value → a_HP → Prop) : Rn 105 11 ls st σ Q = acR 105 (o_bi f_shr 12 ls st σ) ls σ Q := rn_row rfl ls st σ Q
theorem r_105_12 (ls : a_LS) (st : List Value) (σ : a_HP) (Q : Option Value → a_HP → Prop) : Rn 105 12 ls st σ Q = acR 105 (o_pi (nI 1) 13 ls st σ) ls σ Q := rn_row rfl ls st σ Q
theorem r_105_13 (ls : a_LS) (st : List Value) (σ : a_HP) (Q : Option Value → a_HP → Prop) : Rn 105 13 ls st σ Q = acR 105 (o_bi f_and 14 ls st σ) ls σ Q := rn_row rfl ls st σ Q
theorem r_105_14 (ls : a_LS) (st : List Value) (σ : a_HP) (Q : Option Value → a_HP → Prop) : Rn 105 14 ls st σ Q = acR 105 (o_eq 27 17 ls st σ) ls σ Q := rn_row rfl ls st σ Q
theorem r_105_17 (ls : a_LS) (st : List Value) (σ : a_HP) (Q : Option Value → a_HP → Prop) : Rn 105 17 ls st σ Q = acR 105 (o_ldi 2 18 ls st σ) ls σ Q := rn_row rfl ls st σ Q
theorem r_105_18 (ls : a_LS) (st : List Value) (σ : a_HP) (Q : Option Value → a_HP → Prop) : Rn 105 18 ls st σ Q = acR 105 (o_pi (nI 1) 19 ls st σ) ls σ Q := rn_row rfl ls st σ Q
theorem r_105_19 (ls : a_LS) (st : List Value) (σ : a_HP) (Q : Option Value → a_HP → Prop) : Rn 105 19 ls st σ Q = acR 105 (o_ldi 0 20 ls st σ) ls σ Q := rn_row rfl ls st σ Q
theorem r_105_20 (ls : a_LS) (st : List Value) (σ : a_HP) (Q : Option Value → a_HP → Prop) : Rn 105 20 ls st σ Q = acR 105 (o_ldi 3 21 ls st σ) ls σ Q := rn_row rfl ls st σ Q
theorem r_105_21 (ls : a_LS) (st : List Value) (σ : a_HP) (Q : Option Value → a_HP → Prop) : Rn 105 21 ls st σ Q = acR 105 (o_ivs 103 2 24 ls st σ) ls σ Q := rn_row rfl ls st σ Q
theorem r_105_24 (ls : a_LS) (st : List Value) (σ : a_HP) (Q : Option Value → a_HP → Prop) : Rn 105 24 ls st σ Q = acR 105 (o_bi f_shl 25 ls st σ) ls σ Q := rn_row rfl ls st σ Q
theorem r_105_25 (ls : a_LS) (st : List Value) (σ : a_HP) (Q : Option Value → a_HP → Prop) : Rn 105 25 ls st σ Q = acR 105 (o_bi f_or 26 ls st σ) ls σ Q := rn_row rfl ls st σ Q
theorem r_105_26 (ls : a_LS) (st : List Value) (σ : a_HP) (Q : Option Value → a_HP → Prop) : Rn 105 26 ls st σ Q = acR 105 (o_sti 2 27 ls st σ) ls σ Q := rn_row rfl ls st σ Q
theorem r_105_27 (ls : a_LS) (st : List Value) (σ : a_HP) (Q : Option Value → a_HP → Prop) : Rn 105 27 ls st σ Q = acR 105 (o_inc 3 (nI 1) 30 ls st σ) ls σ Q := rn_row rfl ls st σ Q
theorem r_105_30 (ls : a_LS) (st : List Value) (σ : a_HP) (Q : Option Value → a_HP → Prop) : Rn 105 30 ls st σ Q = acR 105 (o_go 4 ls st σ) ls σ Q := rn_row rfl ls st σ Q
theorem r_105_33 (ls : a_LS) (st : List Value) (σ : a_HP) (Q : Option Value → a_HP → Prop) : Rn 105 33 ls st σ Q = acR 105 (o_ldi 2 34 ls st σ) ls σ Q := rn_row rfl ls st σ Q
theorem r_105_34 (ls : a_LS) (st : List Value) (σ : a_HP) (Q : Option Value → a_HP → Prop) : Rn 105 34 ls st σ Q = acR 105 (o_ri ls st σ) ls σ Q := rn_row rfl ls st σ Q
/-! 106: NetLaw.clausesAround(I)I -/
theorem cl_106 (x0 : Int32) (σ : a_HP) (Q : Option Value → a_HP → Prop) : Cl 106 [.int x0] σ Q = Rn 106 0 [some (.int x0), none, none] [] σ Q := cl_of (Nat.le_of_ble_eq_true rfl) rfl σ Q
theorem r_106_0 (ls : a_LS) (st : List Value) (σ : a_HP) (Q : Option Value → a_HP → Prop) : Rn 106 0 ls st σ Q = acR 106 (o_pi (nI 0) 1 ls st σ) ls σ Q := rn_row rfl ls st σ Q
theorem r_106_1 (ls : a_LS) (st : List Value) (σ : a_HP) (Q : Option Value → a_HP → Prop) : Rn 106 1 ls st σ Q = acR 106 (o_sti 1 2 ls st σ) ls σ Q := rn_row rfl ls st σ Q
theorem r_106_2 (ls : a_LS) (st : List Value) (σ : a_HP) (Q : Option Value → a_HP → Prop) : Rn 106 2 ls st σ Q = acR 106 (o_pi (nI 0) 3 ls st σ) ls σ Q := rn_row rfl ls st σ Q
theorem r_106_3 (ls : a_LS) (st : List Value) (σ : a_HP) (Q : Option Value → a_HP → Prop) : Rn 106 3 ls st σ Q = acR 106 (o_sti 2 4 ls st σ) ls σ Q := rn_row rfl ls st σ Q
theorem r_106_4 (ls : a_LS) (st : List Value) (σ : a_HP) (Q : Option Value → a_HP → Prop) : Rn 106 4 ls st σ Q = acR 106 (o_ldi 2 5 ls st σ) ls σ Q := rn_row rfl ls st σ Q
theorem r_106_5 (ls : a_LS) (st : List Value) (σ : a_HP) (Q : Option Value → a_HP → Prop) : Rn 106 5 ls st σ Q = acR 106 (o_pi (nI 9) 7 ls st σ) ls σ Q := rn_row rfl ls st σ Q
theorem r_106_7 (ls : a_LS) (st : List Value) (σ : a_HP) (Q : Option Value → a_HP → Prop) : Rn 106 7 ls st σ Q = acR 106 (o_cge 30 10 ls st σ) ls σ Q := rn_row rfl ls st σ Q
theorem r_106_10 (ls : a_LS) (st : List Value) (σ : a_HP) (Q : Option Value → a_HP → Prop) : Rn 106 10 ls st σ Q = acR 106 (o_ldi 2 11 ls st σ) ls σ Q := rn_row rfl ls st σ Q
theorem r_106_11 (ls : a_LS) (st : List Value) (σ : a_HP) (Q : Option Value → a_HP → Prop) : Rn 106 11 ls st σ Q = acR 106 (o_ldi 0 12 ls st σ) ls σ Q := rn_row rfl ls st σ Q
theorem r_106_12 (ls : a_LS) (st : List Value) (σ : a_HP) (Q : Option Value → a_HP → Prop) : Rn 106 12 ls st σ Q = acR 106 (o_ivs 104 2 15 ls st σ) ls σ Q := rn_row rfl ls st σ Q
theorem r_106_15 (ls : a_LS) (st : List Value) (σ : a_HP) (Q : Option Value → a_HP → Prop) : Rn 106 15 ls st σ Q = acR 106 (o_eq 24 18 ls st σ) ls σ Q := rn_row rfl ls st σ Q
theorem r_106_18 (ls : a_LS) (st : List Value) (σ : a_HP) (Q : Option Value → a_HP → Prop) : Rn 106 18 ls st σ Q = acR 106 (o_ldi 1 19 ls st σ) ls σ Q := rn_row rfl ls st σ Q
theorem r_106_19 (ls : a_LS) (st : List Value) (σ : a_HP) (Q : Option Value → a_HP → Prop) : Rn 106 19 ls st σ Q = acR 106 (o_pi (nI 1) 20 ls st σ) ls σ Q := rn_row rfl ls st σ Q
theorem r_106_20 (ls : a_LS) (st : List Value) (σ : a_HP) (Q : Option Value → a_HP → Prop) : Rn 106 20 ls st σ Q = acR 106 (o_ldi 2 21 ls st σ) ls σ Q := rn_row rfl ls st σ Q
theorem r_106_21 (ls : a_LS) (st : List Value) (σ : a_HP) (Q : Option Value → a_HP → Prop) : Rn 106 21 ls st σ Q = acR 106 (o_bi f_shl 22 ls st σ) ls σ Q := rn_row rfl ls st σ Q
theorem r_106_22 (ls : a_LS) (st : List Value) (σ : a_HP) (Q : Option Value → a_HP → Prop) : Rn 106 22 ls st σ Q = acR 106 (o_bi f_or 23 ls st σ) ls σ Q := rn_row rfl ls st σ Q
theorem r_106_23 (ls : a_LS) (st : List Value) (σ : a_HP) (Q : Option Value → a_HP → Prop) : Rn 106 23 ls st σ Q = acR 106 (o_sti 1 24 ls st σ) ls σ Q := rn_row rfl ls st σ Q
theorem r_106_24 (ls : a_LS) (st : List Value) (σ : a_HP) (Q : Option Value → a_HP → Prop) : Rn 106 24 ls st σ Q = acR 106 (o_inc 2 (nI 1) 27 ls st σ) ls σ Q := rn_row rfl ls st σ Q
theorem r_106_27 (ls : a_LS) (st : List Value) (σ : a_HP) (Q : Option Value → a_HP → Prop) : Rn 106 27 ls st σ Q = acR 106 (o_go 4 ls st σ) ls σ Q := rn_row rfl ls st σ Q
theorem r_106_30 (ls : a_LS) (st : List Value) (σ : a_HP) (Q : Option Value → a_HP → Prop) : Rn 106 30 ls st σ Q = acR 106 (o_ldi 1 31 ls st σ) ls σ Q := rn_row rfl ls st σ Q
theorem r_106_31 (ls : a_LS) (st : List Value) (σ : a_HP) (Q : Option Value → a_HP → Prop) : Rn 106 31 ls st σ Q = acR 106 (o_ri ls st σ) ls σ Q := rn_row rfl ls st σ Q
/-! 107: NetLaw.isLawWithout(II)Z -/
theorem cl_107 (x0 : Nat) (x1 : Int32) (x2 : Int32) (σ : a_HP) (Q : Option Value → a_HP → Prop) : Cl 107 [.ref x0, .int x1, .int x2] σ Q = Rn 107 0 [some (.ref x0), some (.int x1), some (.int x2), none] [] σ Q := cl_of (Nat.le_of_ble_eq_true rfl) rfl σ Q
theorem r_107_0 (ls : a_LS) (st : List Value) (σ : a_HP) (Q : Option Value → a_HP → Prop) : Rn 107 0 ls st σ Q = acR 107 (o_lda 0 1 ls st σ) ls σ Q := rn_row rfl ls st σ Q
theorem r_107_1 (ls : a_LS) (st : List Value) (σ : a_HP) (Q : Option Value → a_HP → Prop) : Rn 107 1 ls st σ Q = acR 107 (o_get 7 7 4 ls st σ) ls σ Q := rn_row rfl ls st σ Q
theorem r_107_4 (ls : a_LS) (st : List Value) (σ : a_HP) (Q : Option Value → a_HP → Prop) : Rn 107 4 ls st σ Q = acR 107 (o_lda 0 5 ls st σ) ls σ Q := rn_row rfl ls st σ Q
theorem r_107_5 (ls : a_LS) (st : List Value) (σ : a_HP) (Q : Option Value → a_HP → Prop) : Rn 107 5 ls st σ Q = acR 107 (o_get 7 0 8 ls st σ) ls σ Q := rn_row rfl ls st σ Q
theorem r_107_8 (ls : a_LS) (st : List Value) (σ : a_HP) (Q : Option Value → a_HP → Prop) : Rn 107 8 ls st σ Q = acR 107 (o_ivv 3 17 1 11 ls st σ) ls σ Q := rn_row rfl ls st σ Q
theorem r_107_11 (ls : a_LS) (st : List Value) (σ : a_HP) (Q : Option Value → a_HP → Prop) : Rn 107 11 ls st σ Q = acR 107 (o_pi (nI 0) 12 ls st σ) ls σ Q := rn_row rfl ls st σ Q
theorem r_107_12 (ls : a_LS) (st : List Value) (σ : a_HP) (Q : Option Value → a_HP → Prop) : Rn 107 12 ls st σ Q = acR 107 (o_sti 3 13 ls st σ) ls σ Q := rn_row rfl ls st σ Q
theorem r_107_13 (ls : a_LS) (st : List Value) (σ : a_HP) (Q : Option Value → a_HP → Prop) : Rn 107 13 ls st σ Q = acR 107 (o_ldi 3 14 ls st σ) ls σ Q := rn_row rfl ls st σ Q
theorem r_107_14 (ls : a_LS) (st : List Value) (σ : a_HP) (Q : Option Value → a_HP → Prop) : Rn 107 14 ls st σ Q = acR 107 (o_pi (nI 16) 16 ls st σ) ls σ Q := rn_row rfl ls st σ Q
theorem r_107_16 (ls : a_LS) (st : List Value) (σ : a_HP) (Q : Option Value → a_HP → Prop) : Rn 107 16 ls st σ Q = acR 107 (o_cge 43 19 ls st σ) ls σ Q := rn_row rfl ls st σ Q
theorem r_107_19 (ls : a_LS) (st : List Value) (σ : a_HP) (Q : Option Value → a_HP → Prop) : Rn 107 19 ls st σ Q = acR 107 (o_ldi 2 20 ls st σ) ls σ Q := rn_row rfl ls st σ Q
theorem r_107_20 (ls : a_LS) (st : List Value) (σ : a_HP) (Q : Option Value → a_HP → Prop) : Rn 107 20 ls st σ Q = acR 107 (o_ldi 3 21 ls st σ) ls σ Q := rn_row rfl ls st σ Q
theorem r_107_21 (ls : a_LS) (st : List Value) (σ : a_HP) (Q : Option Value → a_HP → Prop) : Rn 107 21 ls st σ Q = acR 107 (o_bi f_shr 22 ls st σ) ls σ Q := rn_row rfl ls st σ Q
theorem r_107_22 (ls : a_LS) (st : List Value) (σ : a_HP) (Q : Option Value → a_HP → Prop) : Rn 107 22 ls st σ Q = acR 107 (o_pi (nI 1) 23 ls st σ) ls σ Q := rn_row rfl ls st σ Q
theorem r_107_23 (ls : a_LS) (st : List Value) (σ : a_HP) (Q : Option Value → a_HP → Prop) : Rn 107 23 ls st σ Q = acR 107 (o_bi f_and 24 ls st σ) ls σ Q := rn_row rfl ls st σ Q
theorem r_107_24 (ls : a_LS) (st : List Value) (σ : a_HP) (Q : Option Value → a_HP → Prop) : Rn 107 24 ls st σ Q = acR 107 (o_eq 37 27 ls st σ) ls σ Q := rn_row rfl ls st σ Q
theorem r_107_27 (ls : a_LS) (st : List Value) (σ : a_HP) (Q : Option Value → a_HP → Prop) : Rn 107 27 ls st σ Q = acR 107 (o_lda 0 28 ls st σ) ls σ Q := rn_row rfl ls st σ Q
theorem r_107_28 (ls : a_LS) (st : List Value) (σ : a_HP) (Q : Option Value → a_HP → Prop) : Rn 107 28 ls st σ Q = acR 107 (o_get 7 7 31 ls st σ) ls σ Q := rn_row rfl ls st σ Q
theorem r_107_31 (ls : a_LS) (st : List Value) (σ : a_HP) (Q : Option Value → a_HP → Prop) : Rn 107 31 ls st σ Q = acR 107 (o_get 3 5 34 ls st σ) ls σ Q := rn_row rfl ls st σ Q
theorem r_107_34 (ls : a_LS) (st : List Value) (σ : a_HP) (Q : Option Value → a_HP → Prop) : Rn 107 34 ls st σ Q = acR 107 (o_ldi 3 35 ls st σ) ls σ Q := rn_row rfl ls st σ Q
theorem r_107_35 (ls : a_LS) (st : List Value) (σ : a_HP) (Q : Option Value → a_HP → Prop) : Rn 107 35 ls st σ Q = acR 107 (o_pi (nI 0) 36 ls st σ) ls σ Q := rn_row rfl ls st σ Q
theorem r_107_36 (ls : a_LS) (st : List Value) (σ : a_HP) (Q : Option Value → a_HP → Prop) : Rn 107 36 ls st σ Q = acR 107 (o_ias 37 ls st σ) ls σ Q := rn_row rfl ls st σ Q
theorem r_107_37 (ls : a_LS) (st : List Value) (σ : a_HP) (Q : Option Value → a_HP → Prop) : Rn 107 37 ls st σ Q = acR 107 (o_inc 3 (nI 1) 40 ls st σ) ls σ Q := rn_row rfl ls st σ Q
theorem r_107_40 (ls : a_LS) (st : List Value) (σ : a_HP) (Q : Option Value → a_HP → Prop) : Rn 107 40 ls st σ Q = acR 107 (o_go 13 ls st σ) ls σ Q := rn_row rfl ls st σ Q
theorem r_107_43 (ls : a_LS) (st : List Value) (σ : a_HP) (Q : Option Value → a_HP → Prop) : Rn 107 43 ls st σ Q = acR 107 (o_lda 0 44 ls st σ) ls σ Q := rn_row rfl ls st σ Q
theorem r_107_44 (ls : a_LS) (st : List Value) (σ : a_HP) (Q : Option Value → a_HP → Prop) : Rn 107 44 ls st σ Q = acR 107 (o_get 7 7 47 ls st σ) ls σ Q := rn_row rfl ls st σ Q
theorem r_107_47 (ls : a_LS) (st : List Value) (σ : a_HP) (Q : Option Value → a_HP → Prop) : Rn 107 47 ls st σ Q = acR 107 (o_ldi 1 48 ls st σ) ls σ Q := rn_row rfl ls st σ Q
theorem r_107_48 (ls : a_LS) (st : List Value) (σ : a_HP) (Q : Option Value → a_HP → Prop) : Rn 107 48 ls st σ Q = acR 107 (o_ivv 3 25 1 51 ls st σ) ls σ Q := rn_row rfl ls st σ Q
theorem r_107_51 (ls : a_LS) (st : List Value) (σ : a_HP) (Q : Option Value → a_HP → Prop) : Rn 107 51 ls st σ Q = acR 107 (o_rz ls st σ) ls σ Q := rn_row rfl ls st σ Q
/-! 108: NetLaw.findWays(I)V -/
theorem cl_108 (x0 : Nat) (x1 : Int32) (σ : a_HP) (Q : Option Value → a_HP → Prop) : Cl 108 [.ref x0, .int x1] σ Q = Rn 108 0 [some (.ref x0), some (.int x1), none, none] [] σ Q := cl_of (Nat.le_of_ble_eq_true rfl) rfl σ Q
theorem r_108_0 (ls : a_LS) (st : List Value) (σ : a_HP) (Q : Option Value → a_HP → Prop) : Rn 108 0 ls st σ Q = acR 108 (o_pi (nI 0) 1 ls st σ) ls σ Q := rn_row rfl ls st σ Q
theorem r_108_1 (ls : a_LS) (st : List Value) (σ : a_HP) (Q : Option Value → a_HP → Prop) : Rn 108 1 ls st σ Q = acR 108 (o_sti 2 2 ls st σ) ls σ Q := rn_row rfl ls st σ Q
theorem r_108_2 (ls : a_LS) (st : List Value) (σ : a_HP) (Q : Option Value → a_HP → Prop) : Rn 108 2 ls st σ Q = acR 108 (o_ldi 2 3 ls st σ) ls σ Q := rn_row rfl ls st σ Q
theorem r_108_3 (ls : a_LS) (st : List Value) (σ : a_HP) (Q : Option Value → a_HP → Prop) : Rn 108 3 ls st σ Q = acR 108 (o_pi (nI 9) 5 ls st σ) ls σ Q := rn_row rfl ls st σ Q
theorem r_108_5 (ls : a_LS) (st : List Value) (σ : a_HP) (Q : Option Value → a_HP → Prop) : Rn 108 5 ls st σ Q = acR 108 (o_cge 49 8 ls st σ) ls σ Q := rn_row rfl ls st σ Q
theorem r_108_8 (ls : a_LS) (st : List Value) (σ : a_HP) (Q : Option Value → a_HP → Prop) : Rn 108 8 ls st σ Q = acR 108 (o_ldi 2 9 ls st σ) ls σ Q := rn_row rfl ls st σ Q
theorem r_108_9 (ls : a_LS) (st : List Value) (σ : a_HP) (Q : Option Value → a_HP → Prop) : Rn 108 9 ls st σ Q = acR 108 (o_pi (nI 6) 11 ls st σ) ls σ Q := rn_row rfl ls st σ Q
theorem r_108_11 (ls : a_LS) (st : List Value) (σ : a_HP) (Q : Option Value → a_HP → Prop) : Rn 108 11 ls st σ Q = acR 108 (o_clt 26 14 ls st σ) ls σ Q := rn_row rfl ls st σ Q
theorem r_108_14 (ls : a_LS) (st : List Value) (σ : a_HP) (Q : Option Value → a_HP → Prop) : Rn 108 14 ls st σ Q = acR 108 (o_ldi 1 15 ls st σ) ls σ Q := rn_row rfl ls st σ Q
theorem r_108_15 (ls : a_LS) (st : List Value) (σ : a_HP) (Q : Option Value → a_HP → Prop) : Rn 108 15 ls st σ Q = acR 108 (o_ldi 2 16 ls st σ) ls σ Q := rn_row rfl ls st σ Q
theorem r_108_16 (ls : a_LS) (st : List Value) (σ : a_HP) (Q : Option Value → a_HP → Prop) : Rn 108 16 ls st σ Q = acR 108 (o_bi f_shr 17 ls st σ) ls σ Q := rn_row rfl ls st σ Q
theorem r_108_17 (ls : a_LS) (st : List Value) (σ : a_HP) (Q : Option Value → a_HP → Prop) : Rn 108 17 ls st σ Q = acR 108 (o_pi (nI 1) 18 ls st σ) ls σ Q := rn_row rfl ls st σ Q
theorem r_108_18 (ls : a_LS) (st : List Value) (σ : a_HP) (Q : Option Value → a_HP → Prop) : Rn 108 18 ls st σ Q = acR 108 (o_bi f_and 19 ls st σ) ls σ Q := rn_row rfl ls st σ Q
theorem r_108_19 (ls : a_LS) (st : List Value) (σ : a_HP) (Q : Option Value → a_HP → Prop) : Rn 108 19 ls st σ Q = acR 108 (o_ne 26 22 ls st σ) ls σ Q := rn_row rfl ls st σ Q
theorem r_108_22 (ls : a_LS) (st : List Value) (σ : a_HP) (Q : Option Value → a_HP → Prop) : Rn 108 22 ls st σ Q = acR 108 (o_pi (nI 1) 23 ls st σ) ls σ Q := rn_row rfl ls st σ Q
theorem r_108_23 (ls : a_LS) (st : List Value) (σ : a_HP) (Q : Option Value → a_HP → Prop) : Rn 108 23 ls st σ Q = acR 108 (o_go 27 ls st σ) ls σ Q := rn_row rfl ls st σ Q
theorem r_108_26 (ls : a_LS) (st : List Value) (σ : a_HP) (Q : Option Value → a_HP → Prop) : Rn 108 26 ls st σ Q = acR 108 (o_pi (nI 0) 27 ls st σ) ls σ Q := rn_row rfl ls st σ Q
theorem r_108_27 (ls : a_LS) (st : List Value) (σ : a_HP) (Q : Option Value → a_HP → Prop) : Rn 108 27 ls st σ Q = acR 108 (o_sti 3 28 ls st σ) ls σ Q := rn_row rfl ls st σ Q
theorem r_108_28 (ls : a_LS) (st : List Value) (σ : a_HP) (Q : Option Value → a_HP → Prop) : Rn 108 28 ls st σ Q = acR 108 (o_lda 0 29 ls st σ) ls σ Q := rn_row rfl ls st σ Q
theorem r_108_29 (ls : a_LS) (st : List Value) (σ : a_HP) (Q : Option Value → a_HP → Prop) : Rn 108 29 ls st σ Q = acR 108 (o_get 7 12 32 ls st σ) ls σ Q := rn_row rfl ls st σ Q
theorem r_108_32 (ls : a_LS) (st : List Value) (σ : a_HP) (Q : Option Value → a_HP → Prop) : Rn 108 32 ls st σ Q = acR 108 (o_ldi 2 33 ls st σ) ls σ Q := rn_row rfl ls st σ Q
theorem r_108_33 (ls : a_LS) (st : List Value) (σ : a_HP) (Q : Option Value → a_HP → Prop) : Rn 108 33 ls st σ Q = acR 108 (o_ldi 3 34 ls st σ) ls σ Q := rn_row rfl ls st σ Q
theorem r_108_34 (ls : a_LS) (st : List Value) (σ : a_HP) (Q : Option Value → a_HP → Prop) : Rn 108 34 ls st σ Q = acR 108 (o_eq 41 37 ls st σ) ls σ Q := rn_row rfl ls st σ Q
theorem r_108_37 (ls : a_LS) (st : List Value) (σ : a_HP) (Q : Option Value → a_HP → Prop) : Rn 108 37 ls st σ Q = acR 108 (o_pi (nI 1) 38 ls st σ) ls σ Q := rn_row rfl ls st σ Q
theorem r_108_38 (ls : a_LS) (st : List Value) (σ : a_HP) (Q : Option Value → a_HP → Prop) : Rn 108 38 ls st σ Q = acR 108 (o_go 42 ls st σ) ls σ Q := rn_row rfl ls st σ Q
theorem r_108_41 (ls : a_LS) (st : List Value) (σ : a_HP) (Q : Option Value → a_HP → Prop) : Rn 108 41 ls st σ Q = acR 108 (o_pi (-1) 42 ls st σ) ls σ Q := rn_row rfl ls st σ Q
theorem r_108_42 (ls : a_LS) (st : List Value) (σ : a_HP) (Q : Option Value → a_HP → Prop) : Rn 108 42 ls st σ Q = acR 108 (o_ias 43 ls st σ) ls σ Q := rn_row rfl ls st σ Q
theorem r_108_43 (ls : a_LS) (st : List Value) (σ : a_HP) (Q : Option Value → a_HP → Prop) : Rn 108 43 ls st σ Q = acR 108 (o_inc 2 (nI 1) 46 ls st σ) ls σ Q := rn_row rfl ls st σ Q
theorem r_108_46 (ls : a_LS) (st : List Value) (σ : a_HP) (Q : Option Value → a_HP → Prop) : Rn 108 46 ls st σ Q = acR 108 (o_go 2 ls st σ) ls σ Q := rn_row rfl ls st σ Q
theorem r_108_49 (ls : a_LS) (st : List Value) (σ : a_HP) (Q : Option Value → a_HP → Prop) : Rn 108 49 ls st σ Q = acR 108 (o_pi (nI 1) 50 ls st σ) ls σ Q := rn_row rfl ls st σ Q
theorem r_108_50 (ls : a_LS) (st : List Value) (σ : a_HP) (Q : Option Value → a_HP → Prop) : Rn 108 50 ls st σ Q = acR 108 (o_sti 2 51 ls st σ) ls σ Q := rn_row rfl ls st σ Q
theorem r_108_51 (ls : a_LS) (st : List Value) (σ : a_HP) (Q : Option Value → a_HP → Prop) : Rn 108 51 ls st σ Q = acR 108 (o_ldi 2 52 ls st σ) ls σ Q := rn_row rfl ls st σ Q
theorem r_108_52 (ls : a_LS) (st : List Value) (σ : a_HP) (Q : Option Value → a_HP → Prop) : Rn 108 52 ls st σ Q = acR 108 (o_pi (nI 9) 54 ls st σ) ls σ Q := rn_row rfl ls st σ Q
theorem r_108_54 (ls : a_LS) (st : List Value) (σ : a_HP) (Q : Option Value → a_HP → Prop) : Rn 108 54 ls st σ Q = acR 108 (o_cge 113 57 ls st σ) ls σ Q := rn_row rfl ls st σ Q
theorem r_108_57 (ls : a_LS) (st : List Value) (σ : a_HP) (Q : Option Value → a_HP → Prop) : Rn 108 57 ls st σ Q = acR 108 (o_pi (nI 0) 58 ls st σ) ls σ Q := rn_row rfl ls st σ Q
theorem r_108_58 (ls : a_LS) (st : List Value) (σ : a_HP) (Q : Option Value → a_HP → Prop) : Rn 108 58 ls st σ Q = acR 108 (o_sti 3 59 ls st σ) ls σ Q := rn_row rfl ls st σ Q
theorem r_108_59 (ls : a_LS) (st : List Value) (σ : a_HP) (Q : Option Value → a_HP → Prop) : Rn 108 59 ls st σ Q = acR 108 (o_ldi 3 60 ls st σ) ls σ Q := rn_row rfl ls st σ Q
theorem r_108_60 (ls : a_LS) (st : List Value) (σ : a_HP) (Q : Option Value → a_HP → Prop) : Rn 108 60 ls st σ Q = acR 108 (o_pi (nI 9) 62 ls st σ) ls σ Q := rn_row rfl ls st σ Q
theorem r_108_62 (ls : a_LS) (st : List Value) (σ : a_HP) (Q : Option Value → a_HP → Prop) : Rn 108 62 ls st σ Q = acR 108 (o_cge 107 65 ls st σ) ls σ Q := rn_row rfl ls st σ Q
theorem r_108_65 (ls : a_LS) (st : List Value) (σ : a_HP) (Q : Option Value → a_HP → Prop) : Rn 108 65 ls st σ Q = acR 108 (o_lda 0 66 ls st σ) ls σ Q := rn_row rfl ls st σ Q
theorem r_108_66 (ls : a_LS) (st : List Value) (σ : a_HP) (Q : Option Value → a_HP → Prop) : Rn 108 66 ls st σ Q = acR 108 (o_get 7 12 69 ls st σ) ls σ Q := rn_row rfl ls st σ Q
theorem r_108_69 (ls : a_LS) (st : List Value) (σ : a_HP) (Q : Option Value → a_HP → Prop) : Rn 108 69 ls st σ Q = acR 108 (o_ldi 3 70 ls st σ) ls σ Q := rn_row rfl ls st σ Q
theorem r_108_70 (ls : a_LS) (st : List Value) (σ : a_HP) (Q : Option Value → a_HP → Prop) : Rn 108 70 ls st σ Q = acR 108 (o_ial 71 ls st σ) ls σ Q := rn_row rfl ls st σ Q
theorem r_108_71 (ls : a_LS) (st : List Value) (σ : a_HP) (Q : Option Value → a_HP → Prop) : Rn 108 71 ls st σ Q = acR 108 (o_pi (-1) 72 ls st σ) ls σ Q := rn_row rfl ls st σ Q
theorem r_108_72 (ls : a_LS) (st : List Value) (σ : a_HP) (Q : Option Value → a_HP → Prop) : Rn 108 72 ls st σ Q = acR 108 (o_cne 101 75 ls st σ) ls σ Q := rn_row rfl ls st σ Q
theorem r_108_75 (ls : a_LS) (st : List Value) (σ : a_HP) (Q : Option Value → a_HP → Prop) : Rn 108 75 ls st σ Q = acR 108 (o_ldi 1 76 ls st σ) ls σ Q := rn_row rfl ls st σ Q
theorem r_108_76 (ls : a_LS) (st : List Value) (σ : a_HP) (Q : Option Value → a_HP → Prop) : Rn 108 76 ls st σ Q = acR 108 (o_ldi 3 77 ls st σ) ls σ Q := rn_row rfl ls st σ Q
theorem r_108_77 (ls : a_LS) (st : List Value) (σ : a_HP) (Q : Option Value → a_HP → Prop) : Rn 108 77 ls st σ Q = acR 108 (o_bi f_shr 78 ls st σ) ls σ Q := rn_row rfl ls st σ Q
theorem r_108_78 (ls : a_LS) (st : List Value) (σ : a_HP) (Q : Option Value → a_HP → Prop) : Rn 108 78 ls st σ Q = acR 108 (o_pi (nI 1) 79 ls st σ) ls σ Q := rn_row rfl ls st σ Q
theorem r_108_79 (ls : a_LS) (st : List Value) (σ : a_HP) (Q : Option Value → a_HP → Prop) : Rn 108 79 ls st σ Q = acR 108 (o_bi f_and 80 ls st σ) ls σ Q := rn_row rfl ls st σ Q
theorem r_108_80 (ls : a_LS) (st : List Value) (σ : a_HP) (Q : Option Value → a_HP → Prop) : Rn 108 80 ls st σ Q = acR 108 (o_ne 101 83 ls st σ) ls σ Q := rn_row rfl ls st σ Q
theorem r_108_83 (ls : a_LS) (st : List Value) (σ : a_HP) (Q : Option Value → a_HP → Prop) : Rn 108 83 ls st σ Q = acR 108 (o_lda 0 84 ls st σ) ls σ Q := rn_row rfl ls st σ Q
theorem r_108_84 (ls : a_LS) (st : List Value) (σ : a_HP) (Q : Option Value → a_HP → Prop) : Rn 108 84 ls st σ Q = acR 108 (o_ldi 3 85 ls st σ) ls σ Q := rn_row rfl ls st σ Q
theorem r_108_85 (ls : a_LS) (st : List Value) (σ : a_HP) (Q : Option Value → a_HP → Prop) : Rn 108 85 ls st σ Q = acR 108 (o_ldi 2 86 ls st σ) ls σ Q := rn_row rfl ls st σ Q
theorem r_108_86 (ls : a_LS) (st : List Value) (σ : a_HP) (Q : Option Value → a_HP → Prop) : Rn 108 86 ls st σ Q = acR 108 (o_ivv 7 109 2 89 ls st σ) ls σ Q := rn_row rfl ls st σ Q
theorem r_108_89 (ls : a_LS) (st : List Value) (σ : a_HP) (Q : Option Value → a_HP → Prop) : Rn 108 89 ls st σ Q = acR 108 (o_eq 101 92 ls st σ) ls σ Q := rn_row rfl ls st σ Q
theorem r_108_92 (ls : a_LS) (st : List Value) (σ : a_HP) (Q : Option Value → a_HP → Prop) : Rn 108 92 ls st σ Q = acR 108 (o_lda 0 93 ls st σ) ls σ Q := rn_row rfl ls st σ Q
theorem r_108_93 (ls : a_LS) (st : List Value) (σ : a_HP) (Q : Option Value → a_HP → Prop) : Rn 108 93 ls st σ Q = acR 108 (o_get 7 12 96 ls st σ) ls σ Q := rn_row rfl ls st σ Q
theorem r_108_96 (ls : a_LS) (st : List Value) (σ : a_HP) (Q : Option Value → a_HP → Prop) : Rn 108 96 ls st σ Q = acR 108 (o_ldi 3 97 ls st σ) ls σ Q := rn_row rfl ls st σ Q
theorem r_108_97 (ls : a_LS) (st : List Value) (σ : a_HP) (Q : Option Value → a_HP → Prop) : Rn 108 97 ls st σ Q = acR 108 (o_ldi 2 98 ls st σ) ls σ Q := rn_row rfl ls st σ Q
theorem r_108_98 (ls : a_LS) (st : List Value) (σ : a_HP) (Q : Option Value → a_HP → Prop) : Rn 108 98 ls st σ Q = acR 108 (o_pi (nI 1) 99 ls st σ) ls σ Q := rn_row rfl ls st σ Q
theorem r_108_99 (ls : a_LS) (st : List Value) (σ : a_HP) (Q : Option Value → a_HP → Prop) : Rn 108 99 ls st σ Q = acR 108 (o_bi f_add 100 ls st σ) ls σ Q := rn_row rfl ls st σ Q
theorem r_108_100 (ls : a_LS) (st : List Value) (σ : a_HP) (Q : Option Value → a_HP → Prop) : Rn 108 100 ls st σ Q = acR 108 (o_ias 101 ls st σ) ls σ Q := rn_row rfl ls st σ Q
theorem r_108_101 (ls : a_LS) (st : List Value) (σ : a_HP) (Q : Option Value → a_HP → Prop) : Rn 108 101 ls st σ Q = acR 108 (o_inc 3 (nI 1) 104 ls st σ) ls σ Q := rn_row rfl ls st σ Q
theorem r_108_104 (ls : a_LS) (st : List Value) (σ : a_HP) (Q : Option Value → a_HP → Prop) : Rn 108 104 ls st σ Q = acR 108 (o_go 59 ls st σ) ls σ Q := rn_row rfl ls st σ Q
theorem r_108_107 (ls : a_LS) (st : List Value) (σ : a_HP) (Q : Option Value → a_HP → Prop) : Rn 108 107 ls st σ Q = acR 108 (o_inc 2 (nI 1) 110 ls st σ) ls σ Q := rn_row rfl ls st σ Q
theorem r_108_110 (ls : a_LS) (st : List Value) (σ : a_HP) (Q : Option Value → a_HP → Prop) : Rn 108 110 ls st σ Q = acR 108 (o_go 51 ls st σ) ls σ Q := rn_row rfl ls st σ Q
theorem r_108_113 (ls : a_LS) (st : List Value) (σ : a_HP) (Q : Option Value → a_HP → Prop) : Rn 108 113 ls st σ Q = acR 108 (o_rv ls st σ) ls σ Q := rn_row rfl ls st σ Q
/-! 109: NetLaw.isBesideWay(II)Z -/
theorem cl_109 (x0 : Nat) (x1 : Int32) (x2 : Int32) (σ : a_HP) (Q : Option Value → a_HP → Prop) : Cl 109 [.ref x0, .int x1, .int x2] σ Q = Rn 109 0 [some (.ref x0), some (.int x1), some (.int x2), none, none] [] σ Q := cl_of (Nat.le_of_ble_eq_true rfl) rfl σ Q
theorem r_109_0 (ls : a_LS) (st : List Value) (σ : a_HP) (Q : Option Value → a_HP → Prop) : Rn 109 0 ls st σ Q = acR 109 (o_ldi 1 1 ls st σ) ls σ Q := rn_row rfl ls st σ Q
theorem r_109_1 (ls : a_LS) (st : List Value) (σ : a_HP) (Q : Option Value → a_HP → Prop) : Rn 109 1 ls st σ Q = acR 109 (o_pi (nI 3) 2 ls st σ) ls σ Q := rn_row rfl ls st σ Q
theorem r_109_2 (ls : a_LS) (st : List Value) (σ : a_HP) (Q : Option Value → a_HP → Prop) : Rn 109 2 ls st σ Q = acR 109 (o_bd f_div 3 ls st σ) ls σ Q := rn_row rfl ls st σ Q
theorem r_109_3 (ls : a_LS) (st : List Value) (σ : a_HP) (Q : Option Value → a_HP → Prop) : Rn 109 3 ls st σ Q = acR 109 (o_sti 3 4 ls st σ) ls σ Q := rn_row rfl ls st σ Q
theorem r_109_4 (ls : a_LS) (st : List Value) (σ : a_HP) (Q : Option Value → a_HP → Prop) : Rn 109 4 ls st σ Q = acR 109 (o_ldi 1 5 ls st σ) ls σ Q := rn_row rfl ls st σ Q
theorem r_109_5 (ls : a_LS) (st : List Value) (σ : a_HP) (Q : Option Value → a_HP → Prop) : Rn 109 5 ls st σ Q = acR 109 (o_pi (nI 3) 6 ls st σ) ls σ Q := rn_row rfl ls st σ Q
theorem r_109_6 (ls : a_LS) (st : List Value) (σ : a_HP) (Q : Option Value → a_HP → Prop) : Rn 109 6 ls st σ Q = acR 109 (o_bd f_rem 7 ls st σ) ls σ Q := rn_row rfl ls st σ Q
theorem r_109_7 (ls : a_LS) (st : List Value) (σ : a_HP) (Q : Option Value → a_HP → Prop) : Rn 109 7 ls st σ Q = acR 109 (o_sti 4 9 ls st σ) ls σ Q := rn_row rfl ls st σ Q
theorem r_109_9 (ls : a_LS) (st : List Value) (σ : a_HP) (Q : Option Value → a_HP → Prop) : Rn 109 9 ls st σ Q = acR 109 (o_ldi 3 10 ls st σ) ls σ Q := rn_row rfl ls st σ Q
theorem r_109_10 (ls : a_LS) (st : List Value) (σ : a_HP) (Q : Option Value → a_HP → Prop) : Rn 109 10 ls st σ Q = acR 109 (o_le 25 13 ls st σ) ls σ Q := rn_row rfl ls st σ Q
theorem r_109_13 (ls : a_LS) (st : List Value) (σ : a_HP) (Q : Option Value → a_HP → Prop) : Rn 109 13 ls st σ Q = acR 109 (o_lda 0 14 ls st σ) ls σ Q := rn_row rfl ls st σ Q
theorem r_109_14 (ls : a_LS) (st : List Value) (σ : a_HP) (Q : Option Value → a_HP → Prop) : Rn 109 14 ls st σ Q = acR 109 (o_get 7 12 17 ls st σ) ls σ Q := rn_row rfl ls st σ Q
theorem r_109_17 (ls : a_LS) (st : List Value) (σ : a_HP) (Q : Option Value → a_HP → Prop) : Rn 109 17 ls st σ Q = acR 109 (o_ldi 1 18 ls st σ) ls σ Q := rn_row rfl ls st σ Q
theorem r_109_18 (ls : a_LS) (st : List Value) (σ : a_HP) (Q : Option Value → a_HP → Prop) : Rn 109 18 ls st σ Q = acR 109 (o_pi (nI 3) 19 ls st σ) ls σ Q := rn_row rfl ls st σ Q
theorem r_109_19 (ls : a_LS) (st : List Value) (σ : a_HP) (Q : Option Value → a_HP → Prop) : Rn 109 19 ls st σ Q = acR 109 (o_bi f_sub 20 ls st σ) ls σ Q := rn_row rfl ls st σ Q
theorem r_109_20 (ls : a_LS) (st : List Value) (σ : a_HP) (Q : Option Value → a_HP → Prop) : Rn 109 20 ls st σ Q = acR 109 (o_ial 21 ls st σ) ls σ Q := rn_row rfl ls st σ Q
theorem r_109_21 (ls : a_LS) (st : List Value) (σ : a_HP) (Q : Option Value → a_HP → Prop) : Rn 109 21 ls st σ Q = acR 109 (o_ldi 2 22 ls st σ) ls σ Q := rn_row rfl ls st σ Q
theorem r_109_22 (ls : a_LS) (st : List Value) (σ : a_HP) (Q : Option Value → a_HP → Prop) : Rn 109 22 ls st σ Q = acR 109 (o_ceq 77 25 ls st σ) ls σ Q := rn_row rfl ls st σ Q
theorem r_109_25 (ls : a_LS) (st : List Value) (σ : a_HP) (Q : Option Value → a_HP → Prop) : Rn 109 25 ls st σ Q = acR 109 (o_ldi 3 26 ls st σ) ls σ Q := rn_row rfl ls st σ Q
theorem r_109_26 (ls : a_LS) (st : List Value) (σ : a_HP) (Q : Option Value → a_HP → Prop) : Rn 109 26 ls st σ Q = acR 109 (o_pi (nI 2) 27 ls st σ) ls σ Q := rn_row rfl ls st σ Q
theorem r_109_27 (ls : a_LS) (st : List Value) (σ : a_HP) (Q : Option Value → a_HP → Prop) : Rn 109 27 ls st σ Q = acR 109 (o_cge 42 30 ls st σ) ls σ Q := rn_row rfl ls st σ Q
theorem r_109_30 (ls : a_LS) (st : List Value) (σ : a_HP) (Q : Option Value → a_HP → Prop) : Rn 109 30 ls st σ Q = acR 109 (o_lda 0 31 ls st σ) ls σ Q := rn_row rfl ls st σ Q
theorem r_109_31 (ls : a_LS) (st : List Value) (σ : a_HP) (Q : Option Value → a_HP → Prop) : Rn 109 31 ls st σ Q = acR 109 (o_get 7 12 34 ls st σ) ls σ Q := rn_row rfl ls st σ Q
theorem r_109_34 (ls : a_LS) (st : List Value) (σ : a_HP) (Q : Option Value → a_HP → Prop) : Rn 109 34 ls st σ Q = acR 109 (o_ldi 1 35 ls st σ) ls σ Q := rn_row rfl ls st σ Q
theorem r_109_35 (ls : a_LS) (st : List Value) (σ : a_HP) (Q : Option Value → a_HP → Prop) : Rn 109 35 ls st σ Q = acR 109 (o_pi (nI 3) 36 ls st σ) ls σ Q := rn_row rfl ls st σ Q
theorem r_109_36 (ls : a_LS) (st : List Value) (σ : a_HP) (Q : Option Value → a_HP → Prop) : Rn 109 36 ls st σ Q = acR 109 (o_bi f_add 37 ls st σ) ls σ Q := rn_row rfl ls st σ Q
theorem r_109_37 (ls : a_LS) (st : List Value) (σ : a_HP) (Q : Option Value → a_HP → Prop) : Rn 109 37 ls st σ Q = acR 109 (o_ial 38 ls st σ) ls σ Q := rn_row rfl ls st σ Q
theorem r_109_38 (ls : a_LS) (st : List Value) (σ : a_HP) (Q : Option Value → a_HP → Prop) : Rn 109 38 ls st σ Q = acR 109 (o_ldi 2 39 ls st σ) ls σ Q := rn_row rfl ls st σ Q
theorem r_109_39 (ls : a_LS) (st : List Value) (σ : a_HP) (Q : Option Value → a_HP → Prop) : Rn 109 39 ls st σ Q = acR 109 (o_ceq 77 42 ls st σ) ls σ Q := rn_row rfl ls st σ Q
theorem r_109_42 (ls : a_LS) (st : List Value) (σ : a_HP) (Q : Option Value → a_HP → Prop) : Rn 109 42 ls st σ Q = acR 109 (o_ldi 4 44 ls st σ) ls σ Q := rn_row rfl ls st σ Q
theorem r_109_44 (ls : a_LS) (st : List Value) (σ : a_HP) (Q : Option Value → a_HP → Prop) : Rn 109 44 ls st σ Q = acR 109 (o_le 59 47 ls st σ) ls σ Q := rn_row rfl ls st σ Q
theorem r_109_47 (ls : a_LS) (st : List Value) (σ : a_HP) (Q : Option Value → a_HP → Prop) : Rn 109 47 ls st σ Q = acR 109 (o_lda 0 48 ls st σ) ls σ Q := rn_row rfl ls st σ Q
theorem r_109_48 (ls : a_LS) (st : List Value) (σ : a_HP) (Q : Option Value → a_HP → Prop) : Rn 109 48 ls st σ Q = acR 109 (o_get 7 12 51 ls st σ) ls σ Q := rn_row rfl ls st σ Q
theorem r_109_51 (ls : a_LS) (st : List Value) (σ : a_HP) (Q : Option Value → a_HP → Prop) : Rn 109 51 ls st σ Q = acR 109 (o_ldi 1 52 ls st σ) ls σ Q := rn_row rfl ls st σ Q
theorem r_109_52 (ls : a_LS) (st : List Value) (σ : a_HP) (Q : Option Value → a_HP → Prop) : Rn 109 52 ls st σ Q = acR 109 (o_pi (nI 1) 53 ls st σ) ls σ Q := rn_row rfl ls st σ Q
theorem r_109_53 (ls : a_LS) (st : List Value) (σ : a_HP) (Q : Option Value → a_HP → Prop) : Rn 109 53 ls st σ Q = acR 109 (o_bi f_sub 54 ls st σ) ls σ Q := rn_row rfl ls st σ Q
theorem r_109_54 (ls : a_LS) (st : List Value) (σ : a_HP) (Q : Option Value → a_HP → Prop) : Rn 109 54 ls st σ Q = acR 109 (o_ial 55 ls st σ) ls σ Q := rn_row rfl ls st σ Q
theorem r_109_55 (ls : a_LS) (st : List Value) (σ : a_HP) (Q : Option Value → a_HP → Prop) : Rn 109 55 ls st σ Q = acR 109 (o_ldi 2 56 ls st σ) ls σ Q := rn_row rfl ls st σ Q
theorem r_109_56 (ls : a_LS) (st : List Value) (σ : a_HP) (Q : Option Value → a_HP → Prop) : Rn 109 56 ls st σ Q = acR 109 (o_ceq 77 59 ls st σ) ls σ Q := rn_row rfl ls st σ Q
theorem r_109_59 (ls : a_LS) (st : List Value) (σ : a_HP) (Q : Option Value → a_HP → Prop) : Rn 109 59 ls st σ Q = acR 109 (o_ldi 4 61 ls st σ) ls σ Q := rn_row rfl ls st σ Q
theorem r_109_61 (ls : a_LS) (st : List Value) (σ : a_HP) (Q : Option Value → a_HP → Prop) : Rn 109 61 ls st σ Q = acR 109 (o_pi (nI 2) 62 ls st σ) ls σ Q := rn_row rfl ls st σ Q
theorem r_109_62 (ls : a_LS) (st : List Value) (σ : a_HP) (Q : Option Value → a_HP → Prop) : Rn 109 62 ls st σ Q = acR 109 (o_cge 81 65 ls st σ) ls σ Q := rn_row rfl ls st σ Q
theorem r_109_65 (ls : a_LS) (st : List Value) (σ : a_HP) (Q : Option Value → a_HP → Prop) : Rn 109 65 ls st σ Q = acR 109 (o_lda 0 66 ls st σ) ls σ Q := rn_row rfl ls st σ Q
theorem r_109_66 (ls : a_LS) (st : List Value) (σ : a_HP) (Q : Option Value → a_HP → Prop) : Rn 109 66 ls st σ Q = acR 109 (o_get 7 12 69 ls st σ) ls σ Q := rn_row rfl ls st σ Q
theorem r_109_69 (ls : a_LS) (st : List Value) (σ : a_HP) (Q : Option Value → a_HP → Prop) : Rn 109 69 ls st σ Q = acR 109 (o_ldi 1 70 ls st σ) ls σ Q := rn_row rfl ls st σ Q
theorem r_109_70 (ls : a_LS) (st : List Value) (σ : a_HP) (Q : Option Value → a_HP → Prop) : Rn 109 70 ls st σ Q = acR 109 (o_pi (nI 1) 71 ls st σ) ls σ Q := rn_row rfl ls st σ Q
theorem r_109_71 (ls : a_LS) (st : List Value) (σ : a_HP) (Q : Option Value → a_HP → Prop) : Rn 109 71 ls st σ Q = acR 109 (o_bi f_add 72 ls st σ) ls σ Q := rn_row rfl ls st σ Q
theorem r_109_72 (ls : a_LS) (st : List Value) (σ : a_HP) (Q : Option Value → a_HP → Prop) : Rn 109 72 ls st σ Q = acR 109 (o_ial 73 ls st σ) ls σ Q := rn_row rfl ls st σ Q
theorem r_109_73 (ls : a_LS) (st : List Value) (σ : a_HP) (Q : Option Value → a_HP → Prop) : Rn 109 73 ls st σ Q = acR 109 (o_ldi 2 74 ls st σ) ls σ Q := rn_row rfl ls st σ Q
theorem r_109_74 (ls : a_LS) (st : List Value) (σ : a_HP) (Q : Option Value → a_HP → Prop) : Rn 109 74 ls st σ Q = acR 109 (o_cne 81 77 ls st σ) ls σ Q := rn_row rfl ls st σ Q
theorem r_109_77 (ls : a_LS) (st : List Value) (σ : a_HP) (Q : Option Value → a_HP → Prop) : Rn 109 77 ls st σ Q = acR 109 (o_pi (nI 1) 78 ls st σ) ls σ Q := rn_row rfl ls st σ Q
theorem r_109_78 (ls : a_LS) (st : List Value) (σ : a_HP) (Q : Option Value → a_HP → Prop) : Rn 109 78 ls st σ Q = acR 109 (o_go 82 ls st σ) ls σ Q := rn_row rfl ls st σ Q
theorem r_109_81 (ls : a_LS) (st : List Value) (σ : a_HP) (Q : Option Value → a_HP → Prop) : Rn 109 81 ls st σ Q = acR 109 (o_pi (nI 0) 82 ls st σ) ls σ Q := rn_row rfl ls st σ Q
theorem r_109_82 (ls : a_LS) (st : List Value) (σ : a_HP) (Q : Option Value → a_HP → Prop) : Rn 109 82 ls st σ Q = acR 109 (o_rz ls st σ) ls σ Q := rn_row rfl ls st σ Q
/-! 110: NetLaw.chosen(II)I -/
theorem cl_110 (x0 : Int32) (x1 : Int32) (σ : a_HP) (Q : Option Value → a_HP → Prop) : Cl 110 [.int x0, .int x1] σ Q = Rn 110 0 [some (.int x0), some (.int x1)] [] σ Q := cl_of (Nat.le_of_ble_eq_true rfl) rfl σ Q
theorem r_110_0 (ls : a_LS) (st : List Value) (σ : a_HP) (Q : Option Value → a_HP → Prop) : Rn 110 0 ls st σ Q = acR 110 (o_ldi 1 1 ls st σ) ls σ Q := rn_row rfl ls st σ Q
theorem r_110_1 (ls : a_LS) (st : List Value) (σ : a_HP) (Q : Option Value → a_HP → Prop) : Rn 110 1 ls st σ Q = acR 110 (o_pi (nI 4) 2 ls st σ) ls σ Q := rn_row rfl ls st σ Q
theorem r_110_2 (ls : a_LS) (st : List Value) (σ : a_HP) (Q : Option Value → a_HP → Prop) : Rn 110 2 ls st σ Q = acR 110 (o_cge 13 5 ls st σ) ls σ Q := rn_row rfl ls st σ Q
theorem r_110_5 (ls : a_LS) (st : List Value) (σ : a_HP) (Q : Option Value → a_HP → Prop) : Rn 110 5 ls st σ Q = acR 110 (o_ldi 0 6 ls st σ) ls σ Q := rn_row rfl ls st σ Q
theorem r_110_6 (ls : a_LS) (st : List Value) (σ : a_HP) (Q : Option Value → a_HP → Prop) : Rn 110 6 ls st σ Q = acR 110 (o_ldi 1 7 ls st σ) ls σ Q := rn_row rfl ls st σ Q
theorem r_110_7 (ls : a_LS) (st : List Value) (σ : a_HP) (Q : Option Value → a_HP → Prop) : Rn 110 7 ls st σ Q = acR 110 (o_ivs 103 2 10 ls st σ) ls σ Q := rn_row rfl ls st σ Q
theorem r_110_10 (ls : a_LS) (st : List Value) (σ : a_HP) (Q : Option Value → a_HP → Prop) : Rn 110 10 ls st σ Q = acR 110 (o_go 15 ls st σ) ls σ Q := rn_row rfl ls st σ Q
theorem r_110_13 (ls : a_LS) (st : List Value) (σ : a_HP) (Q : Option Value → a_HP → Prop) : Rn 110 13 ls st σ Q = acR 110 (o_pi (nI 16) 15 ls st σ) ls σ Q := rn_row rfl ls st σ Q
theorem r_110_15 (ls : a_LS) (st : List Value) (σ : a_HP) (Q : Option Value → a_HP → Prop) : Rn 110 15 ls st σ Q = acR 110 (o_ri ls st σ) ls σ Q := rn_row rfl ls st σ Q
/-! 111: NetLaw.mayChoose(II)Z -/
theorem cl_111 (x0 : Nat) (x1 : Int32) (x2 : Int32) (σ : a_HP) (Q : Option Value → a_HP → Prop) : Cl 111 [.ref x0, .int x1, .int x2] σ Q = Rn 111 0 [some (.ref x0), some (.int x1), some (.int x2)] [] σ Q := cl_of (Nat.le_of_ble_eq_true rfl) rfl σ Q
theorem r_111_0 (ls : a_LS) (st : List Value) (σ : a_HP) (Q : Option Value → a_HP → Prop) : Rn 111 0 ls st σ Q = acR 111 (o_ldi 2 1 ls st σ) ls σ Q := rn_row rfl ls st σ Q
theorem r_111_1 (ls : a_LS) (st : List Value) (σ : a_HP) (Q : Option Value → a_HP → Prop) : Rn 111 1 ls st σ Q = acR 111 (o_pi (nI 4) 2 ls st σ) ls σ Q := rn_row rfl ls st σ Q
theorem r_111_2 (ls : a_LS) (st : List Value) (σ : a_HP) (Q : Option Value → a_HP → Prop) : Rn 111 2 ls st σ Q = acR 111 (o_ceq 20 5 ls st σ) ls σ Q := rn_row rfl ls st σ Q
theorem r_111_5 (ls : a_LS) (st : List Value) (σ : a_HP) (Q : Option Value → a_HP → Prop) : Rn 111 5 ls st σ Q = acR 111 (o_lda 0 6 ls st σ) ls σ Q := rn_row rfl ls st σ Q
theorem r_111_6 (ls : a_LS) (st : List Value) (σ : a_HP) (Q : Option Value → a_HP → Prop) : Rn 111 6 ls st σ Q = acR 111 (o_get 7 0 9 ls st σ) ls σ Q := rn_row rfl ls st σ Q
theorem r_111_9 (ls : a_LS) (st : List Value) (σ : a_HP) (Q : Option Value → a_HP → Prop) : Rn 111 9 ls st σ Q = acR 111 (o_ldi 1 10 ls st σ) ls σ Q := rn_row rfl ls st σ Q
theorem r_111_10 (ls : a_LS) (st : List Value) (σ : a_HP) (Q : Option Value → a_HP → Prop) : Rn 111 10 ls st σ Q = acR 111 (o_ldi 2 11 ls st σ) ls σ Q := rn_row rfl ls st σ Q
theorem r_111_11 (ls : a_LS) (st : List Value) (σ : a_HP) (Q : Option Value → a_HP → Prop) : Rn 111 11 ls st σ Q = acR 111 (o_ivs 103 2 14 ls st σ) ls σ Q := rn_row rfl ls st σ Q
theorem r_111_14 (ls : a_LS) (st : List Value) (σ : a_HP) (Q : Option Value → a_HP → Prop) : Rn 111 14 ls st σ Q = acR 111 (o_ivv 3 19 1 17 ls st σ) ls σ Q := rn_row rfl ls st σ Q
theorem r_111_17 (ls : a_LS) (st : List Value) (σ : a_HP) (Q : Option Value → a_HP → Prop) : Rn 111 17 ls st σ Q = acR 111 (o_ne 24 20 ls st σ) ls σ Q := rn_row rfl ls st σ Q
theorem r_111_20 (ls : a_LS) (st : List Value) (σ : a_HP) (Q : Option Value → a_HP → Prop) : Rn 111 20 ls st σ Q = acR 111 (o_pi (nI 1) 21 ls st σ) ls σ Q := rn_row rfl ls st σ Q
theorem r_111_21 (ls : a_LS) (st : List Value) (σ : a_HP) (Q : Option Value → a_HP → Prop) : Rn 111 21 ls st σ Q = acR 111 (o_go 25 ls st σ) ls σ Q := rn_row rfl ls st σ Q
theorem r_111_24 (ls : a_LS) (st : List Value) (σ : a_HP) (Q : Option Value → a_HP → Prop) : Rn 111 24 ls st σ Q = acR 111 (o_pi (nI 0) 25 ls st σ) ls σ Q := rn_row rfl ls st σ Q
theorem r_111_25 (ls : a_LS) (st : List Value) (σ : a_HP) (Q : Option Value → a_HP → Prop) : Rn 111 25 ls st σ Q = acR 111 (o_rz ls st σ) ls σ Q := rn_row rfl ls st σ Q
/-! 112: NetLaw.fillGets(III)V -/
theorem cl_112 (x0 : Nat) (x1 : Int32) (x2 : Int32) (x3 : Int32) (σ : a_HP) (Q : Option Value → a_HP → Prop) : Cl 112 [.ref x0, .int x1, .int x2, .int x3] σ Q = Rn 112 0 [some (.ref x0), some (.int x1), some (.int x2), some (.int x3), none, none, none] [] σ Q := cl_of (Nat.le_of_ble_eq_true rfl) rfl σ Q
theorem r_112_0 (ls : a_LS) (st : List Value) (σ : a_HP) (Q : Option Value → a_HP → Prop) : Rn 112 0 ls st σ Q = acR 112 (o_lda 0 1 ls st σ) ls σ Q := rn_row rfl ls st σ Q
theorem r_112_1 (ls : a_LS) (st : List Value) (σ : a_HP) (Q : Option Value → a_HP → Prop) : Rn 112 1 ls st σ Q = acR 112 (o_get 7 7 4 ls st σ) ls σ Q := rn_row rfl ls st σ Q
theorem r_112_4 (ls : a_LS) (st : List Value) (σ : a_HP) (Q : Option Value → a_HP → Prop) : Rn 112 4 ls st σ Q = acR 112 (o_lda 0 5 ls st σ) ls σ Q := rn_row rfl ls st σ Q
theorem r_112_5 (ls : a_LS) (st : List Value) (σ : a_HP) (Q : Option Value → a_HP → Prop) : Rn 112 5 ls st σ Q = acR 112 (o_get 7 0 8 ls st σ) ls σ Q := rn_row rfl ls st σ Q
theorem r_112_8 (ls : a_LS) (st : List Value) (σ : a_HP) (Q : Option Value → a_HP → Prop) : Rn 112 8 ls st σ Q = acR 112 (o_ivv 3 17 1 11 ls st σ) ls σ Q := rn_row rfl ls st σ Q
theorem r_112_11 (ls : a_LS) (st : List Value) (σ : a_HP) (Q : Option Value → a_HP → Prop) : Rn 112 11 ls st σ Q = acR 112 (o_pi (nI 0) 12 ls st σ) ls σ Q := rn_row rfl ls st σ Q
theorem r_112_12 (ls : a_LS) (st : List Value) (σ : a_HP) (Q : Option Value → a_HP → Prop) : Rn 112 12 ls st σ Q = acR 112 (o_sti 4 14 ls st σ) ls σ Q := rn_row rfl ls st σ Q
theorem r_112_14 (ls : a_LS) (st : List Value) (σ : a_HP) (Q : Option Value → a_HP → Prop) : Rn 112 14 ls st σ Q = acR 112 (o_ldi 4 16 ls st σ) ls σ Q := rn_row rfl ls st σ Q
theorem r_112_16 (ls : a_LS) (st : List Value) (σ : a_HP) (Q : Option Value → a_HP → Prop) : Rn 112 16 ls st σ Q = acR 112 (o_pi (nI 5) 17 ls st σ) ls σ Q := rn_row rfl ls st σ Q
theorem r_112_17 (ls : a_LS) (st : List Value) (σ : a_HP) (Q : Option Value → a_HP → Prop) : Rn 112 17 ls st σ Q = acR 112 (o_cge 145 20 ls st σ) ls σ Q := rn_row rfl ls st σ Q
theorem r_112_20 (ls : a_LS) (st : List Value) (σ : a_HP) (Q : Option Value → a_HP → Prop) : Rn 112 20 ls st σ Q = acR 112 (o_pi (nI 0) 21 ls st σ) ls σ Q := rn_row rfl ls st σ Q
theorem r_112_21 (ls : a_LS) (st : List Value) (σ : a_HP) (Q : Option Value → a_HP → Prop) : Rn 112 21 ls st σ Q = acR 112 (o_sti 5 23 ls st σ) ls σ Q := rn_row rfl ls st σ Q
theorem r_112_23 (ls : a_LS) (st : List Value) (σ : a_HP) (Q : Option Value → a_HP → Prop) : Rn 112 23 ls st σ Q = acR 112 (o_ldi 5 25 ls st σ) ls σ Q := rn_row rfl ls st σ Q
theorem r_112_25 (ls : a_LS) (st : List Value) (σ : a_HP) (Q : Option Value → a_HP → Prop) : Rn 112 25 ls st σ Q = acR 112 (o_pi (nI 5) 26 ls st σ) ls σ Q := rn_row rfl ls st σ Q
theorem r_112_26 (ls : a_LS) (st : List Value) (σ : a_HP) (Q : Option Value → a_HP → Prop) : Rn 112 26 ls st σ Q = acR 112 (o_cge 139 29 ls st σ) ls σ Q := rn_row rfl ls st σ Q
theorem r_112_29 (ls : a_LS) (st : List Value) (σ : a_HP) (Q : Option Value → a_HP → Prop) : Rn 112 29 ls st σ Q = acR 112 (o_lda 0 30 ls st σ) ls σ Q := rn_row rfl ls st σ Q
theorem r_112_30 (ls : a_LS) (st : List Value) (σ : a_HP) (Q : Option Value → a_HP → Prop) : Rn 112 30 ls st σ Q = acR 112 (o_ldi 1 31 ls st σ) ls σ Q := rn_row rfl ls st σ Q
theorem r_112_31 (ls : a_LS) (st : List Value) (σ : a_HP) (Q : Option Value → a_HP → Prop) : Rn 112 31 ls st σ Q = acR 112 (o_ldi 4 33 ls st σ) ls σ Q := rn_row rfl ls st σ Q
theorem r_112_33 (ls : a_LS) (st : List Value) (σ : a_HP) (Q : Option Value → a_HP → Prop) : Rn 112 33 ls st σ Q = acR 112 (o_ivv 7 111 2 36 ls st σ) ls σ Q := rn_row rfl ls st σ Q
theorem r_112_36 (ls : a_LS) (st : List Value) (σ : a_HP) (Q : Option Value → a_HP → Prop) : Rn 112 36 ls st σ Q = acR 112 (o_eq 133 39 ls st σ) ls σ Q := rn_row rfl ls st σ Q
theorem r_112_39 (ls : a_LS) (st : List Value) (σ : a_HP) (Q : Option Value → a_HP → Prop) : Rn 112 39 ls st σ Q = acR 112 (o_lda 0 40 ls st σ) ls σ Q := rn_row rfl ls st σ Q
theorem r_112_40 (ls : a_LS) (st : List Value) (σ : a_HP) (Q : Option Value → a_HP → Prop) : Rn 112 40 ls st σ Q = acR 112 (o_ldi 2 41 ls st σ) ls σ Q := rn_row rfl ls st σ Q
theorem r_112_41 (ls : a_LS) (st : List Value) (σ : a_HP) (Q : Option Value → a_HP → Prop) : Rn 112 41 ls st σ Q = acR 112 (o_ldi 5 43 ls st σ) ls σ Q := rn_row rfl ls st σ Q
theorem r_112_43 (ls : a_LS) (st : List Value) (σ : a_HP) (Q : Option Value → a_HP → Prop) : Rn 112 43 ls st σ Q = acR 112 (o_ivv 7 111 2 46 ls st σ) ls σ Q := rn_row rfl ls st σ Q
theorem r_112_46 (ls : a_LS) (st : List Value) (σ : a_HP) (Q : Option Value → a_HP → Prop) : Rn 112 46 ls st σ Q = acR 112 (o_ne 52 49 ls st σ) ls σ Q := rn_row rfl ls st σ Q
theorem r_112_49 (ls : a_LS) (st : List Value) (σ : a_HP) (Q : Option Value → a_HP → Prop) : Rn 112 49 ls st σ Q = acR 112 (o_go 133 ls st σ) ls σ Q := rn_row rfl ls st σ Q
theorem r_112_52 (ls : a_LS) (st : List Value) (σ : a_HP) (Q : Option Value → a_HP → Prop) : Rn 112 52 ls st σ Q = acR 112 (o_lda 0 53 ls st σ) ls σ Q := rn_row rfl ls st σ Q
theorem r_112_53 (ls : a_LS) (st : List Value) (σ : a_HP) (Q : Option Value → a_HP → Prop) : Rn 112 53 ls st σ Q = acR 112 (o_ldi 1 54 ls st σ) ls σ Q := rn_row rfl ls st σ Q
theorem r_112_54 (ls : a_LS) (st : List Value) (σ : a_HP) (Q : Option Value → a_HP → Prop) : Rn 112 54 ls st σ Q = acR 112 (o_ldi 4 56 ls st σ) ls σ Q := rn_row rfl ls st σ Q
theorem r_112_56 (ls : a_LS) (st : List Value) (σ : a_HP) (Q : Option Value → a_HP → Prop) : Rn 112 56 ls st σ Q = acR 112 (o_ivs 110 2 59 ls st σ) ls σ Q := rn_row rfl ls st σ Q
theorem r_112_59 (ls : a_LS) (st : List Value) (σ : a_HP) (Q : Option Value → a_HP → Prop) : Rn 112 59 ls st σ Q = acR 112 (o_ldi 3 60 ls st σ) ls σ Q := rn_row rfl ls st σ Q
theorem r_112_60 (ls : a_LS) (st : List Value) (σ : a_HP) (Q : Option Value → a_HP → Prop) : Rn 112 60 ls st σ Q = acR 112 (o_ivv 7 113 2 63 ls st σ) ls σ Q := rn_row rfl ls st σ Q
theorem r_112_63 (ls : a_LS) (st : List Value) (σ : a_HP) (Q : Option Value → a_HP → Prop) : Rn 112 63 ls st σ Q = acR 112 (o_lda 0 64 ls st σ) ls σ Q := rn_row rfl ls st σ Q
theorem r_112_64 (ls : a_LS) (st : List Value) (σ : a_HP) (Q : Option Value → a_HP → Prop) : Rn 112 64 ls st σ Q = acR 112 (o_ldi 2 65 ls st σ) ls σ Q := rn_row rfl ls st σ Q
theorem r_112_65 (ls : a_LS) (st : List Value) (σ : a_HP) (Q : Option Value → a_HP → Prop) : Rn 112 65 ls st σ Q = acR 112 (o_ldi 5 67 ls st σ) ls σ Q := rn_row rfl ls st σ Q
theorem r_112_67 (ls : a_LS) (st : List Value) (σ : a_HP) (Q : Option Value → a_HP → Prop) : Rn 112 67 ls st σ Q = acR 112 (o_ivs 110 2 70 ls st σ) ls σ Q := rn_row rfl ls st σ Q
theorem r_112_70 (ls : a_LS) (st : List Value) (σ : a_HP) (Q : Option Value → a_HP → Prop) : Rn 112 70 ls st σ Q = acR 112 (o_ldi 3 71 ls st σ) ls σ Q := rn_row rfl ls st σ Q
theorem r_112_71 (ls : a_LS) (st : List Value) (σ : a_HP) (Q : Option Value → a_HP → Prop) : Rn 112 71 ls st σ Q = acR 112 (o_ivv 7 113 2 74 ls st σ) ls σ Q := rn_row rfl ls st σ Q
theorem r_112_74 (ls : a_LS) (st : List Value) (σ : a_HP) (Q : Option Value → a_HP → Prop) : Rn 112 74 ls st σ Q = acR 112 (o_ldi 4 76 ls st σ) ls σ Q := rn_row rfl ls st σ Q
theorem r_112_76 (ls : a_LS) (st : List Value) (σ : a_HP) (Q : Option Value → a_HP → Prop) : Rn 112 76 ls st σ Q = acR 112 (o_pi (nI 5) 77 ls st σ) ls σ Q := rn_row rfl ls st σ Q
theorem r_112_77 (ls : a_LS) (st : List Value) (σ : a_HP) (Q : Option Value → a_HP → Prop) : Rn 112 77 ls st σ Q = acR 112 (o_bi f_mul 78 ls st σ) ls σ Q := rn_row rfl ls st σ Q
theorem r_112_78 (ls : a_LS) (st : List Value) (σ : a_HP) (Q : Option Value → a_HP → Prop) : Rn 112 78 ls st σ Q = acR 112 (o_ldi 5 80 ls st σ) ls σ Q := rn_row rfl ls st σ Q
theorem r_112_80 (ls : a_LS) (st : List Value) (σ : a_HP) (Q : Option Value → a_HP → Prop) : Rn 112 80 ls st σ Q = acR 112 (o_bi f_add 81 ls st σ) ls σ Q := rn_row rfl ls st σ Q
theorem r_112_81 (ls : a_LS) (st : List Value) (σ : a_HP) (Q : Option Value → a_HP → Prop) : Rn 112 81 ls st σ Q = acR 112 (o_sti 6 83 ls st σ) ls σ Q := rn_row rfl ls st σ Q
theorem r_112_83 (ls : a_LS) (st : List Value) (σ : a_HP) (Q : Option Value → a_HP → Prop) : Rn 112 83 ls st σ Q = acR 112 (o_lda 0 84 ls st σ) ls σ Q := rn_row rfl ls st σ Q
theorem r_112_84 (ls : a_LS) (st : List Value) (σ : a_HP) (Q : Option Value → a_HP → Prop) : Rn 112 84 ls st σ Q = acR 112 (o_get 7 10 87 ls st σ) ls σ Q := rn_row rfl ls st σ Q
theorem r_112_87 (ls : a_LS) (st : List Value) (σ : a_HP) (Q : Option Value → a_HP → Prop) : Rn 112 87 ls st σ Q = acR 112 (o_ldi 6 89 ls st σ) ls σ Q := rn_row rfl ls st σ Q
theorem r_112_89 (ls : a_LS) (st : List Value) (σ : a_HP) (Q : Option Value → a_HP → Prop) : Rn 112 89 ls st σ Q = acR 112 (o_lda 0 90 ls st σ) ls σ Q := rn_row rfl ls st σ Q
theorem r_112_90 (ls : a_LS) (st : List Value) (σ : a_HP) (Q : Option Value → a_HP → Prop) : Rn 112 90 ls st σ Q = acR 112 (o_ldi 1 91 ls st σ) ls σ Q := rn_row rfl ls st σ Q
theorem r_112_91 (ls : a_LS) (st : List Value) (σ : a_HP) (Q : Option Value → a_HP → Prop) : Rn 112 91 ls st σ Q = acR 112 (o_ldi 4 93 ls st σ) ls σ Q := rn_row rfl ls st σ Q
theorem r_112_93 (ls : a_LS) (st : List Value) (σ : a_HP) (Q : Option Value → a_HP → Prop) : Rn 112 93 ls st σ Q = acR 112 (o_ldi 3 94 ls st σ) ls σ Q := rn_row rfl ls st σ Q
theorem r_112_94 (ls : a_LS) (st : List Value) (σ : a_HP) (Q : Option Value → a_HP → Prop) : Rn 112 94 ls st σ Q = acR 112 (o_ivv 7 115 3 97 ls st σ) ls σ Q := rn_row rfl ls st σ Q
theorem r_112_97 (ls : a_LS) (st : List Value) (σ : a_HP) (Q : Option Value → a_HP → Prop) : Rn 112 97 ls st σ Q = acR 112 (o_ias 98 ls st σ) ls σ Q := rn_row rfl ls st σ Q
theorem r_112_98 (ls : a_LS) (st : List Value) (σ : a_HP) (Q : Option Value → a_HP → Prop) : Rn 112 98 ls st σ Q = acR 112 (o_lda 0 99 ls st σ) ls σ Q := rn_row rfl ls st σ Q
theorem r_112_99 (ls : a_LS) (st : List Value) (σ : a_HP) (Q : Option Value → a_HP → Prop) : Rn 112 99 ls st σ Q = acR 112 (o_get 7 11 102 ls st σ) ls σ Q := rn_row rfl ls st σ Q
theorem r_112_102 (ls : a_LS) (st : List Value) (σ : a_HP) (Q : Option Value → a_HP → Prop) : Rn 112 102 ls st σ Q = acR 112 (o_ldi 6 104 ls st σ) ls σ Q := rn_row rfl ls st σ Q
theorem r_112_104 (ls : a_LS) (st : List Value) (σ : a_HP) (Q : Option Value → a_HP → Prop) : Rn 112 104 ls st σ Q = acR 112 (o_lda 0 105 ls st σ) ls σ Q := rn_row rfl ls st σ Q
theorem r_112_105 (ls : a_LS) (st : List Value) (σ : a_HP) (Q : Option Value → a_HP → Prop) : Rn 112 105 ls st σ Q = acR 112 (o_ldi 2 106 ls st σ) ls σ Q := rn_row rfl ls st σ Q
theorem r_112_106 (ls : a_LS) (st : List Value) (σ : a_HP) (Q : Option Value → a_HP → Prop) : Rn 112 106 ls st σ Q = acR 112 (o_ldi 5 108 ls st σ) ls σ Q := rn_row rfl ls st σ Q
theorem r_112_108 (ls : a_LS) (st : List Value) (σ : a_HP) (Q : Option Value → a_HP → Prop) : Rn 112 108 ls st σ Q = acR 112 (o_ldi 3 109 ls st σ) ls σ Q := rn_row rfl ls st σ Q
theorem r_112_109 (ls : a_LS) (st : List Value) (σ : a_HP) (Q : Option Value → a_HP → Prop) : Rn 112 109 ls st σ Q = acR 112 (o_ivv 7 115 3 112 ls st σ) ls σ Q := rn_row rfl ls st σ Q
theorem r_112_112 (ls : a_LS) (st : List Value) (σ : a_HP) (Q : Option Value → a_HP → Prop) : Rn 112 112 ls st σ Q = acR 112 (o_ias 113 ls st σ) ls σ Q := rn_row rfl ls st σ Q
theorem r_112_113 (ls : a_LS) (st : List Value) (σ : a_HP) (Q : Option Value → a_HP → Prop) : Rn 112 113 ls st σ Q = acR 112 (o_lda 0 114 ls st σ) ls σ Q := rn_row rfl ls st σ Q
theorem r_112_114 (ls : a_LS) (st : List Value) (σ : a_HP) (Q : Option Value → a_HP → Prop) : Rn 112 114 ls st σ Q = acR 112 (o_ldi 1 115 ls st σ) ls σ Q := rn_row rfl ls st σ Q
theorem r_112_115 (ls : a_LS) (st : List Value) (σ : a_HP) (Q : Option Value → a_HP → Prop) : Rn 112 115 ls st σ Q = acR 112 (o_ldi 4 117 ls st σ) ls σ Q := rn_row rfl ls st σ Q
theorem r_112_117 (ls : a_LS) (st : List Value) (σ : a_HP) (Q : Option Value → a_HP → Prop) : Rn 112 117 ls st σ Q = acR 112 (o_ivs 110 2 120 ls st σ) ls σ Q := rn_row rfl ls st σ Q
theorem r_112_120 (ls : a_LS) (st : List Value) (σ : a_HP) (Q : Option Value → a_HP → Prop) : Rn 112 120 ls st σ Q = acR 112 (o_ivv 7 114 1 123 ls st σ) ls σ Q := rn_row rfl ls st σ Q
theorem r_112_123 (ls : a_LS) (st : List Value) (σ : a_HP) (Q : Option Value → a_HP → Prop) : Rn 112 123 ls st σ Q = acR 112 (o_lda 0 124 ls st σ) ls σ Q := rn_row rfl ls st σ Q
theorem r_112_124 (ls : a_LS) (st : List Value) (σ : a_HP) (Q : Option Value → a_HP → Prop) : Rn 112 124 ls st σ Q = acR 112 (o_ldi 2 125 ls st σ) ls σ Q := rn_row rfl ls st σ Q
theorem r_112_125 (ls : a_LS) (st : List Value) (σ : a_HP) (Q : Option Value → a_HP → Prop) : Rn 112 125 ls st σ Q = acR 112 (o_ldi 5 127 ls st σ) ls σ Q := rn_row rfl ls st σ Q
theorem r_112_127 (ls : a_LS) (st : List Value) (σ : a_HP) (Q : Option Value → a_HP → Prop) : Rn 112 127 ls st σ Q = acR 112 (o_ivs 110 2 130 ls st σ) ls σ Q := rn_row rfl ls st σ Q
theorem r_112_130 (ls : a_LS) (st : List Value) (σ : a_HP) (Q : Option Value → a_HP → Prop) : Rn 112 130 ls st σ Q = acR 112 (o_ivv 7 114 1 133 ls st σ) ls σ Q := rn_row rfl ls st σ Q
theorem r_112_133 (ls : a_LS) (st : List Value) (σ : a_HP) (Q : Option Value → a_HP → Prop) : Rn 112 133 ls st σ Q = acR 112 (o_inc 5 (nI 1) 136 ls st σ) ls σ Q := rn_row rfl ls st σ Q
theorem r_112_136 (ls : a_LS) (st : List Value) (σ : a_HP) (Q : Option Value → a_HP → Prop) : Rn 112 136 ls st σ Q = acR 112 (o_go 23 ls st σ) ls σ Q := rn_row rfl ls st σ Q
theorem r_112_139 (ls : a_LS) (st : List Value) (σ : a_HP) (Q : Option Value → a_HP → Prop) : Rn 112 139 ls st σ Q = acR 112 (o_inc 4 (nI 1) 142 ls st σ) ls σ Q := rn_row rfl ls st σ Q
theorem r_112_142 (ls : a_LS) (st : List Value) (σ : a_HP) (Q : Option Value → a_HP → Prop) : Rn 112 142 ls st σ Q = acR 112 (o_go 14 ls st σ) ls σ Q := rn_row rfl ls st σ Q
theorem r_112_145 (ls : a_LS) (st : List Value) (σ : a_HP) (Q : Option Value → a_HP → Prop) : Rn 112 145 ls st σ Q = acR 112 (o_rv ls st σ) ls σ Q := rn_row rfl ls st σ Q
/-! 113: NetLaw.mendTrial(II)V -/
theorem cl_113 (x0 : Nat) (x1 : Int32) (x2 : Int32) (σ : a_HP) (Q : Option Value → a_HP → Prop) : Cl 113 [.ref x0, .int x1, .int x2] σ Q = Rn 113 0 [some (.ref x0), some (.int x1), some (.int x2)] [] σ Q := cl_of (Nat.le_of_ble_eq_true rfl) rfl σ Q
theorem r_113_0 (ls : a_LS) (st : List Value) (σ : a_HP) (Q : Option Value → a_HP → Prop) : Rn 113 0 ls st σ Q = acR 113 (o_ldi 1 1 ls st σ) ls σ Q := rn_row rfl ls st σ Q
theorem r_113_1 (ls : a_LS) (st : List Value) (σ : a_HP) (Q : Option Value → a_HP → Prop) : Rn 113 1 ls st σ Q = acR 113 (o_ivs 92 1 4 ls st σ) ls σ Q := rn_row rfl ls st σ Q
theorem r_113_4 (ls : a_LS) (st : List Value) (σ : a_HP) (Q : Option Value → a_HP → Prop) : Rn 113 4 ls st σ Q = acR 113 (o_eq 32 7 ls st σ) ls σ Q := rn_row rfl ls st σ Q
theorem r_113_7 (ls : a_LS) (st : List Value) (σ : a_HP) (Q : Option Value → a_HP → Prop) : Rn 113 7 ls st σ Q = acR 113 (o_lda 0 8 ls st σ) ls σ Q := rn_row rfl ls st σ Q
theorem r_113_8 (ls : a_LS) (st : List Value) (σ : a_HP) (Q : Option Value → a_HP → Prop) : Rn 113 8 ls st σ Q = acR 113 (o_get 7 7 11 ls st σ) ls σ Q := rn_row rfl ls st σ Q
theorem r_113_11 (ls : a_LS) (st : List Value) (σ : a_HP) (Q : Option Value → a_HP → Prop) : Rn 113 11 ls st σ Q = acR 113 (o_get 3 5 14 ls st σ) ls σ Q := rn_row rfl ls st σ Q
theorem r_113_14 (ls : a_LS) (st : List Value) (σ : a_HP) (Q : Option Value → a_HP → Prop) : Rn 113 14 ls st σ Q = acR 113 (o_ldi 1 15 ls st σ) ls σ Q := rn_row rfl ls st σ Q
theorem r_113_15 (ls : a_LS) (st : List Value) (σ : a_HP) (Q : Option Value → a_HP → Prop) : Rn 113 15 ls st σ Q = acR 113 (o_pi (nI 9) 17 ls st σ) ls σ Q := rn_row rfl ls st σ Q
theorem r_113_17 (ls : a_LS) (st : List Value) (σ : a_HP) (Q : Option Value → a_HP → Prop) : Rn 113 17 ls st σ Q = acR 113 (o_lda 0 18 ls st σ) ls σ Q := rn_row rfl ls st σ Q
theorem r_113_18 (ls : a_LS) (st : List Value) (σ : a_HP) (Q : Option Value → a_HP → Prop) : Rn 113 18 ls st σ Q = acR 113 (o_get 7 7 21 ls st σ) ls σ Q := rn_row rfl ls st σ Q
theorem r_113_21 (ls : a_LS) (st : List Value) (σ : a_HP) (Q : Option Value → a_HP → Prop) : Rn 113 21 ls st σ Q = acR 113 (o_get 3 5 24 ls st σ) ls σ Q := rn_row rfl ls st σ Q
theorem r_113_24 (ls : a_LS) (st : List Value) (σ : a_HP) (Q : Option Value → a_HP → Prop) : Rn 113 24 ls st σ Q = acR 113 (o_ldi 1 25 ls st σ) ls σ Q := rn_row rfl ls st σ Q
theorem r_113_25 (ls : a_LS) (st : List Value) (σ : a_HP) (Q : Option Value → a_HP → Prop) : Rn 113 25 ls st σ Q = acR 113 (o_ial 26 ls st σ) ls σ Q := rn_row rfl ls st σ Q
theorem r_113_26 (ls : a_LS) (st : List Value) (σ : a_HP) (Q : Option Value → a_HP → Prop) : Rn 113 26 ls st σ Q = acR 113 (o_ldi 2 27 ls st σ) ls σ Q := rn_row rfl ls st σ Q
theorem r_113_27 (ls : a_LS) (st : List Value) (σ : a_HP) (Q : Option Value → a_HP → Prop) : Rn 113 27 ls st σ Q = acR 113 (o_bi f_add 28 ls st σ) ls σ Q := rn_row rfl ls st σ Q
theorem r_113_28 (ls : a_LS) (st : List Value) (σ : a_HP) (Q : Option Value → a_HP → Prop) : Rn 113 28 ls st σ Q = acR 113 (o_ivs 208 2 31 ls st σ) ls σ Q := rn_row rfl ls st σ Q
theorem r_113_31 (ls : a_LS) (st : List Value) (σ : a_HP) (Q : Option Value → a_HP → Prop) : Rn 113 31 ls st σ Q = acR 113 (o_ias 32 ls st σ) ls σ Q := rn_row rfl ls st σ Q
theorem r_113_32 (ls : a_LS) (st : List Value) (σ : a_HP) (Q : Option Value → a_HP → Prop) : Rn 113 32 ls st σ Q = acR 113 (o_rv ls st σ) ls σ Q := rn_row rfl ls st σ Q
/-! 114: NetLaw.takeBack(I)V -/
theorem cl_114 (x0 : Nat) (x1 : Int32) (σ : a_HP) (Q : Option Value → a_HP → Prop) : Cl 114 [.ref x0, .int x1] σ Q = Rn 114 0 [some (.ref x0), some (.int x1)] [] σ Q := cl_of (Nat.le_of_ble_eq_true rfl) rfl σ Q
theorem r_114_0 (ls : a_LS) (st : List Value) (σ : a_HP) (Q : Option Value → a_HP → Prop) : Rn 114 0 ls st σ Q = acR 114 (o_ldi 1 1 ls st σ) ls σ Q := rn_row rfl ls st σ Q
theorem r_114_1 (ls : a_LS) (st : List Value) (σ : a_HP) (Q : Option Value → a_HP → Prop) : Rn 114 1 ls st σ Q = acR 114 (o_ivs 92 1 4 ls st σ) ls σ Q := rn_row rfl ls st σ Q
theorem r_114_4 (ls : a_LS) (st : List Value) (σ : a_HP) (Q : Option Value → a_HP → Prop) : Rn 114 4 ls st σ Q = acR 114 (o_eq 25 7 ls st σ) ls σ Q := rn_row rfl ls st σ Q
theorem r_114_7 (ls : a_LS) (st : List Value) (σ : a_HP) (Q : Option Value → a_HP → Prop) : Rn 114 7 ls st σ Q = acR 114 (o_lda 0 8 ls st σ) ls σ Q := rn_row rfl ls st σ Q
theorem r_114_8 (ls : a_LS) (st : List Value) (σ : a_HP) (Q : Option Value → a_HP → Prop) : Rn 114 8 ls st σ Q = acR 114 (o_get 7 7 11 ls st σ) ls σ Q := rn_row rfl ls st σ Q
theorem r_114_11 (ls : a_LS) (st : List Value) (σ : a_HP) (Q : Option Value → a_HP → Prop) : Rn 114 11 ls st σ Q = acR 114 (o_get 3 5 14 ls st σ) ls σ Q := rn_row rfl ls st σ Q
theorem r_114_14 (ls : a_LS) (st : List Value) (σ : a_HP) (Q : Option Value → a_HP → Prop) : Rn 114 14 ls st σ Q = acR 114 (o_ldi 1 15 ls st σ) ls σ Q := rn_row rfl ls st σ Q
theorem r_114_15 (ls : a_LS) (st : List Value) (σ : a_HP) (Q : Option Value → a_HP → Prop) : Rn 114 15 ls st σ Q = acR 114 (o_lda 0 16 ls st σ) ls σ Q := rn_row rfl ls st σ Q
theorem r_114_16 (ls : a_LS) (st : List Value) (σ : a_HP) (Q : Option Value → a_HP → Prop) : Rn 114 16 ls st σ Q = acR 114 (o_get 7 0 19 ls st σ) ls σ Q := rn_row rfl ls st σ Q
theorem r_114_19 (ls : a_LS) (st : List Value) (σ : a_HP) (Q : Option Value → a_HP → Prop) : Rn 114 19 ls st σ Q = acR 114 (o_get 3 5 22 ls st σ) ls σ Q := rn_row rfl ls st σ Q
theorem r_114_22 (ls : a_LS) (st : List Value) (σ : a_HP) (Q : Option Value → a_HP → Prop) : Rn 114 22 ls st σ Q = acR 114 (o_ldi 1 23 ls st σ) ls σ Q := rn_row rfl ls st σ Q
theorem r_114_23 (ls : a_LS) (st : List Value) (σ : a_HP) (Q : Option Value → a_HP → Prop) : Rn 114 23 ls st σ Q = acR 114 (o_ial 24 ls st σ) ls σ Q := rn_row rfl ls st σ Q
theorem r_114_24 (ls : a_LS) (st : List Value) (σ : a_HP) (Q : Option Value → a_HP → Prop) : Rn 114 24 ls st σ Q = acR 114 (o_ias 25 ls st σ) ls σ Q := rn_row rfl ls st σ Q
theorem r_114_25 (ls : a_LS) (st : List Value) (σ : a_HP) (Q : Option Value → a_HP → Prop) : Rn 114 25 ls st σ Q = acR 114 (o_rv ls st σ) ls σ Q := rn_row rfl ls st σ Q
/-! 115: NetLaw.gain(III)I -/
theorem cl_115 (x0 : Nat) (x1 : Int32) (x2 : Int32) (x3 : Int32) (σ : a_HP) (Q : Option Value → a_HP → Prop) : Cl 115 [.ref x0, .int x1, .int x2, .int x3] σ Q = Rn 115 0 [some (.ref x0), some (.int x1), some (.int x2), some (.int x3)] [] σ Q := cl_of (Nat.le_of_ble_eq_true rfl) rfl σ Q
theorem r_115_0 (ls : a_LS) (st : List Value) (σ : a_HP) (Q : Option Value → a_HP → Prop) : Rn 115 0 ls st σ Q = acR 115 (o_lda 0 1 ls st σ) ls σ Q := rn_row rfl ls st σ Q
theorem r_115_1 (ls : a_LS) (st : List Value) (σ : a_HP) (Q : Option Value → a_HP → Prop) : Rn 115 1 ls st σ Q = acR 115 (o_get 7 7 4 ls st σ) ls σ Q := rn_row rfl ls st σ Q
theorem r_115_4 (ls : a_LS) (st : List Value) (σ : a_HP) (Q : Option Value → a_HP → Prop) : Rn 115 4 ls st σ Q = acR 115 (o_ldi 1 5 ls st σ) ls σ Q := rn_row rfl ls st σ Q
theorem r_115_5 (ls : a_LS) (st : List Value) (σ : a_HP) (Q : Option Value → a_HP → Prop) : Rn 115 5 ls st σ Q = acR 115 (o_ivv 3 25 1 8 ls st σ) ls σ Q := rn_row rfl ls st σ Q
theorem r_115_8 (ls : a_LS) (st : List Value) (σ : a_HP) (Q : Option Value → a_HP → Prop) : Rn 115 8 ls st σ Q = acR 115 (o_eq 16 11 ls st σ) ls σ Q := rn_row rfl ls st σ Q
theorem r_115_11 (ls : a_LS) (st : List Value) (σ : a_HP) (Q : Option Value → a_HP → Prop) : Rn 115 11 ls st σ Q = acR 115 (o_pi (nI 10) 13 ls st σ) ls σ Q := rn_row rfl ls st σ Q
theorem r_115_13 (ls : a_LS) (st : List Value) (σ : a_HP) (Q : Option Value → a_HP → Prop) : Rn 115 13 ls st σ Q = acR 115 (o_go 17 ls st σ) ls σ Q := rn_row rfl ls st σ Q
theorem r_115_16 (ls : a_LS) (st : List Value) (σ : a_HP) (Q : Option Value → a_HP → Prop) : Rn 115 16 ls st σ Q = acR 115 (o_pi (nI 0) 17 ls st σ) ls σ Q := rn_row rfl ls st σ Q
theorem r_115_17 (ls : a_LS) (st : List Value) (σ : a_HP) (Q : Option Value → a_HP → Prop) : Rn 115 17 ls st σ Q = acR 115 (o_ldi 2 18 ls st σ) ls σ Q := rn_row rfl ls st σ Q
theorem r_115_18 (ls : a_LS) (st : List Value) (σ : a_HP) (Q : Option Value → a_HP → Prop) : Rn 115 18 ls st σ Q = acR 115 (o_pi (nI 4) 19 ls st σ) ls σ Q := rn_row rfl ls st σ Q
theorem r_115_19 (ls : a_LS) (st : List Value) (σ : a_HP) (Q : Option Value → a_HP → Prop) : Rn 115 19 ls st σ Q = acR 115 (o_cge 26 22 ls st σ) ls σ Q := rn_row rfl ls st σ Q
theorem r_115_22 (ls : a_LS) (st : List Value) (σ : a_HP) (Q : Option Value → a_HP → Prop) : Rn 115 22 ls st σ Q = acR 115 (o_ldi 3 23 ls st σ) ls σ Q := rn_row rfl ls st σ Q
theorem r_115_23 (ls : a_LS) (st : List Value) (σ : a_HP) (Q : Option Value → a_HP → Prop) : Rn 115 23 ls st σ Q = acR 115 (o_go 27 ls st σ) ls σ Q := rn_row rfl ls st σ Q
theorem r_115_26 (ls : a_LS) (st : List Value) (σ : a_HP) (Q : Option Value → a_HP → Prop) : Rn 115 26 ls st σ Q = acR 115 (o_pi (nI 0) 27 ls st σ) ls σ Q := rn_row rfl ls st σ Q
theorem r_115_27 (ls : a_LS) (st : List Value) (σ : a_HP) (Q : Option Value → a_HP → Prop) : Rn 115 27 ls st σ Q = acR 115 (o_bi f_sub 28 ls st σ) ls σ Q := rn_row rfl ls st σ Q
theorem r_115_28 (ls : a_LS) (st : List Value) (σ : a_HP) (Q : Option Value → a_HP → Prop) : Rn 115 28 ls st σ Q = acR 115 (o_ri ls st σ) ls σ Q := rn_row rfl ls st σ Q
/-! 116: NetLaw.rests(IIII)Z -/
theorem cl_116 (x0 : Nat) (x1 : Int32) (x2 : Int32) (x3 : Int32) (x4 : Int32) (σ : a_HP) (Q : Option Value → a_HP → Prop) : Cl 116 [.ref x0, .int x1, .int x2, .int x3, .int x4] σ Q = Rn 116 0 [some (.ref x0), some (.int x1), some (.int x2), some (.int x3), some (.int x4), none, none] [] σ Q := cl_of (Nat.le_of_ble_eq_true rfl) rfl σ Q
theorem r_116_0 (ls : a_LS) (st : List Value) (σ : a_HP) (Q : Option Value → a_HP → Prop) : Rn 116 0 ls st σ Q = acR 116 (o_ldi 3 1 ls st σ) ls σ Q := rn_row rfl ls st σ Q
theorem r_116_1 (ls : a_LS) (st : List Value) (σ : a_HP) (Q : Option Value → a_HP → Prop) : Rn 116 1 ls st σ Q = acR 116 (o_pi (nI 5) 2 ls st σ) ls σ Q := rn_row rfl ls st σ Q
theorem r_116_2 (ls : a_LS) (st : List Value) (σ : a_HP) (Q : Option Value → a_HP → Prop) : Rn 116 2 ls st σ Q = acR 116 (o_bi f_mul 3 ls st σ) ls σ Q := rn_row rfl ls st σ Q
theorem r_116_3 (ls : a_LS) (st : List Value) (σ : a_HP) (Q : Option Value → a_HP → Prop) : Rn 116 3 ls st σ Q = acR 116 (o_ldi 4 5 ls st σ) ls σ Q := rn_row rfl ls st σ Q
theorem r_116_5 (ls : a_LS) (st : List Value) (σ : a_HP) (Q : Option Value → a_HP → Prop) : Rn 116 5 ls st σ Q = acR 116 (o_bi f_add 6 ls st σ) ls σ Q := rn_row rfl ls st σ Q
theorem r_116_6 (ls : a_LS) (st : List Value) (σ : a_HP) (Q : Option Value → a_HP → Prop) : Rn 116 6 ls st σ Q = acR 116 (o_sti 5 8 ls st σ) ls σ Q := rn_row rfl ls st σ Q
theorem r_116_8 (ls : a_LS) (st : List Value) (σ : a_HP) (Q : Option Value → a_HP → Prop) : Rn 116 8 ls st σ Q = acR 116 (o_pi (nI 0) 9 ls st σ) ls σ Q := rn_row rfl ls st σ Q
theorem r_116_9 (ls : a_LS) (st : List Value) (σ : a_HP) (Q : Option Value → a_HP → Prop) : Rn 116 9 ls st σ Q = acR 116 (o_sti 6 11 ls st σ) ls σ Q := rn_row rfl ls st σ Q
theorem r_116_11 (ls : a_LS) (st : List Value) (σ : a_HP) (Q : Option Value → a_HP → Prop) : Rn 116 11 ls st σ Q = acR 116 (o_ldi 6 13 ls st σ) ls σ Q := rn_row rfl ls st σ Q
theorem r_116_13 (ls : a_LS) (st : List Value) (σ : a_HP) (Q : Option Value → a_HP → Prop) : Rn 116 13 ls st σ Q = acR 116 (o_pi (nI 5) 14 ls st σ) ls σ Q := rn_row rfl ls st σ Q
theorem r_116_14 (ls : a_LS) (st : List Value) (σ : a_HP) (Q : Option Value → a_HP → Prop) : Rn 116 14 ls st σ Q = acR 116 (o_cge 90 17 ls st σ) ls σ Q := rn_row rfl ls st σ Q
theorem r_116_17 (ls : a_LS) (st : List Value) (σ : a_HP) (Q : Option Value → a_HP → Prop) : Rn 116 17 ls st σ Q = acR 116 (o_lda 0 18 ls st σ) ls σ Q := rn_row rfl ls st σ Q
theorem r_116_18 (ls : a_LS) (st : List Value) (σ : a_HP) (Q : Option Value → a_HP → Prop) : Rn 116 18 ls st σ Q = acR 116 (o_ldi 1 19 ls st σ) ls σ Q := rn_row rfl ls st σ Q
theorem r_116_19 (ls : a_LS) (st : List Value) (σ : a_HP) (Q : Option Value → a_HP → Prop) : Rn 116 19 ls st σ Q = acR 116 (o_ldi 6 21 ls st σ) ls σ Q := rn_row rfl ls st σ Q
theorem r_116_21 (ls : a_LS) (st : List Value) (σ : a_HP) (Q : Option Value → a_HP → Prop) : Rn 116 21 ls st σ Q = acR 116 (o_ivv 7 111 2 24 ls st σ) ls σ Q := rn_row rfl ls st σ Q
theorem r_116_24 (ls : a_LS) (st : List Value) (σ : a_HP) (Q : Option Value → a_HP → Prop) : Rn 116 24 ls st σ Q = acR 116 (o_eq 51 27 ls st σ) ls σ Q := rn_row rfl ls st σ Q
theorem r_116_27 (ls : a_LS) (st : List Value) (σ : a_HP) (Q : Option Value → a_HP → Prop) : Rn 116 27 ls st σ Q = acR 116 (o_lda 0 28 ls st σ) ls σ Q := rn_row rfl ls st σ Q
theorem r_116_28 (ls : a_LS) (st : List Value) (σ : a_HP) (Q : Option Value → a_HP → Prop) : Rn 116 28 ls st σ Q = acR 116 (o_get 7 10 31 ls st σ) ls σ Q := rn_row rfl ls st σ Q
theorem r_116_31 (ls : a_LS) (st : List Value) (σ : a_HP) (Q : Option Value → a_HP → Prop) : Rn 116 31 ls st σ Q = acR 116 (o_ldi 6 33 ls st σ) ls σ Q := rn_row rfl ls st σ Q
theorem r_116_33 (ls : a_LS) (st : List Value) (σ : a_HP) (Q : Option Value → a_HP → Prop) : Rn 116 33 ls st σ Q = acR 116 (o_pi (nI 5) 34 ls st σ) ls σ Q := rn_row rfl ls st σ Q
theorem r_116_34 (ls : a_LS) (st : List Value) (σ : a_HP) (Q : Option Value → a_HP → Prop) : Rn 116 34 ls st σ Q = acR 116 (o_bi f_mul 35 ls st σ) ls σ Q := rn_row rfl ls st σ Q
theorem r_116_35 (ls : a_LS) (st : List Value) (σ : a_HP) (Q : Option Value → a_HP → Prop) : Rn 116 35 ls st σ Q = acR 116 (o_ldi 4 37 ls st σ) ls σ Q := rn_row rfl ls st σ Q
theorem r_116_37 (ls : a_LS) (st : List Value) (σ : a_HP) (Q : Option Value → a_HP → Prop) : Rn 116 37 ls st σ Q = acR 116 (o_bi f_add 38 ls st σ) ls σ Q := rn_row rfl ls st σ Q
theorem r_116_38 (ls : a_LS) (st : List Value) (σ : a_HP) (Q : Option Value → a_HP → Prop) : Rn 116 38 ls st σ Q = acR 116 (o_ial 39 ls st σ) ls σ Q := rn_row rfl ls st σ Q
theorem r_116_39 (ls : a_LS) (st : List Value) (σ : a_HP) (Q : Option Value → a_HP → Prop) : Rn 116 39 ls st σ Q = acR 116 (o_lda 0 40 ls st σ) ls σ Q := rn_row rfl ls st σ Q
theorem r_116_40 (ls : a_LS) (st : List Value) (σ : a_HP) (Q : Option Value → a_HP → Prop) : Rn 116 40 ls st σ Q = acR 116 (o_get 7 10 43 ls st σ) ls σ Q := rn_row rfl ls st σ Q
theorem r_116_43 (ls : a_LS) (st : List Value) (σ : a_HP) (Q : Option Value → a_HP → Prop) : Rn 116 43 ls st σ Q = acR 116 (o_ldi 5 45 ls st σ) ls σ Q := rn_row rfl ls st σ Q
theorem r_116_45 (ls : a_LS) (st : List Value) (σ : a_HP) (Q : Option Value → a_HP → Prop) : Rn 116 45 ls st σ Q = acR 116 (o_ial 46 ls st σ) ls σ Q := rn_row rfl ls st σ Q
theorem r_116_46 (ls : a_LS) (st : List Value) (σ : a_HP) (Q : Option Value → a_HP → Prop) : Rn 116 46 ls st σ Q = acR 116 (o_cle 51 49 ls st σ) ls σ Q := rn_row rfl ls st σ Q
theorem r_116_49 (ls : a_LS) (st : List Value) (σ : a_HP) (Q : Option Value → a_HP → Prop) : Rn 116 49 ls st σ Q = acR 116 (o_pi (nI 0) 50 ls st σ) ls σ Q := rn_row rfl ls st σ Q
theorem r_116_50 (ls : a_LS) (st : List Value) (σ : a_HP) (Q : Option Value → a_HP → Prop) : Rn 116 50 ls st σ Q = acR 116 (o_rz ls st σ) ls σ Q := rn_row rfl ls st σ Q
theorem r_116_51 (ls : a_LS) (st : List Value) (σ : a_HP) (Q : Option Value → a_HP → Prop) : Rn 116 51 ls st σ Q = acR 116 (o_lda 0 52 ls st σ) ls σ Q := rn_row rfl ls st σ Q
theorem r_116_52 (ls : a_LS) (st : List Value) (σ : a_HP) (Q : Option Value → a_HP → Prop) : Rn 116 52 ls st σ Q = acR 116 (o_ldi 2 53 ls st σ) ls σ Q := rn_row rfl ls st σ Q
theorem r_116_53 (ls : a_LS) (st : List Value) (σ : a_HP) (Q : Option Value → a_HP → Prop) : Rn 116 53 ls st σ Q = acR 116 (o_ldi 6 55 ls st σ) ls σ Q := rn_row rfl ls st σ Q
theorem r_116_55 (ls : a_LS) (st : List Value) (σ : a_HP) (Q : Option Value → a_HP → Prop) : Rn 116 55 ls st σ Q = acR 116 (o_ivv 7 111 2 58 ls st σ) ls σ Q := rn_row rfl ls st σ Q
theorem r_116_58 (ls : a_LS) (st : List Value) (σ : a_HP) (Q : Option Value → a_HP → Prop) : Rn 116 58 ls st σ Q = acR 116 (o_eq 84 61 ls st σ) ls σ Q := rn_row rfl ls st σ Q
theorem r_116_61 (ls : a_LS) (st : List Value) (σ : a_HP) (Q : Option Value → a_HP → Prop) : Rn 116 61 ls st σ Q = acR 116 (o_lda 0 62 ls st σ) ls σ Q := rn_row rfl ls st σ Q
theorem r_116_62 (ls : a_LS) (st : List Value) (σ : a_HP) (Q : Option Value → a_HP → Prop) : Rn 116 62 ls st σ Q = acR 116 (o_get 7 11 65 ls st σ) ls σ Q := rn_row rfl ls st σ Q
theorem r_116_65 (ls : a_LS) (st : List Value) (σ : a_HP) (Q : Option Value → a_HP → Prop) : Rn 116 65 ls st σ Q = acR 116 (o_ldi 3 66 ls st σ) ls σ Q := rn_row rfl ls st σ Q
theorem r_116_66 (ls : a_LS) (st : List Value) (σ : a_HP) (Q : Option Value → a_HP → Prop) : Rn 116 66 ls st σ Q = acR 116 (o_pi (nI 5) 67 ls st σ) ls σ Q := rn_row rfl ls st σ Q
theorem r_116_67 (ls : a_LS) (st : List Value) (σ : a_HP) (Q : Option Value → a_HP → Prop) : Rn 116 67 ls st σ Q = acR 116 (o_bi f_mul 68 ls st σ) ls σ Q := rn_row rfl ls st σ Q
theorem r_116_68 (ls : a_LS) (st : List Value) (σ : a_HP) (Q : Option Value → a_HP → Prop) : Rn 116 68 ls st σ Q = acR 116 (o_ldi 6 70 ls st σ) ls σ Q := rn_row rfl ls st σ Q
theorem r_116_70 (ls : a_LS) (st : List Value) (σ : a_HP) (Q : Option Value → a_HP → Prop) : Rn 116 70 ls st σ Q = acR 116 (o_bi f_add 71 ls st σ) ls σ Q := rn_row rfl ls st σ Q
theorem r_116_71 (ls : a_LS) (st : List Value) (σ : a_HP) (Q : Option Value → a_HP → Prop) : Rn 116 71 ls st σ Q = acR 116 (o_ial 72 ls st σ) ls σ Q := rn_row rfl ls st σ Q
theorem r_116_72 (ls : a_LS) (st : List Value) (σ : a_HP) (Q : Option Value → a_HP → Prop) : Rn 116 72 ls st σ Q = acR 116 (o_lda 0 73 ls st σ) ls σ Q := rn_row rfl ls st σ Q
theorem r_116_73 (ls : a_LS) (st : List Value) (σ : a_HP) (Q : Option Value → a_HP → Prop) : Rn 116 73 ls st σ Q = acR 116 (o_get 7 11 76 ls st σ) ls σ Q := rn_row rfl ls st σ Q
theorem r_116_76 (ls : a_LS) (st : List Value) (σ : a_HP) (Q : Option Value → a_HP → Prop) : Rn 116 76 ls st σ Q = acR 116 (o_ldi 5 78 ls st σ) ls σ Q := rn_row rfl ls st σ Q
theorem r_116_78 (ls : a_LS) (st : List Value) (σ : a_HP) (Q : Option Value → a_HP → Prop) : Rn 116 78 ls st σ Q = acR 116 (o_ial 79 ls st σ) ls σ Q := rn_row rfl ls st σ Q
theorem r_116_79 (ls : a_LS) (st : List Value) (σ : a_HP) (Q : Option Value → a_HP → Prop) : Rn 116 79 ls st σ Q = acR 116 (o_cle 84 82 ls st σ) ls σ Q := rn_row rfl ls st σ Q
theorem r_116_82 (ls : a_LS) (st : List Value) (σ : a_HP) (Q : Option Value → a_HP → Prop) : Rn 116 82 ls st σ Q = acR 116 (o_pi (nI 0) 83 ls st σ) ls σ Q := rn_row rfl ls st σ Q
theorem r_116_83 (ls : a_LS) (st : List Value) (σ : a_HP) (Q : Option Value → a_HP → Prop) : Rn 116 83 ls st σ Q = acR 116 (o_rz ls st σ) ls σ Q := rn_row rfl ls st σ Q
theorem r_116_84 (ls : a_LS) (st : List Value) (σ : a_HP) (Q : Option Value → a_HP → Prop) : Rn 116 84 ls st σ Q = acR 116 (o_inc 6 (nI 1) 87 ls st σ) ls σ Q := rn_row rfl ls st σ Q
theorem r_116_87 (ls : a_LS) (st : List Value) (σ : a_HP) (Q : Option Value → a_HP → Prop) : Rn 116 87 ls st σ Q = acR 116 (o_go 11 ls st σ) ls σ Q := rn_row rfl ls st σ Q
theorem r_116_90 (ls : a_LS) (st : List Value) (σ : a_HP) (Q : Option Value → a_HP → Prop) : Rn 116 90 ls st σ Q = acR 116 (o_pi (nI 1) 91 ls st σ) ls σ Q := rn_row rfl ls st σ Q
theorem r_116_91 (ls : a_LS) (st : List Value) (σ : a_HP) (Q : Option Value → a_HP → Prop) : Rn 116 91 ls st σ Q = acR 116 (o_rz ls st σ) ls σ Q := rn_row rfl ls st σ Q
/-! 117: NetLaw.listLoose(I)I -/
theorem cl_117 (x0 : Nat) (x1 : Int32) (σ : a_HP) (Q : Option Value → a_HP → Prop) : Cl 117 [.ref x0, .int x1] σ Q = Rn 117 0 [some (.ref x0), some (.int x1), none, none, none] [] σ Q := cl_of (Nat.le_of_ble_eq_true rfl) rfl σ Q
theorem r_117_0 (ls : a_LS) (st : List Value) (σ : a_HP) (Q : Option Value → a_HP → Prop) : Rn 117 0 ls st σ Q = acR 117 (o_pi (nI 0) 1 ls st σ) ls σ Q := rn_row rfl ls st σ Q
theorem r_117_1 (ls : a_LS) (st : List Value) (σ : a_HP) (Q : Option Value → a_HP → Prop) : Rn 117 1 ls st σ Q = acR 117 (o_sti 2 2 ls st σ) ls σ Q := rn_row rfl ls st σ Q
theorem r_117_2 (ls : a_LS) (st : List Value) (σ : a_HP) (Q : Option Value → a_HP → Prop) : Rn 117 2 ls st σ Q = acR 117 (o_pi (nI 0) 3 ls st σ) ls σ Q := rn_row rfl ls st σ Q
theorem r_117_3 (ls : a_LS) (st : List Value) (σ : a_HP) (Q : Option Value → a_HP → Prop) : Rn 117 3 ls st σ Q = acR 117 (o_sti 3 4 ls st σ) ls σ Q := rn_row rfl ls st σ Q
theorem r_117_4 (ls : a_LS) (st : List Value) (σ : a_HP) (Q : Option Value → a_HP → Prop) : Rn 117 4 ls st σ Q = acR 117 (o_ldi 3 5 ls st σ) ls σ Q := rn_row rfl ls st σ Q
theorem r_117_5 (ls : a_LS) (st : List Value) (σ : a_HP) (Q : Option Value → a_HP → Prop) : Rn 117 5 ls st σ Q = acR 117 (o_pi (nI 16) 7 ls st σ) ls σ Q := rn_row rfl ls st σ Q
theorem r_117_7 (ls : a_LS) (st : List Value) (σ : a_HP) (Q : Option Value → a_HP → Prop) : Rn 117 7 ls st σ Q = acR 117 (o_cge 62 10 ls st σ) ls σ Q := rn_row rfl ls st σ Q
theorem r_117_10 (ls : a_LS) (st : List Value) (σ : a_HP) (Q : Option Value → a_HP → Prop) : Rn 117 10 ls st σ Q = acR 117 (o_ldi 3 11 ls st σ) ls σ Q := rn_row rfl ls st σ Q
theorem r_117_11 (ls : a_LS) (st : List Value) (σ : a_HP) (Q : Option Value → a_HP → Prop) : Rn 117 11 ls st σ Q = acR 117 (o_pi (nI 4) 12 ls st σ) ls σ Q := rn_row rfl ls st σ Q
theorem r_117_12 (ls : a_LS) (st : List Value) (σ : a_HP) (Q : Option Value → a_HP → Prop) : Rn 117 12 ls st σ Q = acR 117 (o_bd f_rem 13 ls st σ) ls σ Q := rn_row rfl ls st σ Q
theorem r_117_13 (ls : a_LS) (st : List Value) (σ : a_HP) (Q : Option Value → a_HP → Prop) : Rn 117 13 ls st σ Q = acR 117 (o_le 30 16 ls st σ) ls σ Q := rn_row rfl ls st σ Q
theorem r_117_16 (ls : a_LS) (st : List Value) (σ : a_HP) (Q : Option Value → a_HP → Prop) : Rn 117 16 ls st σ Q = acR 117 (o_ldi 1 17 ls st σ) ls σ Q := rn_row rfl ls st σ Q
theorem r_117_17 (ls : a_LS) (st : List Value) (σ : a_HP) (Q : Option Value → a_HP → Prop) : Rn 117 17 ls st σ Q = acR 117 (o_ldi 3 18 ls st σ) ls σ Q := rn_row rfl ls st σ Q
theorem r_117_18 (ls : a_LS) (st : List Value) (σ : a_HP) (Q : Option Value → a_HP → Prop) : Rn 117 18 ls st σ Q = acR 117 (o_pi (nI 1) 19 ls st σ) ls σ Q := rn_row rfl ls st σ Q
theorem r_117_19 (ls : a_LS) (st : List Value) (σ : a_HP) (Q : Option Value → a_HP → Prop) : Rn 117 19 ls st σ Q = acR 117 (o_bi f_sub 20 ls st σ) ls σ Q := rn_row rfl ls st σ Q
theorem r_117_20 (ls : a_LS) (st : List Value) (σ : a_HP) (Q : Option Value → a_HP → Prop) : Rn 117 20 ls st σ Q = acR 117 (o_ivs 104 2 23 ls st σ) ls σ Q := rn_row rfl ls st σ Q
theorem r_117_23 (ls : a_LS) (st : List Value) (σ : a_HP) (Q : Option Value → a_HP → Prop) : Rn 117 23 ls st σ Q = acR 117 (o_eq 30 26 ls st σ) ls σ Q := rn_row rfl ls st σ Q
theorem r_117_26 (ls : a_LS) (st : List Value) (σ : a_HP) (Q : Option Value → a_HP → Prop) : Rn 117 26 ls st σ Q = acR 117 (o_pi (nI 1) 27 ls st σ) ls σ Q := rn_row rfl ls st σ Q
theorem r_117_27 (ls : a_LS) (st : List Value) (σ : a_HP) (Q : Option Value → a_HP → Prop) : Rn 117 27 ls st σ Q = acR 117 (o_go 31 ls st σ) ls σ Q := rn_row rfl ls st σ Q
theorem r_117_30 (ls : a_LS) (st : List Value) (σ : a_HP) (Q : Option Value → a_HP → Prop) : Rn 117 30 ls st σ Q = acR 117 (o_pi (nI 0) 31 ls st σ) ls σ Q := rn_row rfl ls st σ Q
theorem r_117_31 (ls : a_LS) (st : List Value) (σ : a_HP) (Q : Option Value → a_HP → Prop) : Rn 117 31 ls st σ Q = acR 117 (o_sti 4 33 ls st σ) ls σ Q := rn_row rfl ls st σ Q
theorem r_117_33 (ls : a_LS) (st : List Value) (σ : a_HP) (Q : Option Value → a_HP → Prop) : Rn 117 33 ls st σ Q = acR 117 (o_ldi 1 34 ls st σ) ls σ Q := rn_row rfl ls st σ Q
theorem r_117_34 (ls : a_LS) (st : List Value) (σ : a_HP) (Q : Option Value → a_HP → Prop) : Rn 117 34 ls st σ Q = acR 117 (o_ldi 3 35 ls st σ) ls σ Q := rn_row rfl ls st σ Q
theorem r_117_35 (ls : a_LS) (st : List Value) (σ : a_HP) (Q : Option Value → a_HP → Prop) : Rn 117 35 ls st σ Q = acR 117 (o_ivs 104 2 38 ls st σ) ls σ Q := rn_row rfl ls st σ Q
theorem r_117_38 (ls : a_LS) (st : List Value) (σ : a_HP) (Q : Option Value → a_HP → Prop) : Rn 117 38 ls st σ Q = acR 117 (o_ne 46 41 ls st σ) ls σ Q := rn_row rfl ls st σ Q
theorem r_117_41 (ls : a_LS) (st : List Value) (σ : a_HP) (Q : Option Value → a_HP → Prop) : Rn 117 41 ls st σ Q = acR 117 (o_ldi 4 43 ls st σ) ls σ Q := rn_row rfl ls st σ Q
theorem r_117_43 (ls : a_LS) (st : List Value) (σ : a_HP) (Q : Option Value → a_HP → Prop) : Rn 117 43 ls st σ Q = acR 117 (o_eq 56 46 ls st σ) ls σ Q := rn_row rfl ls st σ Q
theorem r_117_46 (ls : a_LS) (st : List Value) (σ : a_HP) (Q : Option Value → a_HP → Prop) : Rn 117 46 ls st σ Q = acR 117 (o_lda 0 47 ls st σ) ls σ Q := rn_row rfl ls st σ Q
theorem r_117_47 (ls : a_LS) (st : List Value) (σ : a_HP) (Q : Option Value → a_HP → Prop) : Rn 117 47 ls st σ Q = acR 117 (o_get 7 9 50 ls st σ) ls σ Q := rn_row rfl ls st σ Q
theorem r_117_50 (ls : a_LS) (st : List Value) (σ : a_HP) (Q : Option Value → a_HP → Prop) : Rn 117 50 ls st σ Q = acR 117 (o_ldi 2 51 ls st σ) ls σ Q := rn_row rfl ls st σ Q
theorem r_117_51 (ls : a_LS) (st : List Value) (σ : a_HP) (Q : Option Value → a_HP → Prop) : Rn 117 51 ls st σ Q = acR 117 (o_ldi 3 52 ls st σ) ls σ Q := rn_row rfl ls st σ Q
theorem r_117_52 (ls : a_LS) (st : List Value) (σ : a_HP) (Q : Option Value → a_HP → Prop) : Rn 117 52 ls st σ Q = acR 117 (o_ias 53 ls st σ) ls σ Q := rn_row rfl ls st σ Q
theorem r_117_53 (ls : a_LS) (st : List Value) (σ : a_HP) (Q : Option Value → a_HP → Prop) : Rn 117 53 ls st σ Q = acR 117 (o_inc 2 (nI 1) 56 ls st σ) ls σ Q := rn_row rfl ls st σ Q
theorem r_117_56 (ls : a_LS) (st : List Value) (σ : a_HP) (Q : Option Value → a_HP → Prop) : Rn 117 56 ls st σ Q = acR 117 (o_inc 3 (nI 1) 59 ls st σ) ls σ Q := rn_row rfl ls st σ Q
theorem r_117_59 (ls : a_LS) (st : List Value) (σ : a_HP) (Q : Option Value → a_HP → Prop) : Rn 117 59 ls st σ Q = acR 117 (o_go 4 ls st σ) ls σ Q := rn_row rfl ls st σ Q
theorem r_117_62 (ls : a_LS) (st : List Value) (σ : a_HP) (Q : Option Value → a_HP → Prop) : Rn 117 62 ls st σ Q = acR 117 (o_ldi 2 63 ls st σ) ls σ Q := rn_row rfl ls st σ Q
theorem r_117_63 (ls : a_LS) (st : List Value) (σ : a_HP) (Q : Option Value → a_HP → Prop) : Rn 117 63 ls st σ Q = acR 117 (o_ri ls st σ) ls σ Q := rn_row rfl ls st σ Q
/-! 118: NetLaw.looseBits(II)I -/
theorem cl_118 (x0 : Nat) (x1 : Int32) (x2 : Int32) (σ : a_HP) (Q : Option Value → a_HP → Prop) : Cl 118 [.ref x0, .int x1, .int x2] σ Q = Rn 118 0 [some (.ref x0), some (.int x1), some (.int x2), none, none] [] σ Q := cl_of (Nat.le_of_ble_eq_true rfl) rfl σ Q
theorem r_118_0 (ls : a_LS) (st : List Value) (σ : a_HP) (Q : Option Value → a_HP → Prop) : Rn 118 0 ls st σ Q = acR 118 (o_pi (nI 0) 1 ls st σ) ls σ Q := rn_row rfl ls st σ Q
theorem r_118_1 (ls : a_LS) (st : List Value) (σ : a_HP) (Q : Option Value → a_HP → Prop) : Rn 118 1 ls st σ Q = acR 118 (o_sti 3 2 ls st σ) ls σ Q := rn_row rfl ls st σ Q
theorem r_118_2 (ls : a_LS) (st : List Value) (σ : a_HP) (Q : Option Value → a_HP → Prop) : Rn 118 2 ls st σ Q = acR 118 (o_pi (nI 0) 3 ls st σ) ls σ Q := rn_row rfl ls st σ Q
theorem r_118_3 (ls : a_LS) (st : List Value) (σ : a_HP) (Q : Option Value → a_HP → Prop) : Rn 118 3 ls st σ Q = acR 118 (o_sti 4 5 ls st σ) ls σ Q := rn_row rfl ls st σ Q
theorem r_118_5 (ls : a_LS) (st : List Value) (σ : a_HP) (Q : Option Value → a_HP → Prop) : Rn 118 5 ls st σ Q = acR 118 (o_ldi 4 7 ls st σ) ls σ Q := rn_row rfl ls st σ Q
theorem r_118_7 (ls : a_LS) (st : List Value) (σ : a_HP) (Q : Option Value → a_HP → Prop) : Rn 118 7 ls st σ Q = acR 118 (o_ldi 2 8 ls st σ) ls σ Q := rn_row rfl ls st σ Q
theorem r_118_8 (ls : a_LS) (st : List Value) (σ : a_HP) (Q : Option Value → a_HP → Prop) : Rn 118 8 ls st σ Q = acR 118 (o_cge 38 11 ls st σ) ls σ Q := rn_row rfl ls st σ Q
theorem r_118_11 (ls : a_LS) (st : List Value) (σ : a_HP) (Q : Option Value → a_HP → Prop) : Rn 118 11 ls st σ Q = acR 118 (o_ldi 1 12 ls st σ) ls σ Q := rn_row rfl ls st σ Q
theorem r_118_12 (ls : a_LS) (st : List Value) (σ : a_HP) (Q : Option Value → a_HP → Prop) : Rn 118 12 ls st σ Q = acR 118 (o_ldi 4 14 ls st σ) ls σ Q := rn_row rfl ls st σ Q
theorem r_118_14 (ls : a_LS) (st : List Value) (σ : a_HP) (Q : Option Value → a_HP → Prop) : Rn 118 14 ls st σ Q = acR 118 (o_bi f_shr 15 ls st σ) ls σ Q := rn_row rfl ls st σ Q
theorem r_118_15 (ls : a_LS) (st : List Value) (σ : a_HP) (Q : Option Value → a_HP → Prop) : Rn 118 15 ls st σ Q = acR 118 (o_pi (nI 1) 16 ls st σ) ls σ Q := rn_row rfl ls st σ Q
theorem r_118_16 (ls : a_LS) (st : List Value) (σ : a_HP) (Q : Option Value → a_HP → Prop) : Rn 118 16 ls st σ Q = acR 118 (o_bi f_and 17 ls st σ) ls σ Q := rn_row rfl ls st σ Q
theorem r_118_17 (ls : a_LS) (st : List Value) (σ : a_HP) (Q : Option Value → a_HP → Prop) : Rn 118 17 ls st σ Q = acR 118 (o_eq 32 20 ls st σ) ls σ Q := rn_row rfl ls st σ Q
theorem r_118_20 (ls : a_LS) (st : List Value) (σ : a_HP) (Q : Option Value → a_HP → Prop) : Rn 118 20 ls st σ Q = acR 118 (o_ldi 3 21 ls st σ) ls σ Q := rn_row rfl ls st σ Q
theorem r_118_21 (ls : a_LS) (st : List Value) (σ : a_HP) (Q : Option Value → a_HP → Prop) : Rn 118 21 ls st σ Q = acR 118 (o_pi (nI 1) 22 ls st σ) ls σ Q := rn_row rfl ls st σ Q
theorem r_118_22 (ls : a_LS) (st : List Value) (σ : a_HP) (Q : Option Value → a_HP → Prop) : Rn 118 22 ls st σ Q = acR 118 (o_lda 0 23 ls st σ) ls σ Q := rn_row rfl ls st σ Q
theorem r_118_23 (ls : a_LS) (st : List Value) (σ : a_HP) (Q : Option Value → a_HP → Prop) : Rn 118 23 ls st σ Q = acR 118 (o_get 7 9 26 ls st σ) ls σ Q := rn_row rfl ls st σ Q
theorem r_118_26 (ls : a_LS) (st : List Value) (σ : a_HP) (Q : Option Value → a_HP → Prop) : Rn 118 26 ls st σ Q = acR 118 (o_ldi 4 28 ls st σ) ls σ Q := rn_row rfl ls st σ Q
theorem r_118_28 (ls : a_LS) (st : List Value) (σ : a_HP) (Q : Option Value → a_HP → Prop) : Rn 118 28 ls st σ Q = acR 118 (o_ial 29 ls st σ) ls σ Q := rn_row rfl ls st σ Q
theorem r_118_29 (ls : a_LS) (st : List Value) (σ : a_HP) (Q : Option Value → a_HP → Prop) : Rn 118 29 ls st σ Q = acR 118 (o_bi f_shl 30 ls st σ) ls σ Q := rn_row rfl ls st σ Q
theorem r_118_30 (ls : a_LS) (st : List Value) (σ : a_HP) (Q : Option Value → a_HP → Prop) : Rn 118 30 ls st σ Q = acR 118 (o_bi f_or 31 ls st σ) ls σ Q := rn_row rfl ls st σ Q
theorem r_118_31 (ls : a_LS) (st : List Value) (σ : a_HP) (Q : Option Value → a_HP → Prop) : Rn 118 31 ls st σ Q = acR 118 (o_sti 3 32 ls st σ) ls σ Q := rn_row rfl ls st σ Q
theorem r_118_32 (ls : a_LS) (st : List Value) (σ : a_HP) (Q : Option Value → a_HP → Prop) : Rn 118 32 ls st σ Q = acR 118 (o_inc 4 (nI 1) 35 ls st σ) ls σ Q := rn_row rfl ls st σ Q
theorem r_118_35 (ls : a_LS) (st : List Value) (σ : a_HP) (Q : Option Value → a_HP → Prop) : Rn 118 35 ls st σ Q = acR 118 (o_go 5 ls st σ) ls σ Q := rn_row rfl ls st σ Q
theorem r_118_38 (ls : a_LS) (st : List Value) (σ : a_HP) (Q : Option Value → a_HP → Prop) : Rn 118 38 ls st σ Q = acR 118 (o_ldi 3 39 ls st σ) ls σ Q := rn_row rfl ls st σ Q
theorem r_118_39 (ls : a_LS) (st : List Value) (σ : a_HP) (Q : Option Value → a_HP → Prop) : Rn 118 39 ls st σ Q = acR 118 (o_ri ls st σ) ls σ Q := rn_row rfl ls st σ Q
/-! 119: NetLaw.slipWeight(III)J -/
theorem cl_119 (x0 : Int32) (x1 : Int32) (x2 : Int32) (σ : a_HP) (Q : Option Value → a_HP → Prop) : Cl 119 [.int x0, .int x1, .int x2] σ Q = Rn 119 0 [some (.int x0), some (.int x1), some (.int x2), none, none, none] [] σ Q := cl_of (Nat.le_of_ble_eq_true rfl) rfl σ Q
theorem r_119_0 (ls : a_LS) (st : List Value) (σ : a_HP) (Q : Option Value → a_HP → Prop) : Rn 119 0 ls st σ Q = acR 119 (o_pl (lN 1) 1 ls st σ) ls σ Q := rn_row rfl ls st σ Q
theorem r_119_1 (ls : a_LS) (st : List Value) (σ : a_HP) (Q : Option Value → a_HP → Prop) : Rn 119 1 ls st σ Q = acR 119 (o_stl 3 2 ls st σ) ls σ Q := rn_row rfl ls st σ Q
theorem r_119_2 (ls : a_LS) (st : List Value) (σ : a_HP) (Q : Option Value → a_HP → Prop) : Rn 119 2 ls st σ Q = acR 119 (o_pi (nI 0) 3 ls st σ) ls σ Q := rn_row rfl ls st σ Q
theorem r_119_3 (ls : a_LS) (st : List Value) (σ : a_HP) (Q : Option Value → a_HP → Prop) : Rn 119 3 ls st σ Q = acR 119 (o_sti 5 5 ls st σ) ls σ Q := rn_row rfl ls st σ Q
theorem r_119_5 (ls : a_LS) (st : List Value) (σ : a_HP) (Q : Option Value → a_HP → Prop) : Rn 119 5 ls st σ Q = acR 119 (o_ldi 5 7 ls st σ) ls σ Q := rn_row rfl ls st σ Q
theorem r_119_7 (ls : a_LS) (st : List Value) (σ : a_HP) (Q : Option Value → a_HP → Prop) : Rn 119 7 ls st σ Q = acR 119 (o_ldi 1 8 ls st σ) ls σ Q := rn_row rfl ls st σ Q
theorem r_119_8 (ls : a_LS) (st : List Value) (σ : a_HP) (Q : Option Value → a_HP → Prop) : Rn 119 8 ls st σ Q = acR 119 (o_cge 39 11 ls st σ) ls σ Q := rn_row rfl ls st σ Q
theorem r_119_11 (ls : a_LS) (st : List Value) (σ : a_HP) (Q : Option Value → a_HP → Prop) : Rn 119 11 ls st σ Q = acR 119 (o_ldl 3 12 ls st σ) ls σ Q := rn_row rfl ls st σ Q
theorem r_119_12 (ls : a_LS) (st : List Value) (σ : a_HP) (Q : Option Value → a_HP → Prop) : Rn 119 12 ls st σ Q = acR 119 (o_ldi 0 13 ls st σ) ls σ Q := rn_row rfl ls st σ Q
theorem r_119_13 (ls : a_LS) (st : List Value) (σ : a_HP) (Q : Option Value → a_HP → Prop) : Rn 119 13 ls st σ Q = acR 119 (o_ldi 5 15 ls st σ) ls σ Q := rn_row rfl ls st σ Q
theorem r_119_15 (ls : a_LS) (st : List Value) (σ : a_HP) (Q : Option Value → a_HP → Prop) : Rn 119 15 ls st σ Q = acR 119 (o_bi f_shr 16 ls st σ) ls σ Q := rn_row rfl ls st σ Q
theorem r_119_16 (ls : a_LS) (st : List Value) (σ : a_HP) (Q : Option Value → a_HP → Prop) : Rn 119 16 ls st σ Q = acR 119 (o_pi (nI 1) 17 ls st σ) ls σ Q := rn_row rfl ls st σ Q
theorem r_119_17 (ls : a_LS) (st : List Value) (σ : a_HP) (Q : Option Value → a_HP → Prop) : Rn 119 17 ls st σ Q = acR 119 (o_bi f_and 18 ls st σ) ls σ Q := rn_row rfl ls st σ Q
theorem r_119_18 (ls : a_LS) (st : List Value) (σ : a_HP) (Q : Option Value → a_HP → Prop) : Rn 119 18 ls st σ Q = acR 119 (o_eq 26 21 ls st σ) ls σ Q := rn_row rfl ls st σ Q
theorem r_119_21 (ls : a_LS) (st : List Value) (σ : a_HP) (Q : Option Value → a_HP → Prop) : Rn 119 21 ls st σ Q = acR 119 (o_ldi 2 22 ls st σ) ls σ Q := rn_row rfl ls st σ Q
theorem r_119_22 (ls : a_LS) (st : List Value) (σ : a_HP) (Q : Option Value → a_HP → Prop) : Rn 119 22 ls st σ Q = acR 119 (o_i2l 23 ls st σ) ls σ Q := rn_row rfl ls st σ Q
theorem r_119_23 (ls : a_LS) (st : List Value) (σ : a_HP) (Q : Option Value → a_HP → Prop) : Rn 119 23 ls st σ Q = acR 119 (o_go 31 ls st σ) ls σ Q := rn_row rfl ls st σ Q
theorem r_119_26 (ls : a_LS) (st : List Value) (σ : a_HP) (Q : Option Value → a_HP → Prop) : Rn 119 26 ls st σ Q = acR 119 (o_pi (nI 10) 28 ls st σ) ls σ Q := rn_row rfl ls st σ Q
theorem r_119_28 (ls : a_LS) (st : List Value) (σ : a_HP) (Q : Option Value → a_HP → Prop) : Rn 119 28 ls st σ Q = acR 119 (o_ldi 2 29 ls st σ) ls σ Q := rn_row rfl ls st σ Q
theorem r_119_29 (ls : a_LS) (st : List Value) (σ : a_HP) (Q : Option Value → a_HP → Prop) : Rn 119 29 ls st σ Q = acR 119 (o_bi f_sub 30 ls st σ) ls σ Q := rn_row rfl ls st σ Q
theorem r_119_30 (ls : a_LS) (st : List Value) (σ : a_HP) (Q : Option Value → a_HP → Prop) : Rn 119 30 ls st σ Q = acR 119 (o_i2l 31 ls st σ) ls σ Q := rn_row rfl ls st σ Q
theorem r_119_31 (ls : a_LS) (st : List Value) (σ : a_HP) (Q : Option Value → a_HP → Prop) : Rn 119 31 ls st σ Q = acR 119 (o_bl g_mul 32 ls st σ) ls σ Q := rn_row rfl ls st σ Q
theorem r_119_32 (ls : a_LS) (st : List Value) (σ : a_HP) (Q : Option Value → a_HP → Prop) : Rn 119 32 ls st σ Q = acR 119 (o_stl 3 33 ls st σ) ls σ Q := rn_row rfl ls st σ Q
theorem r_119_33 (ls : a_LS) (st : List Value) (σ : a_HP) (Q : Option Value → a_HP → Prop) : Rn 119 33 ls st σ Q = acR 119 (o_inc 5 (nI 1) 36 ls st σ) ls σ Q := rn_row rfl ls st σ Q
theorem r_119_36 (ls : a_LS) (st : List Value) (σ : a_HP) (Q : Option Value → a_HP → Prop) : Rn 119 36 ls st σ Q = acR 119 (o_go 5 ls st σ) ls σ Q := rn_row rfl ls st σ Q
theorem r_119_39 (ls : a_LS) (st : List Value) (σ : a_HP) (Q : Option Value → a_HP → Prop) : Rn 119 39 ls st σ Q = acR 119 (o_ldl 3 40 ls st σ) ls σ Q := rn_row rfl ls st σ Q
theorem r_119_40 (ls : a_LS) (st : List Value) (σ : a_HP) (Q : Option Value → a_HP → Prop) : Rn 119 40 ls st σ Q = acR 119 (o_rl ls st σ) ls σ Q := rn_row rfl ls st σ Q
/-! 120: NetLaw.kindHolds(IIII)I -/
theorem cl_120 (x0 : Int32) (x1 : Int32) (x2 : Int32) (x3 : Int32) (σ : a_HP) (Q : Option Value → a_HP → Prop) : Cl 120 [.int x0, .int x1, .int x2, .int x3] σ Q = Rn 120 0 [some (.int x0), some (.int x1), some (.int x2), some (.int x3), none, none, none] [] σ Q := cl_of (Nat.le_of_ble_eq_true rfl) rfl σ Q
theorem r_120_0 (ls : a_LS) (st : List Value) (σ : a_HP) (Q : Option Value → a_HP → Prop) : Rn 120 0 ls st σ Q = acR 120 (o_ldi 1 1 ls st σ) ls σ Q := rn_row rfl ls st σ Q
theorem r_120_1 (ls : a_LS) (st : List Value) (σ : a_HP) (Q : Option Value → a_HP → Prop) : Rn 120 1 ls st σ Q = acR 120 (o_gt 6 4 ls st σ) ls σ Q := rn_row rfl ls st σ Q
theorem r_120_4 (ls : a_LS) (st : List Value) (σ : a_HP) (Q : Option Value → a_HP → Prop) : Rn 120 4 ls st σ Q = acR 120 (o_pi (nI 0) 5 ls st σ) ls σ Q := rn_row rfl ls st σ Q
theorem r_120_5 (ls : a_LS) (st : List Value) (σ : a_HP) (Q : Option Value → a_HP → Prop) : Rn 120 5 ls st σ Q = acR 120 (o_ri ls st σ) ls σ Q := rn_row rfl ls st σ Q
theorem r_120_6 (ls : a_LS) (st : List Value) (σ : a_HP) (Q : Option Value → a_HP → Prop) : Rn 120 6 ls st σ Q = acR 120 (o_ldi 1 7 ls st σ) ls σ Q := rn_row rfl ls st σ Q
theorem r_120_7 (ls : a_LS) (st : List Value) (σ : a_HP) (Q : Option Value → a_HP → Prop) : Rn 120 7 ls st σ Q = acR 120 (o_ldi 2 8 ls st σ) ls σ Q := rn_row rfl ls st σ Q
theorem r_120_8 (ls : a_LS) (st : List Value) (σ : a_HP) (Q : Option Value → a_HP → Prop) : Rn 120 8 ls st σ Q = acR 120 (o_bi f_sub 9 ls st σ) ls σ Q := rn_row rfl ls st σ Q
theorem r_120_9 (ls : a_LS) (st : List Value) (σ : a_HP) (Q : Option Value → a_HP → Prop) : Rn 120 9 ls st σ Q = acR 120 (o_sti 4 11 ls st σ) ls σ Q := rn_row rfl ls st σ Q
theorem r_120_11 (ls : a_LS) (st : List Value) (σ : a_HP) (Q : Option Value → a_HP → Prop) : Rn 120 11 ls st σ Q = acR 120 (o_ldi 1 12 ls st σ) ls σ Q := rn_row rfl ls st σ Q
theorem r_120_12 (ls : a_LS) (st : List Value) (σ : a_HP) (Q : Option Value → a_HP → Prop) : Rn 120 12 ls st σ Q = acR 120 (o_sti 5 14 ls st σ) ls σ Q := rn_row rfl ls st σ Q
theorem r_120_14 (ls : a_LS) (st : List Value) (σ : a_HP) (Q : Option Value → a_HP → Prop) : Rn 120 14 ls st σ Q = acR 120 (o_pi (nI 2) 15 ls st σ) ls σ Q := rn_row rfl ls st σ Q
theorem r_120_15 (ls : a_LS) (st : List Value) (σ : a_HP) (Q : Option Value → a_HP → Prop) : Rn 120 15 ls st σ Q = acR 120 (o_ldi 4 17 ls st σ) ls σ Q := rn_row rfl ls st σ Q
theorem r_120_17 (ls : a_LS) (st : List Value) (σ : a_HP) (Q : Option Value → a_HP → Prop) : Rn 120 17 ls st σ Q = acR 120 (o_bi f_mul 18 ls st σ) ls σ Q := rn_row rfl ls st σ Q
theorem r_120_18 (ls : a_LS) (st : List Value) (σ : a_HP) (Q : Option Value → a_HP → Prop) : Rn 120 18 ls st σ Q = acR 120 (o_sti 6 20 ls st σ) ls σ Q := rn_row rfl ls st σ Q
theorem r_120_20 (ls : a_LS) (st : List Value) (σ : a_HP) (Q : Option Value → a_HP → Prop) : Rn 120 20 ls st σ Q = acR 120 (o_ldi 0 21 ls st σ) ls σ Q := rn_row rfl ls st σ Q
theorem r_120_21 (ls : a_LS) (st : List Value) (σ : a_HP) (Q : Option Value → a_HP → Prop) : Rn 120 21 ls st σ Q = acR 120 (o_sw [((nI 1), 56), ((nI 2), 59), ((nI 3), 62), ((nI 4), 69), ((nI 5), 82)] 89 ls st σ) ls σ Q := rn_row rfl ls st σ Q
theorem r_120_56 (ls : a_LS) (st : List Value) (σ : a_HP) (Q : Option Value → a_HP → Prop) : Rn 120 56 ls st σ Q = acR 120 (o_ldi 5 58 ls st σ) ls σ Q := rn_row rfl ls st σ Q
theorem r_120_58 (ls : a_LS) (st : List Value) (σ : a_HP) (Q : Option Value → a_HP → Prop) : Rn 120 58 ls st σ Q = acR 120 (o_ri ls st σ) ls σ Q := rn_row rfl ls st σ Q
theorem r_120_59 (ls : a_LS) (st : List Value) (σ : a_HP) (Q : Option Value → a_HP → Prop) : Rn 120 59 ls st σ Q = acR 120 (o_ldi 6 61 ls st σ) ls σ Q := rn_row rfl ls st σ Q
theorem r_120_61 (ls : a_LS) (st : List Value) (σ : a_HP) (Q : Option Value → a_HP → Prop) : Rn 120 61 ls st σ Q = acR 120 (o_ri ls st σ) ls σ Q := rn_row rfl ls st σ Q
theorem r_120_62 (ls : a_LS) (st : List Value) (σ : a_HP) (Q : Option Value → a_HP → Prop) : Rn 120 62 ls st σ Q = acR 120 (o_ldi 5 64 ls st σ) ls σ Q := rn_row rfl ls st σ Q
theorem r_120_64 (ls : a_LS) (st : List Value) (σ : a_HP) (Q : Option Value → a_HP → Prop) : Rn 120 64 ls st σ Q = acR 120 (o_pi (nI 1) 65 ls st σ) ls σ Q := rn_row rfl ls st σ Q
theorem r_120_65 (ls : a_LS) (st : List Value) (σ : a_HP) (Q : Option Value → a_HP → Prop) : Rn 120 65 ls st σ Q = acR 120 (o_bi f_add 66 ls st σ) ls σ Q := rn_row rfl ls st σ Q
theorem r_120_66 (ls : a_LS) (st : List Value) (σ : a_HP) (Q : Option Value → a_HP → Prop) : Rn 120 66 ls st σ Q = acR 120 (o_pi (nI 2) 67 ls st σ) ls σ Q := rn_row rfl ls st σ Q
theorem r_120_67 (ls : a_LS) (st : List Value) (σ : a_HP) (Q : Option Value → a_HP → Prop) : Rn 120 67 ls st σ Q = acR 120 (o_bd f_div 68 ls st σ) ls σ Q := rn_row rfl ls st σ Q
theorem r_120_68 (ls : a_LS) (st : List Value) (σ : a_HP) (Q : Option Value → a_HP → Prop) : Rn 120 68 ls st σ Q = acR 120 (o_ri ls st σ) ls σ Q := rn_row rfl ls st σ Q
theorem r_120_69 (ls : a_LS) (st : List Value) (σ : a_HP) (Q : Option Value → a_HP → Prop) : Rn 120 69 ls st σ Q = acR 120 (o_ldi 6 71 ls st σ) ls σ Q := rn_row rfl ls st σ Q
theorem r_120_71 (ls : a_LS) (st : List Value) (σ : a_HP) (Q : Option Value → a_HP → Prop) : Rn 120 71 ls st σ Q = acR 120 (o_ldi 2 72 ls st σ) ls σ Q := rn_row rfl ls st σ Q
theorem r_120_72 (ls : a_LS) (st : List Value) (σ : a_HP) (Q : Option Value → a_HP → Prop) : Rn 120 72 ls st σ Q = acR 120 (o_ne 79 75 ls st σ) ls σ Q := rn_row rfl ls st σ Q
theorem r_120_75 (ls : a_LS) (st : List Value) (σ : a_HP) (Q : Option Value → a_HP → Prop) : Rn 120 75 ls st σ Q = acR 120 (o_pi (nI 3) 76 ls st σ) ls σ Q := rn_row rfl ls st σ Q
theorem r_120_76 (ls : a_LS) (st : List Value) (σ : a_HP) (Q : Option Value → a_HP → Prop) : Rn 120 76 ls st σ Q = acR 120 (o_go 80 ls st σ) ls σ Q := rn_row rfl ls st σ Q
theorem r_120_79 (ls : a_LS) (st : List Value) (σ : a_HP) (Q : Option Value → a_HP → Prop) : Rn 120 79 ls st σ Q = acR 120 (o_pi (nI 0) 80 ls st σ) ls σ Q := rn_row rfl ls st σ Q
theorem r_120_80 (ls : a_LS) (st : List Value) (σ : a_HP) (Q : Option Value → a_HP → Prop) : Rn 120 80 ls st σ Q = acR 120 (o_bi f_add 81 ls st σ) ls σ Q := rn_row rfl ls st σ Q
theorem r_120_81 (ls : a_LS) (st : List Value) (σ : a_HP) (Q : Option Value → a_HP → Prop) : Rn 120 81 ls st σ Q = acR 120 (o_ri ls st σ) ls σ Q := rn_row rfl ls st σ Q
theorem r_120_82 (ls : a_LS) (st : List Value) (σ : a_HP) (Q : Option Value → a_HP → Prop) : Rn 120 82 ls st σ Q = acR 120 (o_ldi 4 84 ls st σ) ls σ Q := rn_row rfl ls st σ Q
theorem r_120_84 (ls : a_LS) (st : List Value) (σ : a_HP) (Q : Option Value → a_HP → Prop) : Rn 120 84 ls st σ Q = acR 120 (o_ldi 3 85 ls st σ) ls σ Q := rn_row rfl ls st σ Q
theorem r_120_85 (ls : a_LS) (st : List Value) (σ : a_HP) (Q : Option Value → a_HP → Prop) : Rn 120 85 ls st σ Q = acR 120 (o_pi (nI 2) 86 ls st σ) ls σ Q := rn_row rfl ls st σ Q
theorem r_120_86 (ls : a_LS) (st : List Value) (σ : a_HP) (Q : Option Value → a_HP → Prop) : Rn 120 86 ls st σ Q = acR 120 (o_bd f_div 87 ls st σ) ls σ Q := rn_row rfl ls st σ Q
theorem r_120_87 (ls : a_LS) (st : List Value) (σ : a_HP) (Q : Option Value → a_HP → Prop) : Rn 120 87 ls st σ Q = acR 120 (o_bi f_add 88 ls st σ) ls σ Q := rn_row rfl ls st σ Q
theorem r_120_88 (ls : a_LS) (st : List Value) (σ : a_HP) (Q : Option Value → a_HP → Prop) : Rn 120 88 ls st σ Q = acR 120 (o_ri ls st σ) ls σ Q := rn_row rfl ls st σ Q
theorem r_120_89 (ls : a_LS) (st : List Value) (σ : a_HP) (Q : Option Value → a_HP → Prop) : Rn 120 89 ls st σ Q = acR 120 (o_ldi 4 91 ls st σ) ls σ Q := rn_row rfl ls st σ Q
theorem r_120_91 (ls : a_LS) (st : List Value) (σ : a_HP) (Q : Option Value → a_HP → Prop) : Rn 120 91 ls st σ Q = acR 120 (o_ri ls st σ) ls σ Q := rn_row rfl ls st σ Q
/-! 121: NetLaw.kindRots(II)I -/
theorem cl_121 (x0 : Int32) (x1 : Int32) (σ : a_HP) (Q : Option Value → a_HP → Prop) : Cl 121 [.int x0, .int x1] σ Q = Rn 121 0 [some (.int x0), some (.int x1), none, none, none] [] σ Q := cl_of (Nat.le_of_ble_eq_true rfl) rfl σ Q
theorem r_121_0 (ls : a_LS) (st : List Value) (σ : a_HP) (Q : Option Value → a_HP → Prop) : Rn 121 0 ls st σ Q = acR 121 (o_pi (nI 1) 1 ls st σ) ls σ Q := rn_row rfl ls st σ Q
theorem r_121_1 (ls : a_LS) (st : List Value) (σ : a_HP) (Q : Option Value → a_HP → Prop) : Rn 121 1 ls st σ Q = acR 121 (o_sti 2 2 ls st σ) ls σ Q := rn_row rfl ls st σ Q
theorem r_121_2 (ls : a_LS) (st : List Value) (σ : a_HP) (Q : Option Value → a_HP → Prop) : Rn 121 2 ls st σ Q = acR 121 (o_ldi 1 3 ls st σ) ls σ Q := rn_row rfl ls st σ Q
theorem r_121_3 (ls : a_LS) (st : List Value) (σ : a_HP) (Q : Option Value → a_HP → Prop) : Rn 121 3 ls st σ Q = acR 121 (o_pi (nI 2) 4 ls st σ) ls σ Q := rn_row rfl ls st σ Q
theorem r_121_4 (ls : a_LS) (st : List Value) (σ : a_HP) (Q : Option Value → a_HP → Prop) : Rn 121 4 ls st σ Q = acR 121 (o_bd f_rem 5 ls st σ) ls σ Q := rn_row rfl ls st σ Q
theorem r_121_5 (ls : a_LS) (st : List Value) (σ : a_HP) (Q : Option Value → a_HP → Prop) : Rn 121 5 ls st σ Q = acR 121 (o_eq 12 8 ls st σ) ls σ Q := rn_row rfl ls st σ Q
theorem r_121_8 (ls : a_LS) (st : List Value) (σ : a_HP) (Q : Option Value → a_HP → Prop) : Rn 121 8 ls st σ Q = acR 121 (o_ldi 2 9 ls st σ) ls σ Q := rn_row rfl ls st σ Q
theorem r_121_9 (ls : a_LS) (st : List Value) (σ : a_HP) (Q : Option Value → a_HP → Prop) : Rn 121 9 ls st σ Q = acR 121 (o_go 13 ls st σ) ls σ Q := rn_row rfl ls st σ Q
theorem r_121_12 (ls : a_LS) (st : List Value) (σ : a_HP) (Q : Option Value → a_HP → Prop) : Rn 121 12 ls st σ Q = acR 121 (o_pi (nI 0) 13 ls st σ) ls σ Q := rn_row rfl ls st σ Q
theorem r_121_13 (ls : a_LS) (st : List Value) (σ : a_HP) (Q : Option Value → a_HP → Prop) : Rn 121 13 ls st σ Q = acR 121 (o_sti 3 14 ls st σ) ls σ Q := rn_row rfl ls st σ Q
theorem r_121_14 (ls : a_LS) (st : List Value) (σ : a_HP) (Q : Option Value → a_HP → Prop) : Rn 121 14 ls st σ Q = acR 121 (o_ldi 2 15 ls st σ) ls σ Q := rn_row rfl ls st σ Q
theorem r_121_15 (ls : a_LS) (st : List Value) (σ : a_HP) (Q : Option Value → a_HP → Prop) : Rn 121 15 ls st σ Q = acR 121 (o_pi (nI 1) 16 ls st σ) ls σ Q := rn_row rfl ls st σ Q
theorem r_121_16 (ls : a_LS) (st : List Value) (σ : a_HP) (Q : Option Value → a_HP → Prop) : Rn 121 16 ls st σ Q = acR 121 (o_bi f_add 17 ls st σ) ls σ Q := rn_row rfl ls st σ Q
theorem r_121_17 (ls : a_LS) (st : List Value) (σ : a_HP) (Q : Option Value → a_HP → Prop) : Rn 121 17 ls st σ Q = acR 121 (o_sti 4 19 ls st σ) ls σ Q := rn_row rfl ls st σ Q
theorem r_121_19 (ls : a_LS) (st : List Value) (σ : a_HP) (Q : Option Value → a_HP → Prop) : Rn 121 19 ls st σ Q = acR 121 (o_ldi 0 20 ls st σ) ls σ Q := rn_row rfl ls st σ Q
theorem r_121_20 (ls : a_LS) (st : List Value) (σ : a_HP) (Q : Option Value → a_HP → Prop) : Rn 121 20 ls st σ Q = acR 121 (o_sw [((nI 1), 52), ((nI 2), 54), ((nI 3), 57), ((nI 4), 59)] 75 ls st σ) ls σ Q := rn_row rfl ls st σ Q
theorem r_121_52 (ls : a_LS) (st : List Value) (σ : a_HP) (Q : Option Value → a_HP → Prop) : Rn 121 52 ls st σ Q = acR 121 (o_ldi 3 53 ls st σ) ls σ Q := rn_row rfl ls st σ Q
theorem r_121_53 (ls : a_LS) (st : List Value) (σ : a_HP) (Q : Option Value → a_HP → Prop) : Rn 121 53 ls st σ Q = acR 121 (o_ri ls st σ) ls σ Q := rn_row rfl ls st σ Q
theorem r_121_54 (ls : a_LS) (st : List Value) (σ : a_HP) (Q : Option Value → a_HP → Prop) : Rn 121 54 ls st σ Q = acR 121 (o_ldi 4 56 ls st σ) ls σ Q := rn_row rfl ls st σ Q
theorem r_121_56 (ls : a_LS) (st : List Value) (σ : a_HP) (Q : Option Value → a_HP → Prop) : Rn 121 56 ls st σ Q = acR 121 (o_ri ls st σ) ls σ Q := rn_row rfl ls st σ Q
theorem r_121_57 (ls : a_LS) (st : List Value) (σ : a_HP) (Q : Option Value → a_HP → Prop) : Rn 121 57 ls st σ Q = acR 121 (o_ldi 3 58 ls st σ) ls σ Q := rn_row rfl ls st σ Q
theorem r_121_58 (ls : a_LS) (st : List Value) (σ : a_HP) (Q : Option Value → a_HP → Prop) : Rn 121 58 ls st σ Q = acR 121 (o_ri ls st σ) ls σ Q := rn_row rfl ls st σ Q
theorem r_121_59 (ls : a_LS) (st : List Value) (σ : a_HP) (Q : Option Value → a_HP → Prop) : Rn 121 59 ls st σ Q = acR 121 (o_ldi 1 60 ls st σ) ls σ Q := rn_row rfl ls st σ Q
theorem r_121_60 (ls : a_LS) (st : List Value) (σ : a_HP) (Q : Option Value → a_HP → Prop) : Rn 121 60 ls st σ Q = acR 121 (o_pi (nI 3) 61 ls st σ) ls σ Q := rn_row rfl ls st σ Q
theorem r_121_61 (ls : a_LS) (st : List Value) (σ : a_HP) (Q : Option Value → a_HP → Prop) : Rn 121 61 ls st σ Q = acR 121 (o_bd f_rem 62 ls st σ) ls σ Q := rn_row rfl ls st σ Q
theorem r_121_62 (ls : a_LS) (st : List Value) (σ : a_HP) (Q : Option Value → a_HP → Prop) : Rn 121 62 ls st σ Q = acR 121 (o_ne 70 65 ls st σ) ls σ Q := rn_row rfl ls st σ Q
theorem r_121_65 (ls : a_LS) (st : List Value) (σ : a_HP) (Q : Option Value → a_HP → Prop) : Rn 121 65 ls st σ Q = acR 121 (o_ldi 4 67 ls st σ) ls σ Q := rn_row rfl ls st σ Q
theorem r_121_67 (ls : a_LS) (st : List Value) (σ : a_HP) (Q : Option Value → a_HP → Prop) : Rn 121 67 ls st σ Q = acR 121 (o_go 74 ls st σ) ls σ Q := rn_row rfl ls st σ Q
theorem r_121_70 (ls : a_LS) (st : List Value) (σ : a_HP) (Q : Option Value → a_HP → Prop) : Rn 121 70 ls st σ Q = acR 121 (o_ldi 4 72 ls st σ) ls σ Q := rn_row rfl ls st σ Q
theorem r_121_72 (ls : a_LS) (st : List Value) (σ : a_HP) (Q : Option Value → a_HP → Prop) : Rn 121 72 ls st σ Q = acR 121 (o_pi (nI 1) 73 ls st σ) ls σ Q := rn_row rfl ls st σ Q
theorem r_121_73 (ls : a_LS) (st : List Value) (σ : a_HP) (Q : Option Value → a_HP → Prop) : Rn 121 73 ls st σ Q = acR 121 (o_bi f_sub 74 ls st σ) ls σ Q := rn_row rfl ls st σ Q
theorem r_121_74 (ls : a_LS) (st : List Value) (σ : a_HP) (Q : Option Value → a_HP → Prop) : Rn 121 74 ls st σ Q = acR 121 (o_ri ls st σ) ls σ Q := rn_row rfl ls st σ Q
theorem r_121_75 (ls : a_LS) (st : List Value) (σ : a_HP) (Q : Option Value → a_HP → Prop) : Rn 121 75 ls st σ Q = acR 121 (o_ldi 2 76 ls st σ) ls σ Q := rn_row rfl ls st σ Q
theorem r_121_76 (ls : a_LS) (st : List Value) (σ : a_HP) (Q : Option Value → a_HP → Prop) : Rn 121 76 ls st σ Q = acR 121 (o_ri ls st σ) ls σ Q := rn_row rfl ls st σ Q
/-! 122: NetLawModel.in(JJJ)Z -/
theorem cl_122 (x0 : Int64) (x1 : Int64) (x2 : Int64) (σ : a_HP) (Q : Option Value → a_HP → Prop) : Cl 122 [.long x0, .long x1, .long x2] σ Q = Rn 122 0 [some (.long x0), none, some (.long x1), none, some (.long x2), none] [] σ Q := cl_of (Nat.le_of_ble_eq_true rfl) rfl σ Q
theorem r_122_0 (ls : a_LS) (st : List Value) (σ : a_HP) (Q : Option Value → a_HP → Prop) : Rn 122 0 ls st σ Q = acR 122 (o_ldl 0 1 ls st σ) ls σ Q := rn_row rfl ls st σ Q
theorem r_122_1 (ls : a_LS) (st : List Value) (σ : a_HP) (Q : Option Value → a_HP → Prop) : Rn 122 1 ls st σ Q = acR 122 (o_ldl 2 2 ls st σ) ls σ Q := rn_row rfl ls st σ Q
theorem r_122_2 (ls : a_LS) (st : List Value) (σ : a_HP) (Q : Option Value → a_HP → Prop) : Rn 122 2 ls st σ Q = acR 122 (o_lcmp 3 ls st σ) ls σ Q := rn_row rfl ls st σ Q
theorem r_122_3 (ls : a_LS) (st : List Value) (σ : a_HP) (Q : Option Value → a_HP → Prop) : Rn 122 3 ls st σ Q = acR 122 (o_lt 17 6 ls st σ) ls σ Q := rn_row rfl ls st σ Q
theorem r_122_6 (ls : a_LS) (st : List Value) (σ : a_HP) (Q : Option Value → a_HP → Prop) : Rn 122 6 ls st σ Q = acR 122 (o_ldl 0 7 ls st σ) ls σ Q := rn_row rfl ls st σ Q
theorem r_122_7 (ls : a_LS) (st : List Value) (σ : a_HP) (Q : Option Value → a_HP → Prop) : Rn 122 7 ls st σ Q = acR 122 (o_ldl 4 9 ls st σ) ls σ Q := rn_row rfl ls st σ Q
theorem r_122_9 (ls : a_LS) (st : List Value) (σ : a_HP) (Q : Option Value → a_HP → Prop) : Rn 122 9 ls st σ Q = acR 122 (o_lcmp 10 ls st σ) ls σ Q := rn_row rfl ls st σ Q
theorem r_122_10 (ls : a_LS) (st : List Value) (σ : a_HP) (Q : Option Value → a_HP → Prop) : Rn 122 10 ls st σ Q = acR 122 (o_gt 17 13 ls st σ) ls σ Q := rn_row rfl ls st σ Q
theorem r_122_13 (ls : a_LS) (st : List Value) (σ : a_HP) (Q : Option Value → a_HP → Prop) : Rn 122 13 ls st σ Q = acR 122 (o_pi (nI 1) 14 ls st σ) ls σ Q := rn_row rfl ls st σ Q
theorem r_122_14 (ls : a_LS) (st : List Value) (σ : a_HP) (Q : Option Value → a_HP → Prop) : Rn 122 14 ls st σ Q = acR 122 (o_go 18 ls st σ) ls σ Q := rn_row rfl ls st σ Q
theorem r_122_17 (ls : a_LS) (st : List Value) (σ : a_HP) (Q : Option Value → a_HP → Prop) : Rn 122 17 ls st σ Q = acR 122 (o_pi (nI 0) 18 ls st σ) ls σ Q := rn_row rfl ls st σ Q
theorem r_122_18 (ls : a_LS) (st : List Value) (σ : a_HP) (Q : Option Value → a_HP → Prop) : Rn 122 18 ls st σ Q = acR 122 (o_rz ls st σ) ls σ Q := rn_row rfl ls st σ Q
/-! 123: NetLawModel.has(II)Z -/
theorem cl_123 (x0 : Int32) (x1 : Int32) (σ : a_HP) (Q : Option Value → a_HP → Prop) : Cl 123 [.int x0, .int x1] σ Q = Rn 123 0 [some (.int x0), some (.int x1)] [] σ Q := cl_of (Nat.le_of_ble_eq_true rfl) rfl σ Q
theorem r_123_0 (ls : a_LS) (st : List Value) (σ : a_HP) (Q : Option Value → a_HP → Prop) : Rn 123 0 ls st σ Q = acR 123 (o_ldi 0 1 ls st σ) ls σ Q := rn_row rfl ls st σ Q
theorem r_123_1 (ls : a_LS) (st : List Value) (σ : a_HP) (Q : Option Value → a_HP → Prop) : Rn 123 1 ls st σ Q = acR 123 (o_ldi 1 2 ls st σ) ls σ Q := rn_row rfl ls st σ Q
theorem r_123_2 (ls : a_LS) (st : List Value) (σ : a_HP) (Q : Option Value → a_HP → Prop) : Rn 123 2 ls st σ Q = acR 123 (o_bi f_shr 3 ls st σ) ls σ Q := rn_row rfl ls st σ Q
theorem r_123_3 (ls : a_LS) (st : List Value) (σ : a_HP) (Q : Option Value → a_HP → Prop) : Rn 123 3 ls st σ Q = acR 123 (o_pi (nI 1) 4 ls st σ) ls σ Q := rn_row rfl ls st σ Q
theorem r_123_4 (ls : a_LS) (st : List Value) (σ : a_HP) (Q : Option Value → a_HP → Prop) : Rn 123 4 ls st σ Q = acR 123 (o_bi f_and 5 ls st σ) ls σ Q := rn_row rfl ls st σ Q
theorem r_123_5 (ls : a_LS) (st : List Value) (σ : a_HP) (Q : Option Value → a_HP → Prop) : Rn 123 5 ls st σ Q = acR 123 (o_pi (nI 1) 6 ls st σ) ls σ Q := rn_row rfl ls st σ Q
theorem r_123_6 (ls : a_LS) (st : List Value) (σ : a_HP) (Q : Option Value → a_HP → Prop) : Rn 123 6 ls st σ Q = acR 123 (o_cne 13 9 ls st σ) ls σ Q := rn_row rfl ls st σ Q
theorem r_123_9 (ls : a_LS) (st : List Value) (σ : a_HP) (Q : Option Value → a_HP → Prop) : Rn 123 9 ls st σ Q = acR 123 (o_pi (nI 1) 10 ls st σ) ls σ Q := rn_row rfl ls st σ Q
theorem r_123_10 (ls : a_LS) (st : List Value) (σ : a_HP) (Q : Option Value → a_HP → Prop) : Rn 123 10 ls st σ Q = acR 123 (o_go 14 ls st σ) ls σ Q := rn_row rfl ls st σ Q
theorem r_123_13 (ls : a_LS) (st : List Value) (σ : a_HP) (Q : Option Value → a_HP → Prop) : Rn 123 13 ls st σ Q = acR 123 (o_pi (nI 0) 14 ls st σ) ls σ Q := rn_row rfl ls st σ Q
theorem r_123_14 (ls : a_LS) (st : List Value) (σ : a_HP) (Q : Option Value → a_HP → Prop) : Rn 123 14 ls st σ Q = acR 123 (o_rz ls st σ) ls σ Q := rn_row rfl ls st σ Q
/-! 124: NetLawModel.bits(I)I -/
theorem cl_124 (x0 : Int32) (σ : a_HP) (Q : Option Value → a_HP → Prop) : Cl 124 [.int x0] σ Q = Rn 124 0 [some (.int x0), none, none] [] σ Q := cl_of (Nat.le_of_ble_eq_true rfl) rfl σ Q
theorem r_124_0 (ls : a_LS) (st : List Value) (σ : a_HP) (Q : Option Value → a_HP → Prop) : Rn 124 0 ls st σ Q = acR 124 (o_pi (nI 0) 1 ls st σ) ls σ Q := rn_row rfl ls st σ Q
theorem r_124_1 (ls : a_LS) (st : List Value) (σ : a_HP) (Q : Option Value → a_HP → Prop) : Rn 124 1 ls st σ Q = acR 124 (o_sti 1 2 ls st σ) ls σ Q := rn_row rfl ls st σ Q
theorem r_124_2 (ls : a_LS) (st : List Value) (σ : a_HP) (Q : Option Value → a_HP → Prop) : Rn 124 2 ls st σ Q = acR 124 (o_ldi 0 3 ls st σ) ls σ Q := rn_row rfl ls st σ Q
theorem r_124_3 (ls : a_LS) (st : List Value) (σ : a_HP) (Q : Option Value → a_HP → Prop) : Rn 124 3 ls st σ Q = acR 124 (o_sti 2 4 ls st σ) ls σ Q := rn_row rfl ls st σ Q
theorem r_124_4 (ls : a_LS) (st : List Value) (σ : a_HP) (Q : Option Value → a_HP → Prop) : Rn 124 4 ls st σ Q = acR 124 (o_ldi 2 5 ls st σ) ls σ Q := rn_row rfl ls st σ Q
theorem r_124_5 (ls : a_LS) (st : List Value) (σ : a_HP) (Q : Option Value → a_HP → Prop) : Rn 124 5 ls st σ Q = acR 124 (o_eq 20 8 ls st σ) ls σ Q := rn_row rfl ls st σ Q
theorem r_124_8 (ls : a_LS) (st : List Value) (σ : a_HP) (Q : Option Value → a_HP → Prop) : Rn 124 8 ls st σ Q = acR 124 (o_inc 1 (nI 1) 11 ls st σ) ls σ Q := rn_row rfl ls st σ Q
theorem r_124_11 (ls : a_LS) (st : List Value) (σ : a_HP) (Q : Option Value → a_HP → Prop) : Rn 124 11 ls st σ Q = acR 124 (o_ldi 2 12 ls st σ) ls σ Q := rn_row rfl ls st σ Q
theorem r_124_12 (ls : a_LS) (st : List Value) (σ : a_HP) (Q : Option Value → a_HP → Prop) : Rn 124 12 ls st σ Q = acR 124 (o_ldi 2 13 ls st σ) ls σ Q := rn_row rfl ls st σ Q
theorem r_124_13 (ls : a_LS) (st : List Value) (σ : a_HP) (Q : Option Value → a_HP → Prop) : Rn 124 13 ls st σ Q = acR 124 (o_pi (nI 1) 14 ls st σ) ls σ Q := rn_row rfl ls st σ Q
theorem r_124_14 (ls : a_LS) (st : List Value) (σ : a_HP) (Q : Option Value → a_HP → Prop) : Rn 124 14 ls st σ Q = acR 124 (o_bi f_sub 15 ls st σ) ls σ Q := rn_row rfl ls st σ Q
theorem r_124_15 (ls : a_LS) (st : List Value) (σ : a_HP) (Q : Option Value → a_HP → Prop) : Rn 124 15 ls st σ Q = acR 124 (o_bi f_and 16 ls st σ) ls σ Q := rn_row rfl ls st σ Q
theorem r_124_16 (ls : a_LS) (st : List Value) (σ : a_HP) (Q : Option Value → a_HP → Prop) : Rn 124 16 ls st σ Q = acR 124 (o_sti 2 17 ls st σ) ls σ Q := rn_row rfl ls st σ Q
theorem r_124_17 (ls : a_LS) (st : List Value) (σ : a_HP) (Q : Option Value → a_HP → Prop) : Rn 124 17 ls st σ Q = acR 124 (o_go 4 ls st σ) ls σ Q := rn_row rfl ls st σ Q
theorem r_124_20 (ls : a_LS) (st : List Value) (σ : a_HP) (Q : Option Value → a_HP → Prop) : Rn 124 20 ls st σ Q = acR 124 (o_ldi 1 21 ls st σ) ls σ Q := rn_row rfl ls st σ Q
theorem r_124_21 (ls : a_LS) (st : List Value) (σ : a_HP) (Q : Option Value → a_HP → Prop) : Rn 124 21 ls st σ Q = acR 124 (o_ri ls st σ) ls σ Q := rn_row rfl ls st σ Q
/-! 125: NetLawModel.bad()I -/
theorem cl_125 (x0 : Nat) (σ : a_HP) (Q : Option Value → a_HP → Prop) : Cl 125 [.ref x0] σ Q = Rn 125 0 [some (.ref x0)] [] σ Q := cl_of (Nat.le_of_ble_eq_true rfl) rfl σ Q
theorem r_125_0 (ls : a_LS) (st : List Value) (σ : a_HP) (Q : Option Value → a_HP → Prop) : Rn 125 0 ls st σ Q = acR 125 (o_lda 0 1 ls st σ) ls σ Q := rn_row rfl ls st σ Q
theorem r_125_1 (ls : a_LS) (st : List Value) (σ : a_HP) (Q : Option Value → a_HP → Prop) : Rn 125 1 ls st σ Q = acR 125 (o_get 8 9 4 ls st σ) ls σ Q := rn_row rfl ls st σ Q
theorem r_125_4 (ls : a_LS) (st : List Value) (σ : a_HP) (Q : Option Value → a_HP → Prop) : Rn 125 4 ls st σ Q = acR 125 (o_pi (nI 0) 5 ls st σ) ls σ Q := rn_row rfl ls st σ Q
theorem r_125_5 (ls : a_LS) (st : List Value) (σ : a_HP) (Q : Option Value → a_HP → Prop) : Rn 125 5 ls st σ Q = acR 125 (o_dup2 6 ls st σ) ls σ Q := rn_row rfl ls st σ Q
theorem r_125_6 (ls : a_LS) (st : List Value) (σ : a_HP) (Q : Option Value → a_HP → Prop) : Rn 125 6 ls st σ Q = acR 125 (o_ial 7 ls st σ) ls σ Q := rn_row rfl ls st σ Q
theorem r_125_7 (ls : a_LS) (st : List Value) (σ : a_HP) (Q : Option Value → a_HP → Prop) : Rn 125 7 ls st σ Q = acR 125 (o_pi (nI 1) 8 ls st σ) ls σ Q := rn_row rfl ls st σ Q
theorem r_125_8 (ls : a_LS) (st : List Value) (σ : a_HP) (Q : Option Value → a_HP → Prop) : Rn 125 8 ls st σ Q = acR 125 (o_bi f_add 9 ls st σ) ls σ Q := rn_row rfl ls st σ Q
theorem r_125_9 (ls : a_LS) (st : List Value) (σ : a_HP) (Q : Option Value → a_HP → Prop) : Rn 125 9 ls st σ Q = acR 125 (o_ias 10 ls st σ) ls σ Q := rn_row rfl ls st σ Q
theorem r_125_10 (ls : a_LS) (st : List Value) (σ : a_HP) (Q : Option Value → a_HP → Prop) : Rn 125 10 ls st σ Q = acR 125 (o_pi (-2) 12 ls st σ) ls σ Q := rn_row rfl ls st σ Q
theorem r_125_12 (ls : a_LS) (st : List Value) (σ : a_HP) (Q : Option Value → a_HP → Prop) : Rn 125 12 ls st σ Q = acR 125 (o_ri ls st σ) ls σ Q := rn_row rfl ls st σ Q
/-! 126: NetLawModel.badAs(I)I -/
theorem cl_126 (x0 : Nat) (x1 : Int32) (σ : a_HP) (Q : Option Value → a_HP → Prop) : Cl 126 [.ref x0, .int x1] σ Q = Rn 126 0 [some (.ref x0), some (.int x1)] [] σ Q := cl_of (Nat.le_of_ble_eq_true rfl) rfl σ Q
theorem r_126_0 (ls : a_LS) (st : List Value) (σ : a_HP) (Q : Option Value → a_HP → Prop) : Rn 126 0 ls st σ Q = acR 126 (o_lda 0 1 ls st σ) ls σ Q := rn_row rfl ls st σ Q
theorem r_126_1 (ls : a_LS) (st : List Value) (σ : a_HP) (Q : Option Value → a_HP → Prop) : Rn 126 1 ls st σ Q = acR 126 (o_get 8 9 4 ls st σ) ls σ Q := rn_row rfl ls st σ Q
theorem r_126_4 (ls : a_LS) (st : List Value) (σ : a_HP) (Q : Option Value → a_HP → Prop) : Rn 126 4 ls st σ Q = acR 126 (o_pi (nI 0) 5 ls st σ) ls σ Q := rn_row rfl ls st σ Q
theorem r_126_5 (ls : a_LS) (st : List Value) (σ : a_HP) (Q : Option Value → a_HP → Prop) : Rn 126 5 ls st σ Q = acR 126 (o_dup2 6 ls st σ) ls σ Q := rn_row rfl ls st σ Q
theorem r_126_6 (ls : a_LS) (st : List Value) (σ : a_HP) (Q : Option Value → a_HP → Prop) : Rn 126 6 ls st σ Q = acR 126 (o_ial 7 ls st σ) ls σ Q := rn_row rfl ls st σ Q
theorem r_126_7 (ls : a_LS) (st : List Value) (σ : a_HP) (Q : Option Value → a_HP → Prop) : Rn 126 7 ls st σ Q = acR 126 (o_pi (nI 1) 8 ls st σ) ls σ Q := rn_row rfl ls st σ Q
theorem r_126_8 (ls : a_LS) (st : List Value) (σ : a_HP) (Q : Option Value → a_HP → Prop) : Rn 126 8 ls st σ Q = acR 126 (o_bi f_add 9 ls st σ) ls σ Q := rn_row rfl ls st σ Q
theorem r_126_9 (ls : a_LS) (st : List Value) (σ : a_HP) (Q : Option Value → a_HP → Prop) : Rn 126 9 ls st σ Q = acR 126 (o_ias 10 ls st σ) ls σ Q := rn_row rfl ls st σ Q
theorem r_126_10 (ls : a_LS) (st : List Value) (σ : a_HP) (Q : Option Value → a_HP → Prop) : Rn 126 10 ls st σ Q = acR 126 (o_ldi 1 11 ls st σ) ls σ Q := rn_row rfl ls st σ Q
theorem r_126_11 (ls : a_LS) (st : List Value) (σ : a_HP) (Q : Option Value → a_HP → Prop) : Rn 126 11 ls st σ Q = acR 126 (o_ri ls st σ) ls σ Q := rn_row rfl ls st σ Q
/-! 127: NetLawModel.noAs(I)I -/
theorem cl_127 (x0 : Nat) (x1 : Int32) (σ : a_HP) (Q : Option Value → a_HP → Prop) : Cl 127 [.ref x0, .int x1] σ Q = Rn 127 0 [some (.ref x0), some (.int x1)] [] σ Q := cl_of (Nat.le_of_ble_eq_true rfl) rfl σ Q
theorem r_127_0 (ls : a_LS) (st : List Value) (σ : a_HP) (Q : Option Value → a_HP → Prop) : Rn 127 0 ls st σ Q = acR 127 (o_lda 0 1 ls st σ) ls σ Q := rn_row rfl ls st σ Q
theorem r_127_1 (ls : a_LS) (st : List Value) (σ : a_HP) (Q : Option Value → a_HP → Prop) : Rn 127 1 ls st σ Q = acR 127 (o_get 8 9 4 ls st σ) ls σ Q := rn_row rfl ls st σ Q
theorem r_127_4 (ls : a_LS) (st : List Value) (σ : a_HP) (Q : Option Value → a_HP → Prop) : Rn 127 4 ls st σ Q = acR 127 (o_pi (nI 1) 5 ls st σ) ls σ Q := rn_row rfl ls st σ Q
theorem r_127_5 (ls : a_LS) (st : List Value) (σ : a_HP) (Q : Option Value → a_HP → Prop) : Rn 127 5 ls st σ Q = acR 127 (o_dup2 6 ls st σ) ls σ Q := rn_row rfl ls st σ Q
theorem r_127_6 (ls : a_LS) (st : List Value) (σ : a_HP) (Q : Option Value → a_HP → Prop) : Rn 127 6 ls st σ Q = acR 127 (o_ial 7 ls st σ) ls σ Q := rn_row rfl ls st σ Q
theorem r_127_7 (ls : a_LS) (st : List Value) (σ : a_HP) (Q : Option Value → a_HP → Prop) : Rn 127 7 ls st σ Q = acR 127 (o_pi (nI 1) 8 ls st σ) ls σ Q := rn_row rfl ls st σ Q
theorem r_127_8 (ls : a_LS) (st : List Value) (σ : a_HP) (Q : Option Value → a_HP → Prop) : Rn 127 8 ls st σ Q = acR 127 (o_bi f_add 9 ls st σ) ls σ Q := rn_row rfl ls st σ Q
theorem r_127_9 (ls : a_LS) (st : List Value) (σ : a_HP) (Q : Option Value → a_HP → Prop) : Rn 127 9 ls st σ Q = acR 127 (o_ias 10 ls st σ) ls σ Q := rn_row rfl ls st σ Q
theorem r_127_10 (ls : a_LS) (st : List Value) (σ : a_HP) (Q : Option Value → a_HP → Prop) : Rn 127 10 ls st σ Q = acR 127 (o_ldi 1 11 ls st σ) ls σ Q := rn_row rfl ls st σ Q
theorem r_127_11 (ls : a_LS) (st : List Value) (σ : a_HP) (Q : Option Value → a_HP → Prop) : Rn 127 11 ls st σ Q = acR 127 (o_ri ls st σ) ls σ Q := rn_row rfl ls st σ Q
/-! 128: NetLawModel.full()I -/
theorem cl_128 (x0 : Nat) (σ : a_HP) (Q : Option Value → a_HP → Prop) : Cl 128 [.ref x0] σ Q = Rn 128 0 [some (.ref x0)] [] σ Q := cl_of (Nat.le_of_ble_eq_true rfl) rfl σ Q
theorem r_128_0 (ls : a_LS) (st : List Value) (σ : a_HP) (Q : Option Value → a_HP → Prop) : Rn 128 0 ls st σ Q = acR 128 (o_lda 0 1 ls st σ) ls σ Q := rn_row rfl ls st σ Q
theorem r_128_1 (ls : a_LS) (st : List Value) (σ : a_HP) (Q : Option Value → a_HP → Prop) : Rn 128 1 ls st σ Q = acR 128 (o_get 8 9 4 ls st σ) ls σ Q := rn_row rfl ls st σ Q
theorem r_128_4 (ls : a_LS) (st : List Value) (σ : a_HP) (Q : Option Value → a_HP → Prop) : Rn 128 4 ls st σ Q = acR 128 (o_pi (nI 2) 5 ls st σ) ls σ Q := rn_row rfl ls st σ Q
theorem r_128_5 (ls : a_LS) (st : List Value) (σ : a_HP) (Q : Option Value → a_HP → Prop) : Rn 128 5 ls st σ Q = acR 128 (o_dup2 6 ls st σ) ls σ Q := rn_row rfl ls st σ Q
theorem r_128_6 (ls : a_LS) (st : List Value) (σ : a_HP) (Q : Option Value → a_HP → Prop) : Rn 128 6 ls st σ Q = acR 128 (o_ial 7 ls st σ) ls σ Q := rn_row rfl ls st σ Q
theorem r_128_7 (ls : a_LS) (st : List Value) (σ : a_HP) (Q : Option Value → a_HP → Prop) : Rn 128 7 ls st σ Q = acR 128 (o_pi (nI 1) 8 ls st σ) ls σ Q := rn_row rfl ls st σ Q
theorem r_128_8 (ls : a_LS) (st : List Value) (σ : a_HP) (Q : Option Value → a_HP → Prop) : Rn 128 8 ls st σ Q = acR 128 (o_bi f_add 9 ls st σ) ls σ Q := rn_row rfl ls st σ Q
theorem r_128_9 (ls : a_LS) (st : List Value) (σ : a_HP) (Q : Option Value → a_HP → Prop) : Rn 128 9 ls st σ Q = acR 128 (o_ias 10 ls st σ) ls σ Q := rn_row rfl ls st σ Q
theorem r_128_10 (ls : a_LS) (st : List Value) (σ : a_HP) (Q : Option Value → a_HP → Prop) : Rn 128 10 ls st σ Q = acR 128 (o_pi (-4) 12 ls st σ) ls σ Q := rn_row rfl ls st σ Q
theorem r_128_12 (ls : a_LS) (st : List Value) (σ : a_HP) (Q : Option Value → a_HP → Prop) : Rn 128 12 ls st σ Q = acR 128 (o_ri ls st σ) ls σ Q := rn_row rfl ls st σ Q
/-! 129: NetLawModel.begins([III)V -/
theorem cl_129 (x0 : Nat) (x1 : Int32) (x2 : Int32) (σ : a_HP) (Q : Option Value → a_HP → Prop) : Cl 129 [.ref x0, .int x1, .int x2] σ Q = Rn 129 0 [some (.ref x0), some (.int x1), some (.int x2), none] [] σ Q := cl_of (Nat.le_of_ble_eq_true rfl) rfl σ Q
theorem r_129_0 (ls : a_LS) (st : List Value) (σ : a_HP) (Q : Option Value → a_HP → Prop) : Rn 129 0 ls st σ Q = acR 129 (o_pi (nI 0) 1 ls st σ) ls σ Q := rn_row rfl ls st σ Q
theorem r_129_1 (ls : a_LS) (st : List Value) (σ : a_HP) (Q : Option Value → a_HP → Prop) : Rn 129 1 ls st σ Q = acR 129 (o_sti 3 2 ls st σ) ls σ Q := rn_row rfl ls st σ Q
theorem r_129_2 (ls : a_LS) (st : List Value) (σ : a_HP) (Q : Option Value → a_HP → Prop) : Rn 129 2 ls st σ Q = acR 129 (o_ldi 3 3 ls st σ) ls σ Q := rn_row rfl ls st σ Q
theorem r_129_3 (ls : a_LS) (st : List Value) (σ : a_HP) (Q : Option Value → a_HP → Prop) : Rn 129 3 ls st σ Q = acR 129 (o_pi (nI 481) 6 ls st σ) ls σ Q := rn_row rfl ls st σ Q
theorem r_129_6 (ls : a_LS) (st : List Value) (σ : a_HP) (Q : Option Value → a_HP → Prop) : Rn 129 6 ls st σ Q = acR 129 (o_cge 36 9 ls st σ) ls σ Q := rn_row rfl ls st σ Q
theorem r_129_9 (ls : a_LS) (st : List Value) (σ : a_HP) (Q : Option Value → a_HP → Prop) : Rn 129 9 ls st σ Q = acR 129 (o_lda 0 10 ls st σ) ls σ Q := rn_row rfl ls st σ Q
theorem r_129_10 (ls : a_LS) (st : List Value) (σ : a_HP) (Q : Option Value → a_HP → Prop) : Rn 129 10 ls st σ Q = acR 129 (o_ldi 3 11 ls st σ) ls σ Q := rn_row rfl ls st σ Q
theorem r_129_11 (ls : a_LS) (st : List Value) (σ : a_HP) (Q : Option Value → a_HP → Prop) : Rn 129 11 ls st σ Q = acR 129 (o_ldi 3 12 ls st σ) ls σ Q := rn_row rfl ls st σ Q
theorem r_129_12 (ls : a_LS) (st : List Value) (σ : a_HP) (Q : Option Value → a_HP → Prop) : Rn 129 12 ls st σ Q = acR 129 (o_pi (nI 52) 14 ls st σ) ls σ Q := rn_row rfl ls st σ Q
theorem r_129_14 (ls : a_LS) (st : List Value) (σ : a_HP) (Q : Option Value → a_HP → Prop) : Rn 129 14 ls st σ Q = acR 129 (o_clt 28 17 ls st σ) ls σ Q := rn_row rfl ls st σ Q
theorem r_129_17 (ls : a_LS) (st : List Value) (σ : a_HP) (Q : Option Value → a_HP → Prop) : Rn 129 17 ls st σ Q = acR 129 (o_ldi 3 18 ls st σ) ls σ Q := rn_row rfl ls st σ Q
theorem r_129_18 (ls : a_LS) (st : List Value) (σ : a_HP) (Q : Option Value → a_HP → Prop) : Rn 129 18 ls st σ Q = acR 129 (o_pi (nI 61) 20 ls st σ) ls σ Q := rn_row rfl ls st σ Q
theorem r_129_20 (ls : a_LS) (st : List Value) (σ : a_HP) (Q : Option Value → a_HP → Prop) : Rn 129 20 ls st σ Q = acR 129 (o_cge 28 23 ls st σ) ls σ Q := rn_row rfl ls st σ Q
theorem r_129_23 (ls : a_LS) (st : List Value) (σ : a_HP) (Q : Option Value → a_HP → Prop) : Rn 129 23 ls st σ Q = acR 129 (o_pi (nI 9) 25 ls st σ) ls σ Q := rn_row rfl ls st σ Q
theorem r_129_25 (ls : a_LS) (st : List Value) (σ : a_HP) (Q : Option Value → a_HP → Prop) : Rn 129 25 ls st σ Q = acR 129 (o_go 29 ls st σ) ls σ Q := rn_row rfl ls st σ Q
theorem r_129_28 (ls : a_LS) (st : List Value) (σ : a_HP) (Q : Option Value → a_HP → Prop) : Rn 129 28 ls st σ Q = acR 129 (o_pi (nI 0) 29 ls st σ) ls σ Q := rn_row rfl ls st σ Q
theorem r_129_29 (ls : a_LS) (st : List Value) (σ : a_HP) (Q : Option Value → a_HP → Prop) : Rn 129 29 ls st σ Q = acR 129 (o_ias 30 ls st σ) ls σ Q := rn_row rfl ls st σ Q
theorem r_129_30 (ls : a_LS) (st : List Value) (σ : a_HP) (Q : Option Value → a_HP → Prop) : Rn 129 30 ls st σ Q = acR 129 (o_inc 3 (nI 1) 33 ls st σ) ls σ Q := rn_row rfl ls st σ Q
theorem r_129_33 (ls : a_LS) (st : List Value) (σ : a_HP) (Q : Option Value → a_HP → Prop) : Rn 129 33 ls st σ Q = acR 129 (o_go 2 ls st σ) ls σ Q := rn_row rfl ls st σ Q
theorem r_129_36 (ls : a_LS) (st : List Value) (σ : a_HP) (Q : Option Value → a_HP → Prop) : Rn 129 36 ls st σ Q = acR 129 (o_lda 0 37 ls st σ) ls σ Q := rn_row rfl ls st σ Q
theorem r_129_37 (ls : a_LS) (st : List Value) (σ : a_HP) (Q : Option Value → a_HP → Prop) : Rn 129 37 ls st σ Q = acR 129 (o_pi (nI 0) 38 ls st σ) ls σ Q := rn_row rfl ls st σ Q
theorem r_129_38 (ls : a_LS) (st : List Value) (σ : a_HP) (Q : Option Value → a_HP → Prop) : Rn 129 38 ls st σ Q = acR 129 (o_ldi 1 39 ls st σ) ls σ Q := rn_row rfl ls st σ Q
theorem r_129_39 (ls : a_LS) (st : List Value) (σ : a_HP) (Q : Option Value → a_HP → Prop) : Rn 129 39 ls st σ Q = acR 129 (o_ias 40 ls st σ) ls σ Q := rn_row rfl ls st σ Q
theorem r_129_40 (ls : a_LS) (st : List Value) (σ : a_HP) (Q : Option Value → a_HP → Prop) : Rn 129 40 ls st σ Q = acR 129 (o_lda 0 41 ls st σ) ls σ Q := rn_row rfl ls st σ Q
theorem r_129_41 (ls : a_LS) (st : List Value) (σ : a_HP) (Q : Option Value → a_HP → Prop) : Rn 129 41 ls st σ Q = acR 129 (o_pi (nI 1) 42 ls st σ) ls σ Q := rn_row rfl ls st σ Q
theorem r_129_42 (ls : a_LS) (st : List Value) (σ : a_HP) (Q : Option Value → a_HP → Prop) : Rn 129 42 ls st σ Q = acR 129 (o_ldi 2 43 ls st σ) ls σ Q := rn_row rfl ls st σ Q
theorem r_129_43 (ls : a_LS) (st : List Value) (σ : a_HP) (Q : Option Value → a_HP → Prop) : Rn 129 43 ls st σ Q = acR 129 (o_ias 44 ls st σ) ls σ Q := rn_row rfl ls st σ Q
theorem r_129_44 (ls : a_LS) (st : List Value) (σ : a_HP) (Q : Option Value → a_HP → Prop) : Rn 129 44 ls st σ Q = acR 129 (o_rv ls st σ) ls σ Q := rn_row rfl ls st σ Q
/-! 130: NetLawModel.copies([II[III)V -/
theorem cl_130 (x0 : Nat) (x1 : Int32) (x2 : Nat) (x3 : Int32) (x4 : Int32) (σ : a_HP) (Q : Option Value → a_HP → Prop) : Cl 130 [.ref x0, .int x1, .ref x2, .int x3, .int x4] σ Q = Rn 130 0 [some (.ref x0), some (.int x1), some (.ref x2), some (.int x3), some (.int x4), none] [] σ Q := cl_of (Nat.le_of_ble_eq_true rfl) rfl σ Q
theorem r_130_0 (ls : a_LS) (st : List Value) (σ : a_HP) (Q : Option Value → a_HP → Prop) : Rn 130 0 ls st σ Q = acR 130 (o_pi (nI 0) 1 ls st σ) ls σ Q := rn_row rfl ls st σ Q
theorem r_130_1 (ls : a_LS) (st : List Value) (σ : a_HP) (Q : Option Value → a_HP → Prop) : Rn 130 1 ls st σ Q = acR 130 (o_sti 5 3 ls st σ) ls σ Q := rn_row rfl ls st σ Q
theorem r_130_3 (ls : a_LS) (st : List Value) (σ : a_HP) (Q : Option Value → a_HP → Prop) : Rn 130 3 ls st σ Q = acR 130 (o_ldi 5 5 ls st σ) ls σ Q := rn_row rfl ls st σ Q
theorem r_130_5 (ls : a_LS) (st : List Value) (σ : a_HP) (Q : Option Value → a_HP → Prop) : Rn 130 5 ls st σ Q = acR 130 (o_ldi 4 7 ls st σ) ls σ Q := rn_row rfl ls st σ Q
theorem r_130_7 (ls : a_LS) (st : List Value) (σ : a_HP) (Q : Option Value → a_HP → Prop) : Rn 130 7 ls st σ Q = acR 130 (o_cge 28 10 ls st σ) ls σ Q := rn_row rfl ls st σ Q
theorem r_130_10 (ls : a_LS) (st : List Value) (σ : a_HP) (Q : Option Value → a_HP → Prop) : Rn 130 10 ls st σ Q = acR 130 (o_lda 2 11 ls st σ) ls σ Q := rn_row rfl ls st σ Q
theorem r_130_11 (ls : a_LS) (st : List Value) (σ : a_HP) (Q : Option Value → a_HP → Prop) : Rn 130 11 ls st σ Q = acR 130 (o_ldi 3 12 ls st σ) ls σ Q := rn_row rfl ls st σ Q
theorem r_130_12 (ls : a_LS) (st : List Value) (σ : a_HP) (Q : Option Value → a_HP → Prop) : Rn 130 12 ls st σ Q = acR 130 (o_ldi 5 14 ls st σ) ls σ Q := rn_row rfl ls st σ Q
theorem r_130_14 (ls : a_LS) (st : List Value) (σ : a_HP) (Q : Option Value → a_HP → Prop) : Rn 130 14 ls st σ Q = acR 130 (o_bi f_add 15 ls st σ) ls σ Q := rn_row rfl ls st σ Q
theorem r_130_15 (ls : a_LS) (st : List Value) (σ : a_HP) (Q : Option Value → a_HP → Prop) : Rn 130 15 ls st σ Q = acR 130 (o_lda 0 16 ls st σ) ls σ Q := rn_row rfl ls st σ Q
theorem r_130_16 (ls : a_LS) (st : List Value) (σ : a_HP) (Q : Option Value → a_HP → Prop) : Rn 130 16 ls st σ Q = acR 130 (o_ldi 1 17 ls st σ) ls σ Q := rn_row rfl ls st σ Q
theorem r_130_17 (ls : a_LS) (st : List Value) (σ : a_HP) (Q : Option Value → a_HP → Prop) : Rn 130 17 ls st σ Q = acR 130 (o_ldi 5 19 ls st σ) ls σ Q := rn_row rfl ls st σ Q
theorem r_130_19 (ls : a_LS) (st : List Value) (σ : a_HP) (Q : Option Value → a_HP → Prop) : Rn 130 19 ls st σ Q = acR 130 (o_bi f_add 20 ls st σ) ls σ Q := rn_row rfl ls st σ Q
theorem r_130_20 (ls : a_LS) (st : List Value) (σ : a_HP) (Q : Option Value → a_HP → Prop) : Rn 130 20 ls st σ Q = acR 130 (o_ial 21 ls st σ) ls σ Q := rn_row rfl ls st σ Q
theorem r_130_21 (ls : a_LS) (st : List Value) (σ : a_HP) (Q : Option Value → a_HP → Prop) : Rn 130 21 ls st σ Q = acR 130 (o_ias 22 ls st σ) ls σ Q := rn_row rfl ls st σ Q
theorem r_130_22 (ls : a_LS) (st : List Value) (σ : a_HP) (Q : Option Value → a_HP → Prop) : Rn 130 22 ls st σ Q = acR 130 (o_inc 5 (nI 1) 25 ls st σ) ls σ Q := rn_row rfl ls st σ Q
theorem r_130_25 (ls : a_LS) (st : List Value) (σ : a_HP) (Q : Option Value → a_HP → Prop) : Rn 130 25 ls st σ Q = acR 130 (o_go 3 ls st σ) ls σ Q := rn_row rfl ls st σ Q
theorem r_130_28 (ls : a_LS) (st : List Value) (σ : a_HP) (Q : Option Value → a_HP → Prop) : Rn 130 28 ls st σ Q = acR 130 (o_rv ls st σ) ls σ Q := rn_row rfl ls st σ Q
/-! 131: NetLawModel.knots([I)I -/
theorem cl_131 (x0 : Nat) (σ : a_HP) (Q : Option Value → a_HP → Prop) : Cl 131 [.ref x0] σ Q = Rn 131 0 [some (.ref x0), none, none] [] σ Q := cl_of (Nat.le_of_ble_eq_true rfl) rfl σ Q
theorem r_131_0 (ls : a_LS) (st : List Value) (σ : a_HP) (Q : Option Value → a_HP → Prop) : Rn 131 0 ls st σ Q = acR 131 (o_pi (nI 0) 1 ls st σ) ls σ Q := rn_row rfl ls st σ Q
theorem r_131_1 (ls : a_LS) (st : List Value) (σ : a_HP) (Q : Option Value → a_HP → Prop) : Rn 131 1 ls st σ Q = acR 131 (o_sti 1 2 ls st σ) ls σ Q := rn_row rfl ls st σ Q
theorem r_131_2 (ls : a_LS) (st : List Value) (σ : a_HP) (Q : Option Value → a_HP → Prop) : Rn 131 2 ls st σ Q = acR 131 (o_pi (nI 0) 3 ls st σ) ls σ Q := rn_row rfl ls st σ Q
theorem r_131_3 (ls : a_LS) (st : List Value) (σ : a_HP) (Q : Option Value → a_HP → Prop) : Rn 131 3 ls st σ Q = acR 131 (o_sti 2 4 ls st σ) ls σ Q := rn_row rfl ls st σ Q
theorem r_131_4 (ls : a_LS) (st : List Value) (σ : a_HP) (Q : Option Value → a_HP → Prop) : Rn 131 4 ls st σ Q = acR 131 (o_ldi 2 5 ls st σ) ls σ Q := rn_row rfl ls st σ Q
theorem r_131_5 (ls : a_LS) (st : List Value) (σ : a_HP) (Q : Option Value → a_HP → Prop) : Rn 131 5 ls st σ Q = acR 131 (o_pi (nI 16) 7 ls st σ) ls σ Q := rn_row rfl ls st σ Q
theorem r_131_7 (ls : a_LS) (st : List Value) (σ : a_HP) (Q : Option Value → a_HP → Prop) : Rn 131 7 ls st σ Q = acR 131 (o_cge 33 10 ls st σ) ls σ Q := rn_row rfl ls st σ Q
theorem r_131_10 (ls : a_LS) (st : List Value) (σ : a_HP) (Q : Option Value → a_HP → Prop) : Rn 131 10 ls st σ Q = acR 131 (o_ldi 1 11 ls st σ) ls σ Q := rn_row rfl ls st σ Q
theorem r_131_11 (ls : a_LS) (st : List Value) (σ : a_HP) (Q : Option Value → a_HP → Prop) : Rn 131 11 ls st σ Q = acR 131 (o_lda 0 12 ls st σ) ls σ Q := rn_row rfl ls st σ Q
theorem r_131_12 (ls : a_LS) (st : List Value) (σ : a_HP) (Q : Option Value → a_HP → Prop) : Rn 131 12 ls st σ Q = acR 131 (o_pi (nI 20) 14 ls st σ) ls σ Q := rn_row rfl ls st σ Q
theorem r_131_14 (ls : a_LS) (st : List Value) (σ : a_HP) (Q : Option Value → a_HP → Prop) : Rn 131 14 ls st σ Q = acR 131 (o_ldi 2 15 ls st σ) ls σ Q := rn_row rfl ls st σ Q
theorem r_131_15 (ls : a_LS) (st : List Value) (σ : a_HP) (Q : Option Value → a_HP → Prop) : Rn 131 15 ls st σ Q = acR 131 (o_bi f_add 16 ls st σ) ls σ Q := rn_row rfl ls st σ Q
theorem r_131_16 (ls : a_LS) (st : List Value) (σ : a_HP) (Q : Option Value → a_HP → Prop) : Rn 131 16 ls st σ Q = acR 131 (o_ial 17 ls st σ) ls σ Q := rn_row rfl ls st σ Q
theorem r_131_17 (ls : a_LS) (st : List Value) (σ : a_HP) (Q : Option Value → a_HP → Prop) : Rn 131 17 ls st σ Q = acR 131 (o_le 24 20 ls st σ) ls σ Q := rn_row rfl ls st σ Q
theorem r_131_20 (ls : a_LS) (st : List Value) (σ : a_HP) (Q : Option Value → a_HP → Prop) : Rn 131 20 ls st σ Q = acR 131 (o_pi (nI 1) 21 ls st σ) ls σ Q := rn_row rfl ls st σ Q
theorem r_131_21 (ls : a_LS) (st : List Value) (σ : a_HP) (Q : Option Value → a_HP → Prop) : Rn 131 21 ls st σ Q = acR 131 (o_go 25 ls st σ) ls σ Q := rn_row rfl ls st σ Q
theorem r_131_24 (ls : a_LS) (st : List Value) (σ : a_HP) (Q : Option Value → a_HP → Prop) : Rn 131 24 ls st σ Q = acR 131 (o_pi (nI 0) 25 ls st σ) ls σ Q := rn_row rfl ls st σ Q
theorem r_131_25 (ls : a_LS) (st : List Value) (σ : a_HP) (Q : Option Value → a_HP → Prop) : Rn 131 25 ls st σ Q = acR 131 (o_bi f_add 26 ls st σ) ls σ Q := rn_row rfl ls st σ Q
theorem r_131_26 (ls : a_LS) (st : List Value) (σ : a_HP) (Q : Option Value → a_HP → Prop) : Rn 131 26 ls st σ Q = acR 131 (o_sti 1 27 ls st σ) ls σ Q := rn_row rfl ls st σ Q
theorem r_131_27 (ls : a_LS) (st : List Value) (σ : a_HP) (Q : Option Value → a_HP → Prop) : Rn 131 27 ls st σ Q = acR 131 (o_inc 2 (nI 1) 30 ls st σ) ls σ Q := rn_row rfl ls st σ Q
theorem r_131_30 (ls : a_LS) (st : List Value) (σ : a_HP) (Q : Option Value → a_HP → Prop) : Rn 131 30 ls st σ Q = acR 131 (o_go 4 ls st σ) ls σ Q := rn_row rfl ls st σ Q
theorem r_131_33 (ls : a_LS) (st : List Value) (σ : a_HP) (Q : Option Value → a_HP → Prop) : Rn 131 33 ls st σ Q = acR 131 (o_ldi 1 34 ls st σ) ls σ Q := rn_row rfl ls st σ Q
theorem r_131_34 (ls : a_LS) (st : List Value) (σ : a_HP) (Q : Option Value → a_HP → Prop) : Rn 131 34 ls st σ Q = acR 131 (o_ri ls st σ) ls σ Q := rn_row rfl ls st σ Q
/-! 132: NetLawModel.rightOf([II)I -/
theorem cl_132 (x0 : Nat) (x1 : Int32) (σ : a_HP) (Q : Option Value → a_HP → Prop) : Cl 132 [.ref x0, .int x1] σ Q = Rn 132 0 [some (.ref x0), some (.int x1)] [] σ Q := cl_of (Nat.le_of_ble_eq_true rfl) rfl σ Q
theorem r_132_0 (ls : a_LS) (st : List Value) (σ : a_HP) (Q : Option Value → a_HP → Prop) : Rn 132 0 ls st σ Q = acR 132 (o_ldi 1 1 ls st σ) ls σ Q := rn_row rfl ls st σ Q
theorem r_132_1 (ls : a_LS) (st : List Value) (σ : a_HP) (Q : Option Value → a_HP → Prop) : Rn 132 1 ls st σ Q = acR 132 (o_pi (nI 4) 2 ls st σ) ls σ Q := rn_row rfl ls st σ Q
theorem r_132_2 (ls : a_LS) (st : List Value) (σ : a_HP) (Q : Option Value → a_HP → Prop) : Rn 132 2 ls st σ Q = acR 132 (o_bd f_rem 3 ls st σ) ls σ Q := rn_row rfl ls st σ Q
theorem r_132_3 (ls : a_LS) (st : List Value) (σ : a_HP) (Q : Option Value → a_HP → Prop) : Rn 132 3 ls st σ Q = acR 132 (o_pi (nI 3) 4 ls st σ) ls σ Q := rn_row rfl ls st σ Q
theorem r_132_4 (ls : a_LS) (st : List Value) (σ : a_HP) (Q : Option Value → a_HP → Prop) : Rn 132 4 ls st σ Q = acR 132 (o_cne 11 7 ls st σ) ls σ Q := rn_row rfl ls st σ Q
theorem r_132_7 (ls : a_LS) (st : List Value) (σ : a_HP) (Q : Option Value → a_HP → Prop) : Rn 132 7 ls st σ Q = acR 132 (o_pi (nI 0) 8 ls st σ) ls σ Q := rn_row rfl ls st σ Q
theorem r_132_8 (ls : a_LS) (st : List Value) (σ : a_HP) (Q : Option Value → a_HP → Prop) : Rn 132 8 ls st σ Q = acR 132 (o_go 19 ls st σ) ls σ Q := rn_row rfl ls st σ Q
theorem r_132_11 (ls : a_LS) (st : List Value) (σ : a_HP) (Q : Option Value → a_HP → Prop) : Rn 132 11 ls st σ Q = acR 132 (o_lda 0 12 ls st σ) ls σ Q := rn_row rfl ls st σ Q
theorem r_132_12 (ls : a_LS) (st : List Value) (σ : a_HP) (Q : Option Value → a_HP → Prop) : Rn 132 12 ls st σ Q = acR 132 (o_pi (nI 20) 14 ls st σ) ls σ Q := rn_row rfl ls st σ Q
theorem r_132_14 (ls : a_LS) (st : List Value) (σ : a_HP) (Q : Option Value → a_HP → Prop) : Rn 132 14 ls st σ Q = acR 132 (o_ldi 1 15 ls st σ) ls σ Q := rn_row rfl ls st σ Q
theorem r_132_15 (ls : a_LS) (st : List Value) (σ : a_HP) (Q : Option Value → a_HP → Prop) : Rn 132 15 ls st σ Q = acR 132 (o_bi f_add 16 ls st σ) ls σ Q := rn_row rfl ls st σ Q
theorem r_132_16 (ls : a_LS) (st : List Value) (σ : a_HP) (Q : Option Value → a_HP → Prop) : Rn 132 16 ls st σ Q = acR 132 (o_pi (nI 1) 17 ls st σ) ls σ Q := rn_row rfl ls st σ Q
theorem r_132_17 (ls : a_LS) (st : List Value) (σ : a_HP) (Q : Option Value → a_HP → Prop) : Rn 132 17 ls st σ Q = acR 132 (o_bi f_add 18 ls st σ) ls σ Q := rn_row rfl ls st σ Q
theorem r_132_18 (ls : a_LS) (st : List Value) (σ : a_HP) (Q : Option Value → a_HP → Prop) : Rn 132 18 ls st σ Q = acR 132 (o_ial 19 ls st σ) ls σ Q := rn_row rfl ls st σ Q
theorem r_132_19 (ls : a_LS) (st : List Value) (σ : a_HP) (Q : Option Value → a_HP → Prop) : Rn 132 19 ls st σ Q = acR 132 (o_ri ls st σ) ls σ Q := rn_row rfl ls st σ Q
/-! 133: NetLawModel.holding(IIII)I -/
theorem cl_133 (x0 : Int32) (x1 : Int32) (x2 : Int32) (x3 : Int32) (σ : a_HP) (Q : Option Value → a_HP → Prop) : Cl 133 [.int x0, .int x1, .int x2, .int x3] σ Q = Rn 133 0 [some (.int x0), some (.int x1), some (.int x2), some (.int x3), none] [] σ Q := cl_of (Nat.le_of_ble_eq_true rfl) rfl σ Q
theorem r_133_0 (ls : a_LS) (st : List Value) (σ : a_HP) (Q : Option Value → a_HP → Prop) : Rn 133 0 ls st σ Q = acR 133 (o_ldi 1 1 ls st σ) ls σ Q := rn_row rfl ls st σ Q
theorem r_133_1 (ls : a_LS) (st : List Value) (σ : a_HP) (Q : Option Value → a_HP → Prop) : Rn 133 1 ls st σ Q = acR 133 (o_ne 6 4 ls st σ) ls σ Q := rn_row rfl ls st σ Q
theorem r_133_4 (ls : a_LS) (st : List Value) (σ : a_HP) (Q : Option Value → a_HP → Prop) : Rn 133 4 ls st σ Q = acR 133 (o_pi (nI 0) 5 ls st σ) ls σ Q := rn_row rfl ls st σ Q
theorem r_133_5 (ls : a_LS) (st : List Value) (σ : a_HP) (Q : Option Value → a_HP → Prop) : Rn 133 5 ls st σ Q = acR 133 (o_ri ls st σ) ls σ Q := rn_row rfl ls st σ Q
theorem r_133_6 (ls : a_LS) (st : List Value) (σ : a_HP) (Q : Option Value → a_HP → Prop) : Rn 133 6 ls st σ Q = acR 133 (o_ldi 1 7 ls st σ) ls σ Q := rn_row rfl ls st σ Q
theorem r_133_7 (ls : a_LS) (st : List Value) (σ : a_HP) (Q : Option Value → a_HP → Prop) : Rn 133 7 ls st σ Q = acR 133 (o_ldi 2 8 ls st σ) ls σ Q := rn_row rfl ls st σ Q
theorem r_133_8 (ls : a_LS) (st : List Value) (σ : a_HP) (Q : Option Value → a_HP → Prop) : Rn 133 8 ls st σ Q = acR 133 (o_bi f_sub 9 ls st σ) ls σ Q := rn_row rfl ls st σ Q
theorem r_133_9 (ls : a_LS) (st : List Value) (σ : a_HP) (Q : Option Value → a_HP → Prop) : Rn 133 9 ls st σ Q = acR 133 (o_sti 4 11 ls st σ) ls σ Q := rn_row rfl ls st σ Q
theorem r_133_11 (ls : a_LS) (st : List Value) (σ : a_HP) (Q : Option Value → a_HP → Prop) : Rn 133 11 ls st σ Q = acR 133 (o_ldi 0 12 ls st σ) ls σ Q := rn_row rfl ls st σ Q
theorem r_133_12 (ls : a_LS) (st : List Value) (σ : a_HP) (Q : Option Value → a_HP → Prop) : Rn 133 12 ls st σ Q = acR 133 (o_sw [((nI 0), 48), ((nI 1), 51), ((nI 2), 53), ((nI 3), 58), ((nI 4), 64)] 75 ls st σ) ls σ Q := rn_row rfl ls st σ Q
theorem r_133_48 (ls : a_LS) (st : List Value) (σ : a_HP) (Q : Option Value → a_HP → Prop) : Rn 133 48 ls st σ Q = acR 133 (o_ldi 4 50 ls st σ) ls σ Q := rn_row rfl ls st σ Q
theorem r_133_50 (ls : a_LS) (st : List Value) (σ : a_HP) (Q : Option Value → a_HP → Prop) : Rn 133 50 ls st σ Q = acR 133 (o_ri ls st σ) ls σ Q := rn_row rfl ls st σ Q
theorem r_133_51 (ls : a_LS) (st : List Value) (σ : a_HP) (Q : Option Value → a_HP → Prop) : Rn 133 51 ls st σ Q = acR 133 (o_ldi 1 52 ls st σ) ls σ Q := rn_row rfl ls st σ Q
theorem r_133_52 (ls : a_LS) (st : List Value) (σ : a_HP) (Q : Option Value → a_HP → Prop) : Rn 133 52 ls st σ Q = acR 133 (o_ri ls st σ) ls σ Q := rn_row rfl ls st σ Q
theorem r_133_53 (ls : a_LS) (st : List Value) (σ : a_HP) (Q : Option Value → a_HP → Prop) : Rn 133 53 ls st σ Q = acR 133 (o_pi (nI 2) 54 ls st σ) ls σ Q := rn_row rfl ls st σ Q
theorem r_133_54 (ls : a_LS) (st : List Value) (σ : a_HP) (Q : Option Value → a_HP → Prop) : Rn 133 54 ls st σ Q = acR 133 (o_ldi 4 56 ls st σ) ls σ Q := rn_row rfl ls st σ Q
theorem r_133_56 (ls : a_LS) (st : List Value) (σ : a_HP) (Q : Option Value → a_HP → Prop) : Rn 133 56 ls st σ Q = acR 133 (o_bi f_mul 57 ls st σ) ls σ Q := rn_row rfl ls st σ Q
theorem r_133_57 (ls : a_LS) (st : List Value) (σ : a_HP) (Q : Option Value → a_HP → Prop) : Rn 133 57 ls st σ Q = acR 133 (o_ri ls st σ) ls σ Q := rn_row rfl ls st σ Q
theorem r_133_58 (ls : a_LS) (st : List Value) (σ : a_HP) (Q : Option Value → a_HP → Prop) : Rn 133 58 ls st σ Q = acR 133 (o_ldi 1 59 ls st σ) ls σ Q := rn_row rfl ls st σ Q
theorem r_133_59 (ls : a_LS) (st : List Value) (σ : a_HP) (Q : Option Value → a_HP → Prop) : Rn 133 59 ls st σ Q = acR 133 (o_pi (nI 1) 60 ls st σ) ls σ Q := rn_row rfl ls st σ Q
theorem r_133_60 (ls : a_LS) (st : List Value) (σ : a_HP) (Q : Option Value → a_HP → Prop) : Rn 133 60 ls st σ Q = acR 133 (o_bi f_add 61 ls st σ) ls σ Q := rn_row rfl ls st σ Q
theorem r_133_61 (ls : a_LS) (st : List Value) (σ : a_HP) (Q : Option Value → a_HP → Prop) : Rn 133 61 ls st σ Q = acR 133 (o_pi (nI 2) 62 ls st σ) ls σ Q := rn_row rfl ls st σ Q
theorem r_133_62 (ls : a_LS) (st : List Value) (σ : a_HP) (Q : Option Value → a_HP → Prop) : Rn 133 62 ls st σ Q = acR 133 (o_bd f_div 63 ls st σ) ls σ Q := rn_row rfl ls st σ Q
theorem r_133_63 (ls : a_LS) (st : List Value) (σ : a_HP) (Q : Option Value → a_HP → Prop) : Rn 133 63 ls st σ Q = acR 133 (o_ri ls st σ) ls σ Q := rn_row rfl ls st σ Q
theorem r_133_64 (ls : a_LS) (st : List Value) (σ : a_HP) (Q : Option Value → a_HP → Prop) : Rn 133 64 ls st σ Q = acR 133 (o_pi (nI 2) 65 ls st σ) ls σ Q := rn_row rfl ls st σ Q
theorem r_133_65 (ls : a_LS) (st : List Value) (σ : a_HP) (Q : Option Value → a_HP → Prop) : Rn 133 65 ls st σ Q = acR 133 (o_ldi 4 67 ls st σ) ls σ Q := rn_row rfl ls st σ Q
theorem r_133_67 (ls : a_LS) (st : List Value) (σ : a_HP) (Q : Option Value → a_HP → Prop) : Rn 133 67 ls st σ Q = acR 133 (o_bi f_mul 68 ls st σ) ls σ Q := rn_row rfl ls st σ Q
theorem r_133_68 (ls : a_LS) (st : List Value) (σ : a_HP) (Q : Option Value → a_HP → Prop) : Rn 133 68 ls st σ Q = acR 133 (o_pi (nI 3) 69 ls st σ) ls σ Q := rn_row rfl ls st σ Q
theorem r_133_69 (ls : a_LS) (st : List Value) (σ : a_HP) (Q : Option Value → a_HP → Prop) : Rn 133 69 ls st σ Q = acR 133 (o_bi f_add 70 ls st σ) ls σ Q := rn_row rfl ls st σ Q
theorem r_133_70 (ls : a_LS) (st : List Value) (σ : a_HP) (Q : Option Value → a_HP → Prop) : Rn 133 70 ls st σ Q = acR 133 (o_pi (nI 3) 71 ls st σ) ls σ Q := rn_row rfl ls st σ Q
theorem r_133_71 (ls : a_LS) (st : List Value) (σ : a_HP) (Q : Option Value → a_HP → Prop) : Rn 133 71 ls st σ Q = acR 133 (o_ldi 2 72 ls st σ) ls σ Q := rn_row rfl ls st σ Q
theorem r_133_72 (ls : a_LS) (st : List Value) (σ : a_HP) (Q : Option Value → a_HP → Prop) : Rn 133 72 ls st σ Q = acR 133 (o_bi f_mul 73 ls st σ) ls σ Q := rn_row rfl ls st σ Q
theorem r_133_73 (ls : a_LS) (st : List Value) (σ : a_HP) (Q : Option Value → a_HP → Prop) : Rn 133 73 ls st σ Q = acR 133 (o_bi f_sub 74 ls st σ) ls σ Q := rn_row rfl ls st σ Q
theorem r_133_74 (ls : a_LS) (st : List Value) (σ : a_HP) (Q : Option Value → a_HP → Prop) : Rn 133 74 ls st σ Q = acR 133 (o_ri ls st σ) ls σ Q := rn_row rfl ls st σ Q
theorem r_133_75 (ls : a_LS) (st : List Value) (σ : a_HP) (Q : Option Value → a_HP → Prop) : Rn 133 75 ls st σ Q = acR 133 (o_ldi 4 77 ls st σ) ls σ Q := rn_row rfl ls st σ Q
theorem r_133_77 (ls : a_LS) (st : List Value) (σ : a_HP) (Q : Option Value → a_HP → Prop) : Rn 133 77 ls st σ Q = acR 133 (o_ldi 3 78 ls st σ) ls σ Q := rn_row rfl ls st σ Q
theorem r_133_78 (ls : a_LS) (st : List Value) (σ : a_HP) (Q : Option Value → a_HP → Prop) : Rn 133 78 ls st σ Q = acR 133 (o_pi (nI 2) 79 ls st σ) ls σ Q := rn_row rfl ls st σ Q
theorem r_133_79 (ls : a_LS) (st : List Value) (σ : a_HP) (Q : Option Value → a_HP → Prop) : Rn 133 79 ls st σ Q = acR 133 (o_bd f_div 80 ls st σ) ls σ Q := rn_row rfl ls st σ Q
theorem r_133_80 (ls : a_LS) (st : List Value) (σ : a_HP) (Q : Option Value → a_HP → Prop) : Rn 133 80 ls st σ Q = acR 133 (o_bi f_add 81 ls st σ) ls σ Q := rn_row rfl ls st σ Q
theorem r_133_81 (ls : a_LS) (st : List Value) (σ : a_HP) (Q : Option Value → a_HP → Prop) : Rn 133 81 ls st σ Q = acR 133 (o_ri ls st σ) ls σ Q := rn_row rfl ls st σ Q
/-! 134: NetLawModel.holds([II)I -/
theorem cl_134 (x0 : Nat) (x1 : Int32) (σ : a_HP) (Q : Option Value → a_HP → Prop) : Cl 134 [.ref x0, .int x1] σ Q = Rn 134 0 [some (.ref x0), some (.int x1)] [] σ Q := cl_of (Nat.le_of_ble_eq_true rfl) rfl σ Q
theorem r_134_0 (ls : a_LS) (st : List Value) (σ : a_HP) (Q : Option Value → a_HP → Prop) : Rn 134 0 ls st σ Q = acR 134 (o_lda 0 1 ls st σ) ls σ Q := rn_row rfl ls st σ Q
theorem r_134_1 (ls : a_LS) (st : List Value) (σ : a_HP) (Q : Option Value → a_HP → Prop) : Rn 134 1 ls st σ Q = acR 134 (o_pi (nI 4) 2 ls st σ) ls σ Q := rn_row rfl ls st σ Q
theorem r_134_2 (ls : a_LS) (st : List Value) (σ : a_HP) (Q : Option Value → a_HP → Prop) : Rn 134 2 ls st σ Q = acR 134 (o_ldi 1 3 ls st σ) ls σ Q := rn_row rfl ls st σ Q
theorem r_134_3 (ls : a_LS) (st : List Value) (σ : a_HP) (Q : Option Value → a_HP → Prop) : Rn 134 3 ls st σ Q = acR 134 (o_bi f_add 4 ls st σ) ls σ Q := rn_row rfl ls st σ Q
theorem r_134_4 (ls : a_LS) (st : List Value) (σ : a_HP) (Q : Option Value → a_HP → Prop) : Rn 134 4 ls st σ Q = acR 134 (o_ial 5 ls st σ) ls σ Q := rn_row rfl ls st σ Q
theorem r_134_5 (ls : a_LS) (st : List Value) (σ : a_HP) (Q : Option Value → a_HP → Prop) : Rn 134 5 ls st σ Q = acR 134 (o_lda 0 6 ls st σ) ls σ Q := rn_row rfl ls st σ Q
theorem r_134_6 (ls : a_LS) (st : List Value) (σ : a_HP) (Q : Option Value → a_HP → Prop) : Rn 134 6 ls st σ Q = acR 134 (o_pi (nI 20) 8 ls st σ) ls σ Q := rn_row rfl ls st σ Q
theorem r_134_8 (ls : a_LS) (st : List Value) (σ : a_HP) (Q : Option Value → a_HP → Prop) : Rn 134 8 ls st σ Q = acR 134 (o_ldi 1 9 ls st σ) ls σ Q := rn_row rfl ls st σ Q
theorem r_134_9 (ls : a_LS) (st : List Value) (σ : a_HP) (Q : Option Value → a_HP → Prop) : Rn 134 9 ls st σ Q = acR 134 (o_bi f_add 10 ls st σ) ls σ Q := rn_row rfl ls st σ Q
theorem r_134_10 (ls : a_LS) (st : List Value) (σ : a_HP) (Q : Option Value → a_HP → Prop) : Rn 134 10 ls st σ Q = acR 134 (o_ial 11 ls st σ) ls σ Q := rn_row rfl ls st σ Q
theorem r_134_11 (ls : a_LS) (st : List Value) (σ : a_HP) (Q : Option Value → a_HP → Prop) : Rn 134 11 ls st σ Q = acR 134 (o_lda 0 12 ls st σ) ls σ Q := rn_row rfl ls st σ Q
theorem r_134_12 (ls : a_LS) (st : List Value) (σ : a_HP) (Q : Option Value → a_HP → Prop) : Rn 134 12 ls st σ Q = acR 134 (o_pi (nI 0) 13 ls st σ) ls σ Q := rn_row rfl ls st σ Q
theorem r_134_13 (ls : a_LS) (st : List Value) (σ : a_HP) (Q : Option Value → a_HP → Prop) : Rn 134 13 ls st σ Q = acR 134 (o_ial 14 ls st σ) ls σ Q := rn_row rfl ls st σ Q
theorem r_134_14 (ls : a_LS) (st : List Value) (σ : a_HP) (Q : Option Value → a_HP → Prop) : Rn 134 14 ls st σ Q = acR 134 (o_lda 0 15 ls st σ) ls σ Q := rn_row rfl ls st σ Q
theorem r_134_15 (ls : a_LS) (st : List Value) (σ : a_HP) (Q : Option Value → a_HP → Prop) : Rn 134 15 ls st σ Q = acR 134 (o_ldi 1 16 ls st σ) ls σ Q := rn_row rfl ls st σ Q
theorem r_134_16 (ls : a_LS) (st : List Value) (σ : a_HP) (Q : Option Value → a_HP → Prop) : Rn 134 16 ls st σ Q = acR 134 (o_ivs 132 2 19 ls st σ) ls σ Q := rn_row rfl ls st σ Q
theorem r_134_19 (ls : a_LS) (st : List Value) (σ : a_HP) (Q : Option Value → a_HP → Prop) : Rn 134 19 ls st σ Q = acR 134 (o_ivs 133 4 22 ls st σ) ls σ Q := rn_row rfl ls st σ Q
theorem r_134_22 (ls : a_LS) (st : List Value) (σ : a_HP) (Q : Option Value → a_HP → Prop) : Rn 134 22 ls st σ Q = acR 134 (o_ri ls st σ) ls σ Q := rn_row rfl ls st σ Q
/-! 135: NetLawModel.rots(II)I -/
theorem cl_135 (x0 : Int32) (x1 : Int32) (σ : a_HP) (Q : Option Value → a_HP → Prop) : Cl 135 [.int x0, .int x1] σ Q = Rn 135 0 [some (.int x0), some (.int x1)] [] σ Q := cl_of (Nat.le_of_ble_eq_true rfl) rfl σ Q
theorem r_135_0 (ls : a_LS) (st : List Value) (σ : a_HP) (Q : Option Value → a_HP → Prop) : Rn 135 0 ls st σ Q = acR 135 (o_ldi 0 1 ls st σ) ls σ Q := rn_row rfl ls st σ Q
theorem r_135_1 (ls : a_LS) (st : List Value) (σ : a_HP) (Q : Option Value → a_HP → Prop) : Rn 135 1 ls st σ Q = acR 135 (o_sw [((nI 1), 32), ((nI 2), 36), ((nI 3), 32), ((nI 4), 38)] 50 ls st σ) ls σ Q := rn_row rfl ls st σ Q
theorem r_135_32 (ls : a_LS) (st : List Value) (σ : a_HP) (Q : Option Value → a_HP → Prop) : Rn 135 32 ls st σ Q = acR 135 (o_ldi 1 33 ls st σ) ls σ Q := rn_row rfl ls st σ Q
theorem r_135_33 (ls : a_LS) (st : List Value) (σ : a_HP) (Q : Option Value → a_HP → Prop) : Rn 135 33 ls st σ Q = acR 135 (o_pi (nI 2) 34 ls st σ) ls σ Q := rn_row rfl ls st σ Q
theorem r_135_34 (ls : a_LS) (st : List Value) (σ : a_HP) (Q : Option Value → a_HP → Prop) : Rn 135 34 ls st σ Q = acR 135 (o_bd f_rem 35 ls st σ) ls σ Q := rn_row rfl ls st σ Q
theorem r_135_35 (ls : a_LS) (st : List Value) (σ : a_HP) (Q : Option Value → a_HP → Prop) : Rn 135 35 ls st σ Q = acR 135 (o_ri ls st σ) ls σ Q := rn_row rfl ls st σ Q
theorem r_135_36 (ls : a_LS) (st : List Value) (σ : a_HP) (Q : Option Value → a_HP → Prop) : Rn 135 36 ls st σ Q = acR 135 (o_pi (nI 2) 37 ls st σ) ls σ Q := rn_row rfl ls st σ Q
theorem r_135_37 (ls : a_LS) (st : List Value) (σ : a_HP) (Q : Option Value → a_HP → Prop) : Rn 135 37 ls st σ Q = acR 135 (o_ri ls st σ) ls σ Q := rn_row rfl ls st σ Q
theorem r_135_38 (ls : a_LS) (st : List Value) (σ : a_HP) (Q : Option Value → a_HP → Prop) : Rn 135 38 ls st σ Q = acR 135 (o_ldi 1 39 ls st σ) ls σ Q := rn_row rfl ls st σ Q
theorem r_135_39 (ls : a_LS) (st : List Value) (σ : a_HP) (Q : Option Value → a_HP → Prop) : Rn 135 39 ls st σ Q = acR 135 (o_pi (nI 3) 40 ls st σ) ls σ Q := rn_row rfl ls st σ Q
theorem r_135_40 (ls : a_LS) (st : List Value) (σ : a_HP) (Q : Option Value → a_HP → Prop) : Rn 135 40 ls st σ Q = acR 135 (o_bd f_rem 41 ls st σ) ls σ Q := rn_row rfl ls st σ Q
theorem r_135_41 (ls : a_LS) (st : List Value) (σ : a_HP) (Q : Option Value → a_HP → Prop) : Rn 135 41 ls st σ Q = acR 135 (o_ne 48 44 ls st σ) ls σ Q := rn_row rfl ls st σ Q
theorem r_135_44 (ls : a_LS) (st : List Value) (σ : a_HP) (Q : Option Value → a_HP → Prop) : Rn 135 44 ls st σ Q = acR 135 (o_pi (nI 2) 45 ls st σ) ls σ Q := rn_row rfl ls st σ Q
theorem r_135_45 (ls : a_LS) (st : List Value) (σ : a_HP) (Q : Option Value → a_HP → Prop) : Rn 135 45 ls st σ Q = acR 135 (o_go 49 ls st σ) ls σ Q := rn_row rfl ls st σ Q
theorem r_135_48 (ls : a_LS) (st : List Value) (σ : a_HP) (Q : Option Value → a_HP → Prop) : Rn 135 48 ls st σ Q = acR 135 (o_pi (nI 1) 49 ls st σ) ls σ Q := rn_row rfl ls st σ Q
theorem r_135_49 (ls : a_LS) (st : List Value) (σ : a_HP) (Q : Option Value → a_HP → Prop) : Rn 135 49 ls st σ Q = acR 135 (o_ri ls st σ) ls σ Q := rn_row rfl ls st σ Q
theorem r_135_50 (ls : a_LS) (st : List Value) (σ : a_HP) (Q : Option Value → a_HP → Prop) : Rn 135 50 ls st σ Q = acR 135 (o_pi (nI 1) 51 ls st σ) ls σ Q := rn_row rfl ls st σ Q
theorem r_135_51 (ls : a_LS) (st : List Value) (σ : a_HP) (Q : Option Value → a_HP → Prop) : Rn 135 51 ls st σ Q = acR 135 (o_ri ls st σ) ls σ Q := rn_row rfl ls st σ Q
/-! 136: NetLawModel.corner(II)I -/
theorem cl_136 (x0 : Int32) (x1 : Int32) (σ : a_HP) (Q : Option Value → a_HP → Prop) : Cl 136 [.int x0, .int x1] σ Q = Rn 136 0 [some (.int x0), some (.int x1)] [] σ Q := cl_of (Nat.le_of_ble_eq_true rfl) rfl σ Q
theorem r_136_0 (ls : a_LS) (st : List Value) (σ : a_HP) (Q : Option Value → a_HP → Prop) : Rn 136 0 ls st σ Q = acR 136 (o_pi (nI 4) 1 ls st σ) ls σ Q := rn_row rfl ls st σ Q
theorem r_136_1 (ls : a_LS) (st : List Value) (σ : a_HP) (Q : Option Value → a_HP → Prop) : Rn 136 1 ls st σ Q = acR 136 (o_ldi 0 2 ls st σ) ls σ Q := rn_row rfl ls st σ Q
theorem r_136_2 (ls : a_LS) (st : List Value) (σ : a_HP) (Q : Option Value → a_HP → Prop) : Rn 136 2 ls st σ Q = acR 136 (o_pi (nI 3) 3 ls st σ) ls σ Q := rn_row rfl ls st σ Q
theorem r_136_3 (ls : a_LS) (st : List Value) (σ : a_HP) (Q : Option Value → a_HP → Prop) : Rn 136 3 ls st σ Q = acR 136 (o_bd f_div 4 ls st σ) ls σ Q := rn_row rfl ls st σ Q
theorem r_136_4 (ls : a_LS) (st : List Value) (σ : a_HP) (Q : Option Value → a_HP → Prop) : Rn 136 4 ls st σ Q = acR 136 (o_ldi 1 5 ls st σ) ls σ Q := rn_row rfl ls st σ Q
theorem r_136_5 (ls : a_LS) (st : List Value) (σ : a_HP) (Q : Option Value → a_HP → Prop) : Rn 136 5 ls st σ Q = acR 136 (o_pi (nI 2) 6 ls st σ) ls σ Q := rn_row rfl ls st σ Q
theorem r_136_6 (ls : a_LS) (st : List Value) (σ : a_HP) (Q : Option Value → a_HP → Prop) : Rn 136 6 ls st σ Q = acR 136 (o_bd f_div 7 ls st σ) ls σ Q := rn_row rfl ls st σ Q
theorem r_136_7 (ls : a_LS) (st : List Value) (σ : a_HP) (Q : Option Value → a_HP → Prop) : Rn 136 7 ls st σ Q = acR 136 (o_bi f_add 8 ls st σ) ls σ Q := rn_row rfl ls st σ Q
theorem r_136_8 (ls : a_LS) (st : List Value) (σ : a_HP) (Q : Option Value → a_HP → Prop) : Rn 136 8 ls st σ Q = acR 136 (o_bi f_mul 9 ls st σ) ls σ Q := rn_row rfl ls st σ Q
theorem r_136_9 (ls : a_LS) (st : List Value) (σ : a_HP) (Q : Option Value → a_HP → Prop) : Rn 136 9 ls st σ Q = acR 136 (o_ldi 0 10 ls st σ) ls σ Q := rn_row rfl ls st σ Q
theorem r_136_10 (ls : a_LS) (st : List Value) (σ : a_HP) (Q : Option Value → a_HP → Prop) : Rn 136 10 ls st σ Q = acR 136 (o_pi (nI 3) 11 ls st σ) ls σ Q := rn_row rfl ls st σ Q
theorem r_136_11 (ls : a_LS) (st : List Value) (σ : a_HP) (Q : Option Value → a_HP → Prop) : Rn 136 11 ls st σ Q = acR 136 (o_bd f_rem 12 ls st σ) ls σ Q := rn_row rfl ls st σ Q
theorem r_136_12 (ls : a_LS) (st : List Value) (σ : a_HP) (Q : Option Value → a_HP → Prop) : Rn 136 12 ls st σ Q = acR 136 (o_bi f_add 13 ls st σ) ls σ Q := rn_row rfl ls st σ Q
theorem r_136_13 (ls : a_LS) (st : List Value) (σ : a_HP) (Q : Option Value → a_HP → Prop) : Rn 136 13 ls st σ Q = acR 136 (o_ldi 1 14 ls st σ) ls σ Q := rn_row rfl ls st σ Q
theorem r_136_14 (ls : a_LS) (st : List Value) (σ : a_HP) (Q : Option Value → a_HP → Prop) : Rn 136 14 ls st σ Q = acR 136 (o_pi (nI 2) 15 ls st σ) ls σ Q := rn_row rfl ls st σ Q
theorem r_136_15 (ls : a_LS) (st : List Value) (σ : a_HP) (Q : Option Value → a_HP → Prop) : Rn 136 15 ls st σ Q = acR 136 (o_bd f_rem 16 ls st σ) ls σ Q := rn_row rfl ls st σ Q
theorem r_136_16 (ls : a_LS) (st : List Value) (σ : a_HP) (Q : Option Value → a_HP → Prop) : Rn 136 16 ls st σ Q = acR 136 (o_bi f_add 17 ls st σ) ls σ Q := rn_row rfl ls st σ Q
theorem r_136_17 (ls : a_LS) (st : List Value) (σ : a_HP) (Q : Option Value → a_HP → Prop) : Rn 136 17 ls st σ Q = acR 136 (o_ri ls st σ) ls σ Q := rn_row rfl ls st σ Q
/-! 137: NetLawModel.isAt(II)Z -/
theorem cl_137 (x0 : Int32) (x1 : Int32) (σ : a_HP) (Q : Option Value → a_HP → Prop) : Cl 137 [.int x0, .int x1] σ Q = Rn 137 0 [some (.int x0), some (.int x1), none, none] [] σ Q := cl_of (Nat.le_of_ble_eq_true rfl) rfl σ Q
theorem r_137_0 (ls : a_LS) (st : List Value) (σ : a_HP) (Q : Option Value → a_HP → Prop) : Rn 137 0 ls st σ Q = acR 137 (o_pi (nI 0) 1 ls st σ) ls σ Q := rn_row rfl ls st σ Q
theorem r_137_1 (ls : a_LS) (st : List Value) (σ : a_HP) (Q : Option Value → a_HP → Prop) : Rn 137 1 ls st σ Q = acR 137 (o_sti 2 2 ls st σ) ls σ Q := rn_row rfl ls st σ Q
theorem r_137_2 (ls : a_LS) (st : List Value) (σ : a_HP) (Q : Option Value → a_HP → Prop) : Rn 137 2 ls st σ Q = acR 137 (o_pi (nI 0) 3 ls st σ) ls σ Q := rn_row rfl ls st σ Q
theorem r_137_3 (ls : a_LS) (st : List Value) (σ : a_HP) (Q : Option Value → a_HP → Prop) : Rn 137 3 ls st σ Q = acR 137 (o_sti 3 4 ls st σ) ls σ Q := rn_row rfl ls st σ Q
theorem r_137_4 (ls : a_LS) (st : List Value) (σ : a_HP) (Q : Option Value → a_HP → Prop) : Rn 137 4 ls st σ Q = acR 137 (o_ldi 3 5 ls st σ) ls σ Q := rn_row rfl ls st σ Q
theorem r_137_5 (ls : a_LS) (st : List Value) (σ : a_HP) (Q : Option Value → a_HP → Prop) : Rn 137 5 ls st σ Q = acR 137 (o_pi (nI 4) 6 ls st σ) ls σ Q := rn_row rfl ls st σ Q
theorem r_137_6 (ls : a_LS) (st : List Value) (σ : a_HP) (Q : Option Value → a_HP → Prop) : Rn 137 6 ls st σ Q = acR 137 (o_cge 34 9 ls st σ) ls σ Q := rn_row rfl ls st σ Q
theorem r_137_9 (ls : a_LS) (st : List Value) (σ : a_HP) (Q : Option Value → a_HP → Prop) : Rn 137 9 ls st σ Q = acR 137 (o_ldi 2 10 ls st σ) ls σ Q := rn_row rfl ls st σ Q
theorem r_137_10 (ls : a_LS) (st : List Value) (σ : a_HP) (Q : Option Value → a_HP → Prop) : Rn 137 10 ls st σ Q = acR 137 (o_ne 22 13 ls st σ) ls σ Q := rn_row rfl ls st σ Q
theorem r_137_13 (ls : a_LS) (st : List Value) (σ : a_HP) (Q : Option Value → a_HP → Prop) : Rn 137 13 ls st σ Q = acR 137 (o_ldi 0 14 ls st σ) ls σ Q := rn_row rfl ls st σ Q
theorem r_137_14 (ls : a_LS) (st : List Value) (σ : a_HP) (Q : Option Value → a_HP → Prop) : Rn 137 14 ls st σ Q = acR 137 (o_ldi 3 15 ls st σ) ls σ Q := rn_row rfl ls st σ Q
theorem r_137_15 (ls : a_LS) (st : List Value) (σ : a_HP) (Q : Option Value → a_HP → Prop) : Rn 137 15 ls st σ Q = acR 137 (o_ivs 136 2 18 ls st σ) ls σ Q := rn_row rfl ls st σ Q
theorem r_137_18 (ls : a_LS) (st : List Value) (σ : a_HP) (Q : Option Value → a_HP → Prop) : Rn 137 18 ls st σ Q = acR 137 (o_ldi 1 19 ls st σ) ls σ Q := rn_row rfl ls st σ Q
theorem r_137_19 (ls : a_LS) (st : List Value) (σ : a_HP) (Q : Option Value → a_HP → Prop) : Rn 137 19 ls st σ Q = acR 137 (o_cne 26 22 ls st σ) ls σ Q := rn_row rfl ls st σ Q
theorem r_137_22 (ls : a_LS) (st : List Value) (σ : a_HP) (Q : Option Value → a_HP → Prop) : Rn 137 22 ls st σ Q = acR 137 (o_pi (nI 1) 23 ls st σ) ls σ Q := rn_row rfl ls st σ Q
theorem r_137_23 (ls : a_LS) (st : List Value) (σ : a_HP) (Q : Option Value → a_HP → Prop) : Rn 137 23 ls st σ Q = acR 137 (o_go 27 ls st σ) ls σ Q := rn_row rfl ls st σ Q
theorem r_137_26 (ls : a_LS) (st : List Value) (σ : a_HP) (Q : Option Value → a_HP → Prop) : Rn 137 26 ls st σ Q = acR 137 (o_pi (nI 0) 27 ls st σ) ls σ Q := rn_row rfl ls st σ Q
theorem r_137_27 (ls : a_LS) (st : List Value) (σ : a_HP) (Q : Option Value → a_HP → Prop) : Rn 137 27 ls st σ Q = acR 137 (o_sti 2 28 ls st σ) ls σ Q := rn_row rfl ls st σ Q
theorem r_137_28 (ls : a_LS) (st : List Value) (σ : a_HP) (Q : Option Value → a_HP → Prop) : Rn 137 28 ls st σ Q = acR 137 (o_inc 3 (nI 1) 31 ls st σ) ls σ Q := rn_row rfl ls st σ Q
theorem r_137_31 (ls : a_LS) (st : List Value) (σ : a_HP) (Q : Option Value → a_HP → Prop) : Rn 137 31 ls st σ Q = acR 137 (o_go 4 ls st σ) ls σ Q := rn_row rfl ls st σ Q
theorem r_137_34 (ls : a_LS) (st : List Value) (σ : a_HP) (Q : Option Value → a_HP → Prop) : Rn 137 34 ls st σ Q = acR 137 (o_ldi 2 35 ls st σ) ls σ Q := rn_row rfl ls st σ Q
theorem r_137_35 (ls : a_LS) (st : List Value) (σ : a_HP) (Q : Option Value → a_HP → Prop) : Rn 137 35 ls st σ Q = acR 137 (o_rz ls st σ) ls σ Q := rn_row rfl ls st σ Q
/-! 138: NetLawModel.heldBy([II)I -/
theorem cl_138 (x0 : Nat) (x1 : Int32) (σ : a_HP) (Q : Option Value → a_HP → Prop) : Cl 138 [.ref x0, .int x1] σ Q = Rn 138 0 [some (.ref x0), some (.int x1), none, none] [] σ Q := cl_of (Nat.le_of_ble_eq_true rfl) rfl σ Q
theorem r_138_0 (ls : a_LS) (st : List Value) (σ : a_HP) (Q : Option Value → a_HP → Prop) : Rn 138 0 ls st σ Q = acR 138 (o_pi (nI 0) 1 ls st σ) ls σ Q := rn_row rfl ls st σ Q
theorem r_138_1 (ls : a_LS) (st : List Value) (σ : a_HP) (Q : Option Value → a_HP → Prop) : Rn 138 1 ls st σ Q = acR 138 (o_sti 2 2 ls st σ) ls σ Q := rn_row rfl ls st σ Q
theorem r_138_2 (ls : a_LS) (st : List Value) (σ : a_HP) (Q : Option Value → a_HP → Prop) : Rn 138 2 ls st σ Q = acR 138 (o_pi (nI 0) 3 ls st σ) ls σ Q := rn_row rfl ls st σ Q
theorem r_138_3 (ls : a_LS) (st : List Value) (σ : a_HP) (Q : Option Value → a_HP → Prop) : Rn 138 3 ls st σ Q = acR 138 (o_sti 3 4 ls st σ) ls σ Q := rn_row rfl ls st σ Q
theorem r_138_4 (ls : a_LS) (st : List Value) (σ : a_HP) (Q : Option Value → a_HP → Prop) : Rn 138 4 ls st σ Q = acR 138 (o_ldi 3 5 ls st σ) ls σ Q := rn_row rfl ls st σ Q
theorem r_138_5 (ls : a_LS) (st : List Value) (σ : a_HP) (Q : Option Value → a_HP → Prop) : Rn 138 5 ls st σ Q = acR 138 (o_pi (nI 4) 6 ls st σ) ls σ Q := rn_row rfl ls st σ Q
theorem r_138_6 (ls : a_LS) (st : List Value) (σ : a_HP) (Q : Option Value → a_HP → Prop) : Rn 138 6 ls st σ Q = acR 138 (o_cge 27 9 ls st σ) ls σ Q := rn_row rfl ls st σ Q
theorem r_138_9 (ls : a_LS) (st : List Value) (σ : a_HP) (Q : Option Value → a_HP → Prop) : Rn 138 9 ls st σ Q = acR 138 (o_ldi 2 10 ls st σ) ls σ Q := rn_row rfl ls st σ Q
theorem r_138_10 (ls : a_LS) (st : List Value) (σ : a_HP) (Q : Option Value → a_HP → Prop) : Rn 138 10 ls st σ Q = acR 138 (o_lda 0 11 ls st σ) ls σ Q := rn_row rfl ls st σ Q
theorem r_138_11 (ls : a_LS) (st : List Value) (σ : a_HP) (Q : Option Value → a_HP → Prop) : Rn 138 11 ls st σ Q = acR 138 (o_ldi 1 12 ls st σ) ls σ Q := rn_row rfl ls st σ Q
theorem r_138_12 (ls : a_LS) (st : List Value) (σ : a_HP) (Q : Option Value → a_HP → Prop) : Rn 138 12 ls st σ Q = acR 138 (o_ldi 3 13 ls st σ) ls σ Q := rn_row rfl ls st σ Q
theorem r_138_13 (ls : a_LS) (st : List Value) (σ : a_HP) (Q : Option Value → a_HP → Prop) : Rn 138 13 ls st σ Q = acR 138 (o_ivs 136 2 16 ls st σ) ls σ Q := rn_row rfl ls st σ Q
theorem r_138_16 (ls : a_LS) (st : List Value) (σ : a_HP) (Q : Option Value → a_HP → Prop) : Rn 138 16 ls st σ Q = acR 138 (o_ivs 134 2 19 ls st σ) ls σ Q := rn_row rfl ls st σ Q
theorem r_138_19 (ls : a_LS) (st : List Value) (σ : a_HP) (Q : Option Value → a_HP → Prop) : Rn 138 19 ls st σ Q = acR 138 (o_bi f_add 20 ls st σ) ls σ Q := rn_row rfl ls st σ Q
theorem r_138_20 (ls : a_LS) (st : List Value) (σ : a_HP) (Q : Option Value → a_HP → Prop) : Rn 138 20 ls st σ Q = acR 138 (o_sti 2 21 ls st σ) ls σ Q := rn_row rfl ls st σ Q
theorem r_138_21 (ls : a_LS) (st : List Value) (σ : a_HP) (Q : Option Value → a_HP → Prop) : Rn 138 21 ls st σ Q = acR 138 (o_inc 3 (nI 1) 24 ls st σ) ls σ Q := rn_row rfl ls st σ Q
theorem r_138_24 (ls : a_LS) (st : List Value) (σ : a_HP) (Q : Option Value → a_HP → Prop) : Rn 138 24 ls st σ Q = acR 138 (o_go 4 ls st σ) ls σ Q := rn_row rfl ls st σ Q
theorem r_138_27 (ls : a_LS) (st : List Value) (σ : a_HP) (Q : Option Value → a_HP → Prop) : Rn 138 27 ls st σ Q = acR 138 (o_ldi 2 28 ls st σ) ls σ Q := rn_row rfl ls st σ Q
theorem r_138_28 (ls : a_LS) (st : List Value) (σ : a_HP) (Q : Option Value → a_HP → Prop) : Rn 138 28 ls st σ Q = acR 138 (o_ri ls st σ) ls σ Q := rn_row rfl ls st σ Q
/-! 139: NetLawModel.isLaw([II)Z -/
theorem cl_139 (x0 : Nat) (x1 : Int32) (σ : a_HP) (Q : Option Value → a_HP → Prop) : Cl 139 [.ref x0, .int x1] σ Q = Rn 139 0 [some (.ref x0), some (.int x1)] [] σ Q := cl_of (Nat.le_of_ble_eq_true rfl) rfl σ Q
theorem r_139_0 (ls : a_LS) (st : List Value) (σ : a_HP) (Q : Option Value → a_HP → Prop) : Rn 139 0 ls st σ Q = acR 139 (o_lda 0 1 ls st σ) ls σ Q := rn_row rfl ls st σ Q
theorem r_139_1 (ls : a_LS) (st : List Value) (σ : a_HP) (Q : Option Value → a_HP → Prop) : Rn 139 1 ls st σ Q = acR 139 (o_ldi 1 2 ls st σ) ls σ Q := rn_row rfl ls st σ Q
theorem r_139_2 (ls : a_LS) (st : List Value) (σ : a_HP) (Q : Option Value → a_HP → Prop) : Rn 139 2 ls st σ Q = acR 139 (o_ivs 138 2 5 ls st σ) ls σ Q := rn_row rfl ls st σ Q
theorem r_139_5 (ls : a_LS) (st : List Value) (σ : a_HP) (Q : Option Value → a_HP → Prop) : Rn 139 5 ls st σ Q = acR 139 (o_lda 0 6 ls st σ) ls σ Q := rn_row rfl ls st σ Q
theorem r_139_6 (ls : a_LS) (st : List Value) (σ : a_HP) (Q : Option Value → a_HP → Prop) : Rn 139 6 ls st σ Q = acR 139 (o_pi (nI 52) 8 ls st σ) ls σ Q := rn_row rfl ls st σ Q
theorem r_139_8 (ls : a_LS) (st : List Value) (σ : a_HP) (Q : Option Value → a_HP → Prop) : Rn 139 8 ls st σ Q = acR 139 (o_ldi 1 9 ls st σ) ls σ Q := rn_row rfl ls st σ Q
theorem r_139_9 (ls : a_LS) (st : List Value) (σ : a_HP) (Q : Option Value → a_HP → Prop) : Rn 139 9 ls st σ Q = acR 139 (o_bi f_add 10 ls st σ) ls σ Q := rn_row rfl ls st σ Q
theorem r_139_10 (ls : a_LS) (st : List Value) (σ : a_HP) (Q : Option Value → a_HP → Prop) : Rn 139 10 ls st σ Q = acR 139 (o_ial 11 ls st σ) ls σ Q := rn_row rfl ls st σ Q
theorem r_139_11 (ls : a_LS) (st : List Value) (σ : a_HP) (Q : Option Value → a_HP → Prop) : Rn 139 11 ls st σ Q = acR 139 (o_clt 18 14 ls st σ) ls σ Q := rn_row rfl ls st σ Q
theorem r_139_14 (ls : a_LS) (st : List Value) (σ : a_HP) (Q : Option Value → a_HP → Prop) : Rn 139 14 ls st σ Q = acR 139 (o_pi (nI 1) 15 ls st σ) ls σ Q := rn_row rfl ls st σ Q
theorem r_139_15 (ls : a_LS) (st : List Value) (σ : a_HP) (Q : Option Value → a_HP → Prop) : Rn 139 15 ls st σ Q = acR 139 (o_go 19 ls st σ) ls σ Q := rn_row rfl ls st σ Q
theorem r_139_18 (ls : a_LS) (st : List Value) (σ : a_HP) (Q : Option Value → a_HP → Prop) : Rn 139 18 ls st σ Q = acR 139 (o_pi (nI 0) 19 ls st σ) ls σ Q := rn_row rfl ls st σ Q
theorem r_139_19 (ls : a_LS) (st : List Value) (σ : a_HP) (Q : Option Value → a_HP → Prop) : Rn 139 19 ls st σ Q = acR 139 (o_rz ls st σ) ls σ Q := rn_row rfl ls st σ Q
/-! 140: NetLawModel.lawsOf([I)I -/
theorem cl_140 (x0 : Nat) (σ : a_HP) (Q : Option Value → a_HP → Prop) : Cl 140 [.ref x0] σ Q = Rn 140 0 [some (.ref x0), none, none] [] σ Q := cl_of (Nat.le_of_ble_eq_true rfl) rfl σ Q
theorem r_140_0 (ls : a_LS) (st : List Value) (σ : a_HP) (Q : Option Value → a_HP → Prop) : Rn 140 0 ls st σ Q = acR 140 (o_pi (nI 0) 1 ls st σ) ls σ Q := rn_row rfl ls st σ Q
theorem r_140_1 (ls : a_LS) (st : List Value) (σ : a_HP) (Q : Option Value → a_HP → Prop) : Rn 140 1 ls st σ Q = acR 140 (o_sti 1 2 ls st σ) ls σ Q := rn_row rfl ls st σ Q
theorem r_140_2 (ls : a_LS) (st : List Value) (σ : a_HP) (Q : Option Value → a_HP → Prop) : Rn 140 2 ls st σ Q = acR 140 (o_pi (nI 0) 3 ls st σ) ls σ Q := rn_row rfl ls st σ Q
theorem r_140_3 (ls : a_LS) (st : List Value) (σ : a_HP) (Q : Option Value → a_HP → Prop) : Rn 140 3 ls st σ Q = acR 140 (o_sti 2 4 ls st σ) ls σ Q := rn_row rfl ls st σ Q
theorem r_140_4 (ls : a_LS) (st : List Value) (σ : a_HP) (Q : Option Value → a_HP → Prop) : Rn 140 4 ls st σ Q = acR 140 (o_ldi 2 5 ls st σ) ls σ Q := rn_row rfl ls st σ Q
theorem r_140_5 (ls : a_LS) (st : List Value) (σ : a_HP) (Q : Option Value → a_HP → Prop) : Rn 140 5 ls st σ Q = acR 140 (o_pi (nI 9) 7 ls st σ) ls σ Q := rn_row rfl ls st σ Q
theorem r_140_7 (ls : a_LS) (st : List Value) (σ : a_HP) (Q : Option Value → a_HP → Prop) : Rn 140 7 ls st σ Q = acR 140 (o_cge 34 10 ls st σ) ls σ Q := rn_row rfl ls st σ Q
theorem r_140_10 (ls : a_LS) (st : List Value) (σ : a_HP) (Q : Option Value → a_HP → Prop) : Rn 140 10 ls st σ Q = acR 140 (o_ldi 1 11 ls st σ) ls σ Q := rn_row rfl ls st σ Q
theorem r_140_11 (ls : a_LS) (st : List Value) (σ : a_HP) (Q : Option Value → a_HP → Prop) : Rn 140 11 ls st σ Q = acR 140 (o_lda 0 12 ls st σ) ls σ Q := rn_row rfl ls st σ Q
theorem r_140_12 (ls : a_LS) (st : List Value) (σ : a_HP) (Q : Option Value → a_HP → Prop) : Rn 140 12 ls st σ Q = acR 140 (o_ldi 2 13 ls st σ) ls σ Q := rn_row rfl ls st σ Q
theorem r_140_13 (ls : a_LS) (st : List Value) (σ : a_HP) (Q : Option Value → a_HP → Prop) : Rn 140 13 ls st σ Q = acR 140 (o_ivs 139 2 16 ls st σ) ls σ Q := rn_row rfl ls st σ Q
theorem r_140_16 (ls : a_LS) (st : List Value) (σ : a_HP) (Q : Option Value → a_HP → Prop) : Rn 140 16 ls st σ Q = acR 140 (o_eq 25 19 ls st σ) ls σ Q := rn_row rfl ls st σ Q
theorem r_140_19 (ls : a_LS) (st : List Value) (σ : a_HP) (Q : Option Value → a_HP → Prop) : Rn 140 19 ls st σ Q = acR 140 (o_pi (nI 1) 20 ls st σ) ls σ Q := rn_row rfl ls st σ Q
theorem r_140_20 (ls : a_LS) (st : List Value) (σ : a_HP) (Q : Option Value → a_HP → Prop) : Rn 140 20 ls st σ Q = acR 140 (o_ldi 2 21 ls st σ) ls σ Q := rn_row rfl ls st σ Q
theorem r_140_21 (ls : a_LS) (st : List Value) (σ : a_HP) (Q : Option Value → a_HP → Prop) : Rn 140 21 ls st σ Q = acR 140 (o_bi f_shl 22 ls st σ) ls σ Q := rn_row rfl ls st σ Q
theorem r_140_22 (ls : a_LS) (st : List Value) (σ : a_HP) (Q : Option Value → a_HP → Prop) : Rn 140 22 ls st σ Q = acR 140 (o_go 26 ls st σ) ls σ Q := rn_row rfl ls st σ Q
theorem r_140_25 (ls : a_LS) (st : List Value) (σ : a_HP) (Q : Option Value → a_HP → Prop) : Rn 140 25 ls st σ Q = acR 140 (o_pi (nI 0) 26 ls st σ) ls σ Q := rn_row rfl ls st σ Q
theorem r_140_26 (ls : a_LS) (st : List Value) (σ : a_HP) (Q : Option Value → a_HP → Prop) : Rn 140 26 ls st σ Q = acR 140 (o_bi f_or 27 ls st σ) ls σ Q := rn_row rfl ls st σ Q
theorem r_140_27 (ls : a_LS) (st : List Value) (σ : a_HP) (Q : Option Value → a_HP → Prop) : Rn 140 27 ls st σ Q = acR 140 (o_sti 1 28 ls st σ) ls σ Q := rn_row rfl ls st σ Q
theorem r_140_28 (ls : a_LS) (st : List Value) (σ : a_HP) (Q : Option Value → a_HP → Prop) : Rn 140 28 ls st σ Q = acR 140 (o_inc 2 (nI 1) 31 ls st σ) ls σ Q := rn_row rfl ls st σ Q
theorem r_140_31 (ls : a_LS) (st : List Value) (σ : a_HP) (Q : Option Value → a_HP → Prop) : Rn 140 31 ls st σ Q = acR 140 (o_go 4 ls st σ) ls σ Q := rn_row rfl ls st σ Q
theorem r_140_34 (ls : a_LS) (st : List Value) (σ : a_HP) (Q : Option Value → a_HP → Prop) : Rn 140 34 ls st σ Q = acR 140 (o_ldi 1 35 ls st σ) ls σ Q := rn_row rfl ls st σ Q
theorem r_140_35 (ls : a_LS) (st : List Value) (σ : a_HP) (Q : Option Value → a_HP → Prop) : Rn 140 35 ls st σ Q = acR 140 (o_ri ls st σ) ls σ Q := rn_row rfl ls st σ Q
/-! 141: NetLawModel.isKnot(I)Z -/
theorem cl_141 (x0 : Int32) (σ : a_HP) (Q : Option Value → a_HP → Prop) : Cl 141 [.int x0] σ Q = Rn 141 0 [some (.int x0)] [] σ Q := cl_of (Nat.le_of_ble_eq_true rfl) rfl σ Q
theorem r_141_0 (ls : a_LS) (st : List Value) (σ : a_HP) (Q : Option Value → a_HP → Prop) : Rn 141 0 ls st σ Q = acR 141 (o_ldi 0 1 ls st σ) ls σ Q := rn_row rfl ls st σ Q
theorem r_141_1 (ls : a_LS) (st : List Value) (σ : a_HP) (Q : Option Value → a_HP → Prop) : Rn 141 1 ls st σ Q = acR 141 (o_i2l 2 ls st σ) ls σ Q := rn_row rfl ls st σ Q
theorem r_141_2 (ls : a_LS) (st : List Value) (σ : a_HP) (Q : Option Value → a_HP → Prop) : Rn 141 2 ls st σ Q = acR 141 (o_pl (lN 0) 3 ls st σ) ls σ Q := rn_row rfl ls st σ Q
theorem r_141_3 (ls : a_LS) (st : List Value) (σ : a_HP) (Q : Option Value → a_HP → Prop) : Rn 141 3 ls st σ Q = acR 141 (o_pl (lN 15) 6 ls st σ) ls σ Q := rn_row rfl ls st σ Q
theorem r_141_6 (ls : a_LS) (st : List Value) (σ : a_HP) (Q : Option Value → a_HP → Prop) : Rn 141 6 ls st σ Q = acR 141 (o_ivs 122 3 9 ls st σ) ls σ Q := rn_row rfl ls st σ Q
theorem r_141_9 (ls : a_LS) (st : List Value) (σ : a_HP) (Q : Option Value → a_HP → Prop) : Rn 141 9 ls st σ Q = acR 141 (o_rz ls st σ) ls σ Q := rn_row rfl ls st σ Q
/-! 142: NetLawModel.isClause(I)Z -/
theorem cl_142 (x0 : Int32) (σ : a_HP) (Q : Option Value → a_HP → Prop) : Cl 142 [.int x0] σ Q = Rn 142 0 [some (.int x0)] [] σ Q := cl_of (Nat.le_of_ble_eq_true rfl) rfl σ Q
theorem r_142_0 (ls : a_LS) (st : List Value) (σ : a_HP) (Q : Option Value → a_HP → Prop) : Rn 142 0 ls st σ Q = acR 142 (o_ldi 0 1 ls st σ) ls σ Q := rn_row rfl ls st σ Q
theorem r_142_1 (ls : a_LS) (st : List Value) (σ : a_HP) (Q : Option Value → a_HP → Prop) : Rn 142 1 ls st σ Q = acR 142 (o_i2l 2 ls st σ) ls σ Q := rn_row rfl ls st σ Q
theorem r_142_2 (ls : a_LS) (st : List Value) (σ : a_HP) (Q : Option Value → a_HP → Prop) : Rn 142 2 ls st σ Q = acR 142 (o_pl (lN 0) 3 ls st σ) ls σ Q := rn_row rfl ls st σ Q
theorem r_142_3 (ls : a_LS) (st : List Value) (σ : a_HP) (Q : Option Value → a_HP → Prop) : Rn 142 3 ls st σ Q = acR 142 (o_pl (lN 8) 6 ls st σ) ls σ Q := rn_row rfl ls st σ Q
theorem r_142_6 (ls : a_LS) (st : List Value) (σ : a_HP) (Q : Option Value → a_HP → Prop) : Rn 142 6 ls st σ Q = acR 142 (o_ivs 122 3 9 ls st σ) ls σ Q := rn_row rfl ls st σ Q
theorem r_142_9 (ls : a_LS) (st : List Value) (σ : a_HP) (Q : Option Value → a_HP → Prop) : Rn 142 9 ls st σ Q = acR 142 (o_rz ls st σ) ls σ Q := rn_row rfl ls st σ Q
/-! 143: NetLawModel.isTwo(I)Z -/
theorem cl_143 (x0 : Int32) (σ : a_HP) (Q : Option Value → a_HP → Prop) : Cl 143 [.int x0] σ Q = Rn 143 0 [some (.int x0)] [] σ Q := cl_of (Nat.le_of_ble_eq_true rfl) rfl σ Q
theorem r_143_0 (ls : a_LS) (st : List Value) (σ : a_HP) (Q : Option Value → a_HP → Prop) : Rn 143 0 ls st σ Q = acR 143 (o_ldi 0 1 ls st σ) ls σ Q := rn_row rfl ls st σ Q
theorem r_143_1 (ls : a_LS) (st : List Value) (σ : a_HP) (Q : Option Value → a_HP → Prop) : Rn 143 1 ls st σ Q = acR 143 (o_i2l 2 ls st σ) ls σ Q := rn_row rfl ls st σ Q
theorem r_143_2 (ls : a_LS) (st : List Value) (σ : a_HP) (Q : Option Value → a_HP → Prop) : Rn 143 2 ls st σ Q = acR 143 (o_pl (lN 0) 3 ls st σ) ls σ Q := rn_row rfl ls st σ Q
theorem r_143_3 (ls : a_LS) (st : List Value) (σ : a_HP) (Q : Option Value → a_HP → Prop) : Rn 143 3 ls st σ Q = acR 143 (o_pl (lN 1) 4 ls st σ) ls σ Q := rn_row rfl ls st σ Q
theorem r_143_4 (ls : a_LS) (st : List Value) (σ : a_HP) (Q : Option Value → a_HP → Prop) : Rn 143 4 ls st σ Q = acR 143 (o_ivs 122 3 7 ls st σ) ls σ Q := rn_row rfl ls st σ Q
theorem r_143_7 (ls : a_LS) (st : List Value) (σ : a_HP) (Q : Option Value → a_HP → Prop) : Rn 143 7 ls st σ Q = acR 143 (o_rz ls st σ) ls σ Q := rn_row rfl ls st σ Q
/-! 144: NetLawModel.net(II)I -/
theorem cl_144 (x0 : Nat) (x1 : Int32) (x2 : Int32) (σ : a_HP) (Q : Option Value → a_HP → Prop) : Cl 144 [.ref x0, .int x1, .int x2] σ Q = Rn 144 0 [some (.ref x0), some (.int x1), some (.int x2), none] [] σ Q := cl_of (Nat.le_of_ble_eq_true rfl) rfl σ Q
theorem r_144_0 (ls : a_LS) (st : List Value) (σ : a_HP) (Q : Option Value → a_HP → Prop) : Rn 144 0 ls st σ Q = acR 144 (o_ldi 1 1 ls st σ) ls σ Q := rn_row rfl ls st σ Q
theorem r_144_1 (ls : a_LS) (st : List Value) (σ : a_HP) (Q : Option Value → a_HP → Prop) : Rn 144 1 ls st σ Q = acR 144 (o_ivs 143 1 4 ls st σ) ls σ Q := rn_row rfl ls st σ Q
theorem r_144_4 (ls : a_LS) (st : List Value) (σ : a_HP) (Q : Option Value → a_HP → Prop) : Rn 144 4 ls st σ Q = acR 144 (o_eq 19 7 ls st σ) ls σ Q := rn_row rfl ls st σ Q
theorem r_144_7 (ls : a_LS) (st : List Value) (σ : a_HP) (Q : Option Value → a_HP → Prop) : Rn 144 7 ls st σ Q = acR 144 (o_ldi 2 8 ls st σ) ls σ Q := rn_row rfl ls st σ Q
theorem r_144_8 (ls : a_LS) (st : List Value) (σ : a_HP) (Q : Option Value → a_HP → Prop) : Rn 144 8 ls st σ Q = acR 144 (o_i2l 9 ls st σ) ls σ Q := rn_row rfl ls st σ Q
theorem r_144_9 (ls : a_LS) (st : List Value) (σ : a_HP) (Q : Option Value → a_HP → Prop) : Rn 144 9 ls st σ Q = acR 144 (o_pl (lN 0) 10 ls st σ) ls σ Q := rn_row rfl ls st σ Q
theorem r_144_10 (ls : a_LS) (st : List Value) (σ : a_HP) (Q : Option Value → a_HP → Prop) : Rn 144 10 ls st σ Q = acR 144 (o_pl (lN 99) 13 ls st σ) ls σ Q := rn_row rfl ls st σ Q
theorem r_144_13 (ls : a_LS) (st : List Value) (σ : a_HP) (Q : Option Value → a_HP → Prop) : Rn 144 13 ls st σ Q = acR 144 (o_ivs 122 3 16 ls st σ) ls σ Q := rn_row rfl ls st σ Q
theorem r_144_16 (ls : a_LS) (st : List Value) (σ : a_HP) (Q : Option Value → a_HP → Prop) : Rn 144 16 ls st σ Q = acR 144 (o_ne 24 19 ls st σ) ls σ Q := rn_row rfl ls st σ Q
theorem r_144_19 (ls : a_LS) (st : List Value) (σ : a_HP) (Q : Option Value → a_HP → Prop) : Rn 144 19 ls st σ Q = acR 144 (o_lda 0 20 ls st σ) ls σ Q := rn_row rfl ls st σ Q
theorem r_144_20 (ls : a_LS) (st : List Value) (σ : a_HP) (Q : Option Value → a_HP → Prop) : Rn 144 20 ls st σ Q = acR 144 (o_ivv 8 125 0 23 ls st σ) ls σ Q := rn_row rfl ls st σ Q
theorem r_144_23 (ls : a_LS) (st : List Value) (σ : a_HP) (Q : Option Value → a_HP → Prop) : Rn 144 23 ls st σ Q = acR 144 (o_ri ls st σ) ls σ Q := rn_row rfl ls st σ Q
theorem r_144_24 (ls : a_LS) (st : List Value) (σ : a_HP) (Q : Option Value → a_HP → Prop) : Rn 144 24 ls st σ Q = acR 144 (o_lda 0 25 ls st σ) ls σ Q := rn_row rfl ls st σ Q
theorem r_144_25 (ls : a_LS) (st : List Value) (σ : a_HP) (Q : Option Value → a_HP → Prop) : Rn 144 25 ls st σ Q = acR 144 (o_get 8 0 28 ls st σ) ls σ Q := rn_row rfl ls st σ Q
theorem r_144_28 (ls : a_LS) (st : List Value) (σ : a_HP) (Q : Option Value → a_HP → Prop) : Rn 144 28 ls st σ Q = acR 144 (o_ivs 131 1 31 ls st σ) ls σ Q := rn_row rfl ls st σ Q
theorem r_144_31 (ls : a_LS) (st : List Value) (σ : a_HP) (Q : Option Value → a_HP → Prop) : Rn 144 31 ls st σ Q = acR 144 (o_sti 3 32 ls st σ) ls σ Q := rn_row rfl ls st σ Q
theorem r_144_32 (ls : a_LS) (st : List Value) (σ : a_HP) (Q : Option Value → a_HP → Prop) : Rn 144 32 ls st σ Q = acR 144 (o_lda 0 33 ls st σ) ls σ Q := rn_row rfl ls st σ Q
theorem r_144_33 (ls : a_LS) (st : List Value) (σ : a_HP) (Q : Option Value → a_HP → Prop) : Rn 144 33 ls st σ Q = acR 144 (o_get 8 0 36 ls st σ) ls σ Q := rn_row rfl ls st σ Q
theorem r_144_36 (ls : a_LS) (st : List Value) (σ : a_HP) (Q : Option Value → a_HP → Prop) : Rn 144 36 ls st σ Q = acR 144 (o_ldi 1 37 ls st σ) ls σ Q := rn_row rfl ls st σ Q
theorem r_144_37 (ls : a_LS) (st : List Value) (σ : a_HP) (Q : Option Value → a_HP → Prop) : Rn 144 37 ls st σ Q = acR 144 (o_ldi 2 38 ls st σ) ls σ Q := rn_row rfl ls st σ Q
theorem r_144_38 (ls : a_LS) (st : List Value) (σ : a_HP) (Q : Option Value → a_HP → Prop) : Rn 144 38 ls st σ Q = acR 144 (o_ivs 129 3 41 ls st σ) ls σ Q := rn_row rfl ls st σ Q
theorem r_144_41 (ls : a_LS) (st : List Value) (σ : a_HP) (Q : Option Value → a_HP → Prop) : Rn 144 41 ls st σ Q = acR 144 (o_ldi 3 42 ls st σ) ls σ Q := rn_row rfl ls st σ Q
theorem r_144_42 (ls : a_LS) (st : List Value) (σ : a_HP) (Q : Option Value → a_HP → Prop) : Rn 144 42 ls st σ Q = acR 144 (o_ri ls st σ) ls σ Q := rn_row rfl ls st σ Q
/-! 145: NetLawModel.becomes(II)I -/
theorem cl_145 (x0 : Nat) (x1 : Int32) (x2 : Int32) (σ : a_HP) (Q : Option Value → a_HP → Prop) : Cl 145 [.ref x0, .int x1, .int x2] σ Q = Rn 145 0 [some (.ref x0), some (.int x1), some (.int x2), none] [] σ Q := cl_of (Nat.le_of_ble_eq_true rfl) rfl σ Q
theorem r_145_0 (ls : a_LS) (st : List Value) (σ : a_HP) (Q : Option Value → a_HP → Prop) : Rn 145 0 ls st σ Q = acR 145 (o_lda 0 1 ls st σ) ls σ Q := rn_row rfl ls st σ Q
theorem r_145_1 (ls : a_LS) (st : List Value) (σ : a_HP) (Q : Option Value → a_HP → Prop) : Rn 145 1 ls st σ Q = acR 145 (o_get 8 0 4 ls st σ) ls σ Q := rn_row rfl ls st σ Q
theorem r_145_4 (ls : a_LS) (st : List Value) (σ : a_HP) (Q : Option Value → a_HP → Prop) : Rn 145 4 ls st σ Q = acR 145 (o_ldi 1 5 ls st σ) ls σ Q := rn_row rfl ls st σ Q
theorem r_145_5 (ls : a_LS) (st : List Value) (σ : a_HP) (Q : Option Value → a_HP → Prop) : Rn 145 5 ls st σ Q = acR 145 (o_ial 6 ls st σ) ls σ Q := rn_row rfl ls st σ Q
theorem r_145_6 (ls : a_LS) (st : List Value) (σ : a_HP) (Q : Option Value → a_HP → Prop) : Rn 145 6 ls st σ Q = acR 145 (o_sti 3 7 ls st σ) ls σ Q := rn_row rfl ls st σ Q
theorem r_145_7 (ls : a_LS) (st : List Value) (σ : a_HP) (Q : Option Value → a_HP → Prop) : Rn 145 7 ls st σ Q = acR 145 (o_lda 0 8 ls st σ) ls σ Q := rn_row rfl ls st σ Q
theorem r_145_8 (ls : a_LS) (st : List Value) (σ : a_HP) (Q : Option Value → a_HP → Prop) : Rn 145 8 ls st σ Q = acR 145 (o_get 8 0 11 ls st σ) ls σ Q := rn_row rfl ls st σ Q
theorem r_145_11 (ls : a_LS) (st : List Value) (σ : a_HP) (Q : Option Value → a_HP → Prop) : Rn 145 11 ls st σ Q = acR 145 (o_ldi 1 12 ls st σ) ls σ Q := rn_row rfl ls st σ Q
theorem r_145_12 (ls : a_LS) (st : List Value) (σ : a_HP) (Q : Option Value → a_HP → Prop) : Rn 145 12 ls st σ Q = acR 145 (o_ldi 2 13 ls st σ) ls σ Q := rn_row rfl ls st σ Q
theorem r_145_13 (ls : a_LS) (st : List Value) (σ : a_HP) (Q : Option Value → a_HP → Prop) : Rn 145 13 ls st σ Q = acR 145 (o_ias 14 ls st σ) ls σ Q := rn_row rfl ls st σ Q
theorem r_145_14 (ls : a_LS) (st : List Value) (σ : a_HP) (Q : Option Value → a_HP → Prop) : Rn 145 14 ls st σ Q = acR 145 (o_ldi 3 15 ls st σ) ls σ Q := rn_row rfl ls st σ Q
theorem r_145_15 (ls : a_LS) (st : List Value) (σ : a_HP) (Q : Option Value → a_HP → Prop) : Rn 145 15 ls st σ Q = acR 145 (o_ri ls st σ) ls σ Q := rn_row rfl ls st σ Q
/-! 146: NetLawModel.rain(I)I -/
theorem cl_146 (x0 : Nat) (x1 : Int32) (σ : a_HP) (Q : Option Value → a_HP → Prop) : Cl 146 [.ref x0, .int x1] σ Q = Rn 146 0 [some (.ref x0), some (.int x1)] [] σ Q := cl_of (Nat.le_of_ble_eq_true rfl) rfl σ Q
theorem r_146_0 (ls : a_LS) (st : List Value) (σ : a_HP) (Q : Option Value → a_HP → Prop) : Rn 146 0 ls st σ Q = acR 146 (o_ldi 1 1 ls st σ) ls σ Q := rn_row rfl ls st σ Q
theorem r_146_1 (ls : a_LS) (st : List Value) (σ : a_HP) (Q : Option Value → a_HP → Prop) : Rn 146 1 ls st σ Q = acR 146 (o_ivs 143 1 4 ls st σ) ls σ Q := rn_row rfl ls st σ Q
theorem r_146_4 (ls : a_LS) (st : List Value) (σ : a_HP) (Q : Option Value → a_HP → Prop) : Rn 146 4 ls st σ Q = acR 146 (o_eq 16 7 ls st σ) ls σ Q := rn_row rfl ls st σ Q
theorem r_146_7 (ls : a_LS) (st : List Value) (σ : a_HP) (Q : Option Value → a_HP → Prop) : Rn 146 7 ls st σ Q = acR 146 (o_lda 0 8 ls st σ) ls σ Q := rn_row rfl ls st σ Q
theorem r_146_8 (ls : a_LS) (st : List Value) (σ : a_HP) (Q : Option Value → a_HP → Prop) : Rn 146 8 ls st σ Q = acR 146 (o_pi (nI 0) 9 ls st σ) ls σ Q := rn_row rfl ls st σ Q
theorem r_146_9 (ls : a_LS) (st : List Value) (σ : a_HP) (Q : Option Value → a_HP → Prop) : Rn 146 9 ls st σ Q = acR 146 (o_ldi 1 10 ls st σ) ls σ Q := rn_row rfl ls st σ Q
theorem r_146_10 (ls : a_LS) (st : List Value) (σ : a_HP) (Q : Option Value → a_HP → Prop) : Rn 146 10 ls st σ Q = acR 146 (o_ivv 8 145 2 13 ls st σ) ls σ Q := rn_row rfl ls st σ Q
theorem r_146_13 (ls : a_LS) (st : List Value) (σ : a_HP) (Q : Option Value → a_HP → Prop) : Rn 146 13 ls st σ Q = acR 146 (o_go 20 ls st σ) ls σ Q := rn_row rfl ls st σ Q
theorem r_146_16 (ls : a_LS) (st : List Value) (σ : a_HP) (Q : Option Value → a_HP → Prop) : Rn 146 16 ls st σ Q = acR 146 (o_lda 0 17 ls st σ) ls σ Q := rn_row rfl ls st σ Q
theorem r_146_17 (ls : a_LS) (st : List Value) (σ : a_HP) (Q : Option Value → a_HP → Prop) : Rn 146 17 ls st σ Q = acR 146 (o_ivv 8 125 0 20 ls st σ) ls σ Q := rn_row rfl ls st σ Q
theorem r_146_20 (ls : a_LS) (st : List Value) (σ : a_HP) (Q : Option Value → a_HP → Prop) : Rn 146 20 ls st σ Q = acR 146 (o_ri ls st σ) ls σ Q := rn_row rfl ls st σ Q
/-! 147: NetLawModel.twine(I)I -/
theorem cl_147 (x0 : Nat) (x1 : Int32) (σ : a_HP) (Q : Option Value → a_HP → Prop) : Cl 147 [.ref x0, .int x1] σ Q = Rn 147 0 [some (.ref x0), some (.int x1)] [] σ Q := cl_of (Nat.le_of_ble_eq_true rfl) rfl σ Q
theorem r_147_0 (ls : a_LS) (st : List Value) (σ : a_HP) (Q : Option Value → a_HP → Prop) : Rn 147 0 ls st σ Q = acR 147 (o_ldi 1 1 ls st σ) ls σ Q := rn_row rfl ls st σ Q
theorem r_147_1 (ls : a_LS) (st : List Value) (σ : a_HP) (Q : Option Value → a_HP → Prop) : Rn 147 1 ls st σ Q = acR 147 (o_i2l 2 ls st σ) ls σ Q := rn_row rfl ls st σ Q
theorem r_147_2 (ls : a_LS) (st : List Value) (σ : a_HP) (Q : Option Value → a_HP → Prop) : Rn 147 2 ls st σ Q = acR 147 (o_pl (lN 0) 3 ls st σ) ls σ Q := rn_row rfl ls st σ Q
theorem r_147_3 (ls : a_LS) (st : List Value) (σ : a_HP) (Q : Option Value → a_HP → Prop) : Rn 147 3 ls st σ Q = acR 147 (o_pl (lN 99) 6 ls st σ) ls σ Q := rn_row rfl ls st σ Q
theorem r_147_6 (ls : a_LS) (st : List Value) (σ : a_HP) (Q : Option Value → a_HP → Prop) : Rn 147 6 ls st σ Q = acR 147 (o_ivs 122 3 9 ls st σ) ls σ Q := rn_row rfl ls st σ Q
theorem r_147_9 (ls : a_LS) (st : List Value) (σ : a_HP) (Q : Option Value → a_HP → Prop) : Rn 147 9 ls st σ Q = acR 147 (o_eq 21 12 ls st σ) ls σ Q := rn_row rfl ls st σ Q
theorem r_147_12 (ls : a_LS) (st : List Value) (σ : a_HP) (Q : Option Value → a_HP → Prop) : Rn 147 12 ls st σ Q = acR 147 (o_lda 0 13 ls st σ) ls σ Q := rn_row rfl ls st σ Q
theorem r_147_13 (ls : a_LS) (st : List Value) (σ : a_HP) (Q : Option Value → a_HP → Prop) : Rn 147 13 ls st σ Q = acR 147 (o_pi (nI 1) 14 ls st σ) ls σ Q := rn_row rfl ls st σ Q
theorem r_147_14 (ls : a_LS) (st : List Value) (σ : a_HP) (Q : Option Value → a_HP → Prop) : Rn 147 14 ls st σ Q = acR 147 (o_ldi 1 15 ls st σ) ls σ Q := rn_row rfl ls st σ Q
theorem r_147_15 (ls : a_LS) (st : List Value) (σ : a_HP) (Q : Option Value → a_HP → Prop) : Rn 147 15 ls st σ Q = acR 147 (o_ivv 8 145 2 18 ls st σ) ls σ Q := rn_row rfl ls st σ Q
theorem r_147_18 (ls : a_LS) (st : List Value) (σ : a_HP) (Q : Option Value → a_HP → Prop) : Rn 147 18 ls st σ Q = acR 147 (o_go 25 ls st σ) ls σ Q := rn_row rfl ls st σ Q
theorem r_147_21 (ls : a_LS) (st : List Value) (σ : a_HP) (Q : Option Value → a_HP → Prop) : Rn 147 21 ls st σ Q = acR 147 (o_lda 0 22 ls st σ) ls σ Q := rn_row rfl ls st σ Q
theorem r_147_22 (ls : a_LS) (st : List Value) (σ : a_HP) (Q : Option Value → a_HP → Prop) : Rn 147 22 ls st σ Q = acR 147 (o_ivv 8 125 0 25 ls st σ) ls σ Q := rn_row rfl ls st σ Q
theorem r_147_25 (ls : a_LS) (st : List Value) (σ : a_HP) (Q : Option Value → a_HP → Prop) : Rn 147 25 ls st σ Q = acR 147 (o_ri ls st σ) ls σ Q := rn_row rfl ls st σ Q
/-! 148: NetLawModel.hands(I)I -/
theorem cl_148 (x0 : Nat) (x1 : Int32) (σ : a_HP) (Q : Option Value → a_HP → Prop) : Cl 148 [.ref x0, .int x1] σ Q = Rn 148 0 [some (.ref x0), some (.int x1)] [] σ Q := cl_of (Nat.le_of_ble_eq_true rfl) rfl σ Q
theorem r_148_0 (ls : a_LS) (st : List Value) (σ : a_HP) (Q : Option Value → a_HP → Prop) : Rn 148 0 ls st σ Q = acR 148 (o_ldi 1 1 ls st σ) ls σ Q := rn_row rfl ls st σ Q
theorem r_148_1 (ls : a_LS) (st : List Value) (σ : a_HP) (Q : Option Value → a_HP → Prop) : Rn 148 1 ls st σ Q = acR 148 (o_i2l 2 ls st σ) ls σ Q := rn_row rfl ls st σ Q
theorem r_148_2 (ls : a_LS) (st : List Value) (σ : a_HP) (Q : Option Value → a_HP → Prop) : Rn 148 2 ls st σ Q = acR 148 (o_pl (lN 0) 3 ls st σ) ls σ Q := rn_row rfl ls st σ Q
theorem r_148_3 (ls : a_LS) (st : List Value) (σ : a_HP) (Q : Option Value → a_HP → Prop) : Rn 148 3 ls st σ Q = acR 148 (o_pl (lN 65535) 6 ls st σ) ls σ Q := rn_row rfl ls st σ Q
theorem r_148_6 (ls : a_LS) (st : List Value) (σ : a_HP) (Q : Option Value → a_HP → Prop) : Rn 148 6 ls st σ Q = acR 148 (o_ivs 122 3 9 ls st σ) ls σ Q := rn_row rfl ls st σ Q
theorem r_148_9 (ls : a_LS) (st : List Value) (σ : a_HP) (Q : Option Value → a_HP → Prop) : Rn 148 9 ls st σ Q = acR 148 (o_eq 21 12 ls st σ) ls σ Q := rn_row rfl ls st σ Q
theorem r_148_12 (ls : a_LS) (st : List Value) (σ : a_HP) (Q : Option Value → a_HP → Prop) : Rn 148 12 ls st σ Q = acR 148 (o_lda 0 13 ls st σ) ls σ Q := rn_row rfl ls st σ Q
theorem r_148_13 (ls : a_LS) (st : List Value) (σ : a_HP) (Q : Option Value → a_HP → Prop) : Rn 148 13 ls st σ Q = acR 148 (o_pi (nI 2) 14 ls st σ) ls σ Q := rn_row rfl ls st σ Q
theorem r_148_14 (ls : a_LS) (st : List Value) (σ : a_HP) (Q : Option Value → a_HP → Prop) : Rn 148 14 ls st σ Q = acR 148 (o_ldi 1 15 ls st σ) ls σ Q := rn_row rfl ls st σ Q
theorem r_148_15 (ls : a_LS) (st : List Value) (σ : a_HP) (Q : Option Value → a_HP → Prop) : Rn 148 15 ls st σ Q = acR 148 (o_ivv 8 145 2 18 ls st σ) ls σ Q := rn_row rfl ls st σ Q
theorem r_148_18 (ls : a_LS) (st : List Value) (σ : a_HP) (Q : Option Value → a_HP → Prop) : Rn 148 18 ls st σ Q = acR 148 (o_go 25 ls st σ) ls σ Q := rn_row rfl ls st σ Q
theorem r_148_21 (ls : a_LS) (st : List Value) (σ : a_HP) (Q : Option Value → a_HP → Prop) : Rn 148 21 ls st σ Q = acR 148 (o_lda 0 22 ls st σ) ls σ Q := rn_row rfl ls st σ Q
theorem r_148_22 (ls : a_LS) (st : List Value) (σ : a_HP) (Q : Option Value → a_HP → Prop) : Rn 148 22 ls st σ Q = acR 148 (o_ivv 8 125 0 25 ls st σ) ls σ Q := rn_row rfl ls st σ Q
theorem r_148_25 (ls : a_LS) (st : List Value) (σ : a_HP) (Q : Option Value → a_HP → Prop) : Rn 148 25 ls st σ Q = acR 148 (o_ri ls st σ) ls σ Q := rn_row rfl ls st σ Q
/-! 149: NetLawModel.wide(II)I -/
theorem cl_149 (x0 : Nat) (x1 : Int32) (x2 : Int32) (σ : a_HP) (Q : Option Value → a_HP → Prop) : Cl 149 [.ref x0, .int x1, .int x2] σ Q = Rn 149 0 [some (.ref x0), some (.int x1), some (.int x2)] [] σ Q := cl_of (Nat.le_of_ble_eq_true rfl) rfl σ Q
theorem r_149_0 (ls : a_LS) (st : List Value) (σ : a_HP) (Q : Option Value → a_HP → Prop) : Rn 149 0 ls st σ Q = acR 149 (o_ldi 1 1 ls st σ) ls σ Q := rn_row rfl ls st σ Q
theorem r_149_1 (ls : a_LS) (st : List Value) (σ : a_HP) (Q : Option Value → a_HP → Prop) : Rn 149 1 ls st σ Q = acR 149 (o_ivs 142 1 4 ls st σ) ls σ Q := rn_row rfl ls st σ Q
theorem r_149_4 (ls : a_LS) (st : List Value) (σ : a_HP) (Q : Option Value → a_HP → Prop) : Rn 149 4 ls st σ Q = acR 149 (o_eq 31 7 ls st σ) ls σ Q := rn_row rfl ls st σ Q
theorem r_149_7 (ls : a_LS) (st : List Value) (σ : a_HP) (Q : Option Value → a_HP → Prop) : Rn 149 7 ls st σ Q = acR 149 (o_ldi 2 8 ls st σ) ls σ Q := rn_row rfl ls st σ Q
theorem r_149_8 (ls : a_LS) (st : List Value) (σ : a_HP) (Q : Option Value → a_HP → Prop) : Rn 149 8 ls st σ Q = acR 149 (o_i2l 9 ls st σ) ls σ Q := rn_row rfl ls st σ Q
theorem r_149_9 (ls : a_LS) (st : List Value) (σ : a_HP) (Q : Option Value → a_HP → Prop) : Rn 149 9 ls st σ Q = acR 149 (o_pl (lN 0) 10 ls st σ) ls σ Q := rn_row rfl ls st σ Q
theorem r_149_10 (ls : a_LS) (st : List Value) (σ : a_HP) (Q : Option Value → a_HP → Prop) : Rn 149 10 ls st σ Q = acR 149 (o_pl (lN 30) 13 ls st σ) ls σ Q := rn_row rfl ls st σ Q
theorem r_149_13 (ls : a_LS) (st : List Value) (σ : a_HP) (Q : Option Value → a_HP → Prop) : Rn 149 13 ls st σ Q = acR 149 (o_ivs 122 3 16 ls st σ) ls σ Q := rn_row rfl ls st σ Q
theorem r_149_16 (ls : a_LS) (st : List Value) (σ : a_HP) (Q : Option Value → a_HP → Prop) : Rn 149 16 ls st σ Q = acR 149 (o_eq 31 19 ls st σ) ls σ Q := rn_row rfl ls st σ Q
theorem r_149_19 (ls : a_LS) (st : List Value) (σ : a_HP) (Q : Option Value → a_HP → Prop) : Rn 149 19 ls st σ Q = acR 149 (o_lda 0 20 ls st σ) ls σ Q := rn_row rfl ls st σ Q
theorem r_149_20 (ls : a_LS) (st : List Value) (σ : a_HP) (Q : Option Value → a_HP → Prop) : Rn 149 20 ls st σ Q = acR 149 (o_pi (nI 52) 22 ls st σ) ls σ Q := rn_row rfl ls st σ Q
theorem r_149_22 (ls : a_LS) (st : List Value) (σ : a_HP) (Q : Option Value → a_HP → Prop) : Rn 149 22 ls st σ Q = acR 149 (o_ldi 1 23 ls st σ) ls σ Q := rn_row rfl ls st σ Q
theorem r_149_23 (ls : a_LS) (st : List Value) (σ : a_HP) (Q : Option Value → a_HP → Prop) : Rn 149 23 ls st σ Q = acR 149 (o_bi f_add 24 ls st σ) ls σ Q := rn_row rfl ls st σ Q
theorem r_149_24 (ls : a_LS) (st : List Value) (σ : a_HP) (Q : Option Value → a_HP → Prop) : Rn 149 24 ls st σ Q = acR 149 (o_ldi 2 25 ls st σ) ls σ Q := rn_row rfl ls st σ Q
theorem r_149_25 (ls : a_LS) (st : List Value) (σ : a_HP) (Q : Option Value → a_HP → Prop) : Rn 149 25 ls st σ Q = acR 149 (o_ivv 8 145 2 28 ls st σ) ls σ Q := rn_row rfl ls st σ Q
theorem r_149_28 (ls : a_LS) (st : List Value) (σ : a_HP) (Q : Option Value → a_HP → Prop) : Rn 149 28 ls st σ Q = acR 149 (o_go 35 ls st σ) ls σ Q := rn_row rfl ls st σ Q
theorem r_149_31 (ls : a_LS) (st : List Value) (σ : a_HP) (Q : Option Value → a_HP → Prop) : Rn 149 31 ls st σ Q = acR 149 (o_lda 0 32 ls st σ) ls σ Q := rn_row rfl ls st σ Q
theorem r_149_32 (ls : a_LS) (st : List Value) (σ : a_HP) (Q : Option Value → a_HP → Prop) : Rn 149 32 ls st σ Q = acR 149 (o_ivv 8 125 0 35 ls st σ) ls σ Q := rn_row rfl ls st σ Q
theorem r_149_35 (ls : a_LS) (st : List Value) (σ : a_HP) (Q : Option Value → a_HP → Prop) : Rn 149 35 ls st σ Q = acR 149 (o_ri ls st σ) ls σ Q := rn_row rfl ls st σ Q
/-! 150: NetLawModel.remember()V -/
theorem cl_150 (x0 : Nat) (σ : a_HP) (Q : Option Value → a_HP → Prop) : Cl 150 [.ref x0] σ Q = Rn 150 0 [some (.ref x0), none] [] σ Q := cl_of (Nat.le_of_ble_eq_true rfl) rfl σ Q
theorem r_150_0 (ls : a_LS) (st : List Value) (σ : a_HP) (Q : Option Value → a_HP → Prop) : Rn 150 0 ls st σ Q = acR 150 (o_lda 0 1 ls st σ) ls σ Q := rn_row rfl ls st σ Q
theorem r_150_1 (ls : a_LS) (st : List Value) (σ : a_HP) (Q : Option Value → a_HP → Prop) : Rn 150 1 ls st σ Q = acR 150 (o_get 8 0 4 ls st σ) ls σ Q := rn_row rfl ls st σ Q
theorem r_150_4 (ls : a_LS) (st : List Value) (σ : a_HP) (Q : Option Value → a_HP → Prop) : Rn 150 4 ls st σ Q = acR 150 (o_pi (nI 80) 6 ls st σ) ls σ Q := rn_row rfl ls st σ Q
theorem r_150_6 (ls : a_LS) (st : List Value) (σ : a_HP) (Q : Option Value → a_HP → Prop) : Rn 150 6 ls st σ Q = acR 150 (o_ial 7 ls st σ) ls σ Q := rn_row rfl ls st σ Q
theorem r_150_7 (ls : a_LS) (st : List Value) (σ : a_HP) (Q : Option Value → a_HP → Prop) : Rn 150 7 ls st σ Q = acR 150 (o_pi (nI 8) 9 ls st σ) ls σ Q := rn_row rfl ls st σ Q
theorem r_150_9 (ls : a_LS) (st : List Value) (σ : a_HP) (Q : Option Value → a_HP → Prop) : Rn 150 9 ls st σ Q = acR 150 (o_cne 59 12 ls st σ) ls σ Q := rn_row rfl ls st σ Q
theorem r_150_12 (ls : a_LS) (st : List Value) (σ : a_HP) (Q : Option Value → a_HP → Prop) : Rn 150 12 ls st σ Q = acR 150 (o_pi (nI 0) 13 ls st σ) ls σ Q := rn_row rfl ls st σ Q
theorem r_150_13 (ls : a_LS) (st : List Value) (σ : a_HP) (Q : Option Value → a_HP → Prop) : Rn 150 13 ls st σ Q = acR 150 (o_sti 1 14 ls st σ) ls σ Q := rn_row rfl ls st σ Q
theorem r_150_14 (ls : a_LS) (st : List Value) (σ : a_HP) (Q : Option Value → a_HP → Prop) : Rn 150 14 ls st σ Q = acR 150 (o_ldi 1 15 ls st σ) ls σ Q := rn_row rfl ls st σ Q
theorem r_150_15 (ls : a_LS) (st : List Value) (σ : a_HP) (Q : Option Value → a_HP → Prop) : Rn 150 15 ls st σ Q = acR 150 (o_pi (nI 350) 18 ls st σ) ls σ Q := rn_row rfl ls st σ Q
theorem r_150_18 (ls : a_LS) (st : List Value) (σ : a_HP) (Q : Option Value → a_HP → Prop) : Rn 150 18 ls st σ Q = acR 150 (o_cge 48 21 ls st σ) ls σ Q := rn_row rfl ls st σ Q
theorem r_150_21 (ls : a_LS) (st : List Value) (σ : a_HP) (Q : Option Value → a_HP → Prop) : Rn 150 21 ls st σ Q = acR 150 (o_lda 0 22 ls st σ) ls σ Q := rn_row rfl ls st σ Q
theorem r_150_22 (ls : a_LS) (st : List Value) (σ : a_HP) (Q : Option Value → a_HP → Prop) : Rn 150 22 ls st σ Q = acR 150 (o_get 8 0 25 ls st σ) ls σ Q := rn_row rfl ls st σ Q
theorem r_150_25 (ls : a_LS) (st : List Value) (σ : a_HP) (Q : Option Value → a_HP → Prop) : Rn 150 25 ls st σ Q = acR 150 (o_pi (nI 81) 27 ls st σ) ls σ Q := rn_row rfl ls st σ Q
theorem r_150_27 (ls : a_LS) (st : List Value) (σ : a_HP) (Q : Option Value → a_HP → Prop) : Rn 150 27 ls st σ Q = acR 150 (o_ldi 1 28 ls st σ) ls σ Q := rn_row rfl ls st σ Q
theorem r_150_28 (ls : a_LS) (st : List Value) (σ : a_HP) (Q : Option Value → a_HP → Prop) : Rn 150 28 ls st σ Q = acR 150 (o_bi f_add 29 ls st σ) ls σ Q := rn_row rfl ls st σ Q
theorem r_150_29 (ls : a_LS) (st : List Value) (σ : a_HP) (Q : Option Value → a_HP → Prop) : Rn 150 29 ls st σ Q = acR 150 (o_lda 0 30 ls st σ) ls σ Q := rn_row rfl ls st σ Q
theorem r_150_30 (ls : a_LS) (st : List Value) (σ : a_HP) (Q : Option Value → a_HP → Prop) : Rn 150 30 ls st σ Q = acR 150 (o_get 8 0 33 ls st σ) ls σ Q := rn_row rfl ls st σ Q
theorem r_150_33 (ls : a_LS) (st : List Value) (σ : a_HP) (Q : Option Value → a_HP → Prop) : Rn 150 33 ls st σ Q = acR 150 (o_pi (nI 81) 35 ls st σ) ls σ Q := rn_row rfl ls st σ Q
theorem r_150_35 (ls : a_LS) (st : List Value) (σ : a_HP) (Q : Option Value → a_HP → Prop) : Rn 150 35 ls st σ Q = acR 150 (o_ldi 1 36 ls st σ) ls σ Q := rn_row rfl ls st σ Q
theorem r_150_36 (ls : a_LS) (st : List Value) (σ : a_HP) (Q : Option Value → a_HP → Prop) : Rn 150 36 ls st σ Q = acR 150 (o_bi f_add 37 ls st σ) ls σ Q := rn_row rfl ls st σ Q
theorem r_150_37 (ls : a_LS) (st : List Value) (σ : a_HP) (Q : Option Value → a_HP → Prop) : Rn 150 37 ls st σ Q = acR 150 (o_pi (nI 50) 39 ls st σ) ls σ Q := rn_row rfl ls st σ Q
theorem r_150_39 (ls : a_LS) (st : List Value) (σ : a_HP) (Q : Option Value → a_HP → Prop) : Rn 150 39 ls st σ Q = acR 150 (o_bi f_add 40 ls st σ) ls σ Q := rn_row rfl ls st σ Q
theorem r_150_40 (ls : a_LS) (st : List Value) (σ : a_HP) (Q : Option Value → a_HP → Prop) : Rn 150 40 ls st σ Q = acR 150 (o_ial 41 ls st σ) ls σ Q := rn_row rfl ls st σ Q
theorem r_150_41 (ls : a_LS) (st : List Value) (σ : a_HP) (Q : Option Value → a_HP → Prop) : Rn 150 41 ls st σ Q = acR 150 (o_ias 42 ls st σ) ls σ Q := rn_row rfl ls st σ Q
theorem r_150_42 (ls : a_LS) (st : List Value) (σ : a_HP) (Q : Option Value → a_HP → Prop) : Rn 150 42 ls st σ Q = acR 150 (o_inc 1 (nI 1) 45 ls st σ) ls σ Q := rn_row rfl ls st σ Q
theorem r_150_45 (ls : a_LS) (st : List Value) (σ : a_HP) (Q : Option Value → a_HP → Prop) : Rn 150 45 ls st σ Q = acR 150 (o_go 14 ls st σ) ls σ Q := rn_row rfl ls st σ Q
theorem r_150_48 (ls : a_LS) (st : List Value) (σ : a_HP) (Q : Option Value → a_HP → Prop) : Rn 150 48 ls st σ Q = acR 150 (o_lda 0 49 ls st σ) ls σ Q := rn_row rfl ls st σ Q
theorem r_150_49 (ls : a_LS) (st : List Value) (σ : a_HP) (Q : Option Value → a_HP → Prop) : Rn 150 49 ls st σ Q = acR 150 (o_get 8 0 52 ls st σ) ls σ Q := rn_row rfl ls st σ Q
theorem r_150_52 (ls : a_LS) (st : List Value) (σ : a_HP) (Q : Option Value → a_HP → Prop) : Rn 150 52 ls st σ Q = acR 150 (o_pi (nI 80) 54 ls st σ) ls σ Q := rn_row rfl ls st σ Q
theorem r_150_54 (ls : a_LS) (st : List Value) (σ : a_HP) (Q : Option Value → a_HP → Prop) : Rn 150 54 ls st σ Q = acR 150 (o_dup2 55 ls st σ) ls σ Q := rn_row rfl ls st σ Q
theorem r_150_55 (ls : a_LS) (st : List Value) (σ : a_HP) (Q : Option Value → a_HP → Prop) : Rn 150 55 ls st σ Q = acR 150 (o_ial 56 ls st σ) ls σ Q := rn_row rfl ls st σ Q
theorem r_150_56 (ls : a_LS) (st : List Value) (σ : a_HP) (Q : Option Value → a_HP → Prop) : Rn 150 56 ls st σ Q = acR 150 (o_pi (nI 1) 57 ls st σ) ls σ Q := rn_row rfl ls st σ Q
theorem r_150_57 (ls : a_LS) (st : List Value) (σ : a_HP) (Q : Option Value → a_HP → Prop) : Rn 150 57 ls st σ Q = acR 150 (o_bi f_sub 58 ls st σ) ls σ Q := rn_row rfl ls st σ Q
theorem r_150_58 (ls : a_LS) (st : List Value) (σ : a_HP) (Q : Option Value → a_HP → Prop) : Rn 150 58 ls st σ Q = acR 150 (o_ias 59 ls st σ) ls σ Q := rn_row rfl ls st σ Q
theorem r_150_59 (ls : a_LS) (st : List Value) (σ : a_HP) (Q : Option Value → a_HP → Prop) : Rn 150 59 ls st σ Q = acR 150 (o_pi (nI 81) 61 ls st σ) ls σ Q := rn_row rfl ls st σ Q
theorem r_150_61 (ls : a_LS) (st : List Value) (σ : a_HP) (Q : Option Value → a_HP → Prop) : Rn 150 61 ls st σ Q = acR 150 (o_pi (nI 50) 63 ls st σ) ls σ Q := rn_row rfl ls st σ Q
theorem r_150_63 (ls : a_LS) (st : List Value) (σ : a_HP) (Q : Option Value → a_HP → Prop) : Rn 150 63 ls st σ Q = acR 150 (o_lda 0 64 ls st σ) ls σ Q := rn_row rfl ls st σ Q
theorem r_150_64 (ls : a_LS) (st : List Value) (σ : a_HP) (Q : Option Value → a_HP → Prop) : Rn 150 64 ls st σ Q = acR 150 (o_get 8 0 67 ls st σ) ls σ Q := rn_row rfl ls st σ Q
theorem r_150_67 (ls : a_LS) (st : List Value) (σ : a_HP) (Q : Option Value → a_HP → Prop) : Rn 150 67 ls st σ Q = acR 150 (o_pi (nI 80) 69 ls st σ) ls σ Q := rn_row rfl ls st σ Q
theorem r_150_69 (ls : a_LS) (st : List Value) (σ : a_HP) (Q : Option Value → a_HP → Prop) : Rn 150 69 ls st σ Q = acR 150 (o_ial 70 ls st σ) ls σ Q := rn_row rfl ls st σ Q
theorem r_150_70 (ls : a_LS) (st : List Value) (σ : a_HP) (Q : Option Value → a_HP → Prop) : Rn 150 70 ls st σ Q = acR 150 (o_bi f_mul 71 ls st σ) ls σ Q := rn_row rfl ls st σ Q
theorem r_150_71 (ls : a_LS) (st : List Value) (σ : a_HP) (Q : Option Value → a_HP → Prop) : Rn 150 71 ls st σ Q = acR 150 (o_bi f_add 72 ls st σ) ls σ Q := rn_row rfl ls st σ Q
theorem r_150_72 (ls : a_LS) (st : List Value) (σ : a_HP) (Q : Option Value → a_HP → Prop) : Rn 150 72 ls st σ Q = acR 150 (o_sti 1 73 ls st σ) ls σ Q := rn_row rfl ls st σ Q
theorem r_150_73 (ls : a_LS) (st : List Value) (σ : a_HP) (Q : Option Value → a_HP → Prop) : Rn 150 73 ls st σ Q = acR 150 (o_lda 0 74 ls st σ) ls σ Q := rn_row rfl ls st σ Q
theorem r_150_74 (ls : a_LS) (st : List Value) (σ : a_HP) (Q : Option Value → a_HP → Prop) : Rn 150 74 ls st σ Q = acR 150 (o_get 8 0 77 ls st σ) ls σ Q := rn_row rfl ls st σ Q
theorem r_150_77 (ls : a_LS) (st : List Value) (σ : a_HP) (Q : Option Value → a_HP → Prop) : Rn 150 77 ls st σ Q = acR 150 (o_pi (nI 4) 78 ls st σ) ls σ Q := rn_row rfl ls st σ Q
theorem r_150_78 (ls : a_LS) (st : List Value) (σ : a_HP) (Q : Option Value → a_HP → Prop) : Rn 150 78 ls st σ Q = acR 150 (o_lda 0 79 ls st σ) ls σ Q := rn_row rfl ls st σ Q
theorem r_150_79 (ls : a_LS) (st : List Value) (σ : a_HP) (Q : Option Value → a_HP → Prop) : Rn 150 79 ls st σ Q = acR 150 (o_get 8 0 82 ls st σ) ls σ Q := rn_row rfl ls st σ Q
theorem r_150_82 (ls : a_LS) (st : List Value) (σ : a_HP) (Q : Option Value → a_HP → Prop) : Rn 150 82 ls st σ Q = acR 150 (o_ldi 1 83 ls st σ) ls σ Q := rn_row rfl ls st σ Q
theorem r_150_83 (ls : a_LS) (st : List Value) (σ : a_HP) (Q : Option Value → a_HP → Prop) : Rn 150 83 ls st σ Q = acR 150 (o_pi (nI 48) 85 ls st σ) ls σ Q := rn_row rfl ls st σ Q
theorem r_150_85 (ls : a_LS) (st : List Value) (σ : a_HP) (Q : Option Value → a_HP → Prop) : Rn 150 85 ls st σ Q = acR 150 (o_ivs 130 5 88 ls st σ) ls σ Q := rn_row rfl ls st σ Q
theorem r_150_88 (ls : a_LS) (st : List Value) (σ : a_HP) (Q : Option Value → a_HP → Prop) : Rn 150 88 ls st σ Q = acR 150 (o_lda 0 89 ls st σ) ls σ Q := rn_row rfl ls st σ Q
theorem r_150_89 (ls : a_LS) (st : List Value) (σ : a_HP) (Q : Option Value → a_HP → Prop) : Rn 150 89 ls st σ Q = acR 150 (o_get 8 0 92 ls st σ) ls σ Q := rn_row rfl ls st σ Q
theorem r_150_92 (ls : a_LS) (st : List Value) (σ : a_HP) (Q : Option Value → a_HP → Prop) : Rn 150 92 ls st σ Q = acR 150 (o_ldi 1 93 ls st σ) ls σ Q := rn_row rfl ls st σ Q
theorem r_150_93 (ls : a_LS) (st : List Value) (σ : a_HP) (Q : Option Value → a_HP → Prop) : Rn 150 93 ls st σ Q = acR 150 (o_pi (nI 48) 95 ls st σ) ls σ Q := rn_row rfl ls st σ Q
theorem r_150_95 (ls : a_LS) (st : List Value) (σ : a_HP) (Q : Option Value → a_HP → Prop) : Rn 150 95 ls st σ Q = acR 150 (o_bi f_add 96 ls st σ) ls σ Q := rn_row rfl ls st σ Q
theorem r_150_96 (ls : a_LS) (st : List Value) (σ : a_HP) (Q : Option Value → a_HP → Prop) : Rn 150 96 ls st σ Q = acR 150 (o_lda 0 97 ls st σ) ls σ Q := rn_row rfl ls st σ Q
theorem r_150_97 (ls : a_LS) (st : List Value) (σ : a_HP) (Q : Option Value → a_HP → Prop) : Rn 150 97 ls st σ Q = acR 150 (o_get 8 0 100 ls st σ) ls σ Q := rn_row rfl ls st σ Q
theorem r_150_100 (ls : a_LS) (st : List Value) (σ : a_HP) (Q : Option Value → a_HP → Prop) : Rn 150 100 ls st σ Q = acR 150 (o_pi (nI 1) 101 ls st σ) ls σ Q := rn_row rfl ls st σ Q
theorem r_150_101 (ls : a_LS) (st : List Value) (σ : a_HP) (Q : Option Value → a_HP → Prop) : Rn 150 101 ls st σ Q = acR 150 (o_ial 102 ls st σ) ls σ Q := rn_row rfl ls st σ Q
theorem r_150_102 (ls : a_LS) (st : List Value) (σ : a_HP) (Q : Option Value → a_HP → Prop) : Rn 150 102 ls st σ Q = acR 150 (o_ias 103 ls st σ) ls σ Q := rn_row rfl ls st σ Q
theorem r_150_103 (ls : a_LS) (st : List Value) (σ : a_HP) (Q : Option Value → a_HP → Prop) : Rn 150 103 ls st σ Q = acR 150 (o_lda 0 104 ls st σ) ls σ Q := rn_row rfl ls st σ Q
theorem r_150_104 (ls : a_LS) (st : List Value) (σ : a_HP) (Q : Option Value → a_HP → Prop) : Rn 150 104 ls st σ Q = acR 150 (o_get 8 0 107 ls st σ) ls σ Q := rn_row rfl ls st σ Q
theorem r_150_107 (ls : a_LS) (st : List Value) (σ : a_HP) (Q : Option Value → a_HP → Prop) : Rn 150 107 ls st σ Q = acR 150 (o_ldi 1 108 ls st σ) ls σ Q := rn_row rfl ls st σ Q
theorem r_150_108 (ls : a_LS) (st : List Value) (σ : a_HP) (Q : Option Value → a_HP → Prop) : Rn 150 108 ls st σ Q = acR 150 (o_pi (nI 49) 110 ls st σ) ls σ Q := rn_row rfl ls st σ Q
theorem r_150_110 (ls : a_LS) (st : List Value) (σ : a_HP) (Q : Option Value → a_HP → Prop) : Rn 150 110 ls st σ Q = acR 150 (o_bi f_add 111 ls st σ) ls σ Q := rn_row rfl ls st σ Q
theorem r_150_111 (ls : a_LS) (st : List Value) (σ : a_HP) (Q : Option Value → a_HP → Prop) : Rn 150 111 ls st σ Q = acR 150 (o_lda 0 112 ls st σ) ls σ Q := rn_row rfl ls st σ Q
theorem r_150_112 (ls : a_LS) (st : List Value) (σ : a_HP) (Q : Option Value → a_HP → Prop) : Rn 150 112 ls st σ Q = acR 150 (o_get 8 0 115 ls st σ) ls σ Q := rn_row rfl ls st σ Q
theorem r_150_115 (ls : a_LS) (st : List Value) (σ : a_HP) (Q : Option Value → a_HP → Prop) : Rn 150 115 ls st σ Q = acR 150 (o_pi (nI 3) 116 ls st σ) ls σ Q := rn_row rfl ls st σ Q
theorem r_150_116 (ls : a_LS) (st : List Value) (σ : a_HP) (Q : Option Value → a_HP → Prop) : Rn 150 116 ls st σ Q = acR 150 (o_ial 117 ls st σ) ls σ Q := rn_row rfl ls st σ Q
theorem r_150_117 (ls : a_LS) (st : List Value) (σ : a_HP) (Q : Option Value → a_HP → Prop) : Rn 150 117 ls st σ Q = acR 150 (o_ias 118 ls st σ) ls σ Q := rn_row rfl ls st σ Q
theorem r_150_118 (ls : a_LS) (st : List Value) (σ : a_HP) (Q : Option Value → a_HP → Prop) : Rn 150 118 ls st σ Q = acR 150 (o_lda 0 119 ls st σ) ls σ Q := rn_row rfl ls st σ Q
theorem r_150_119 (ls : a_LS) (st : List Value) (σ : a_HP) (Q : Option Value → a_HP → Prop) : Rn 150 119 ls st σ Q = acR 150 (o_get 8 0 122 ls st σ) ls σ Q := rn_row rfl ls st σ Q
theorem r_150_122 (ls : a_LS) (st : List Value) (σ : a_HP) (Q : Option Value → a_HP → Prop) : Rn 150 122 ls st σ Q = acR 150 (o_pi (nI 80) 124 ls st σ) ls σ Q := rn_row rfl ls st σ Q
theorem r_150_124 (ls : a_LS) (st : List Value) (σ : a_HP) (Q : Option Value → a_HP → Prop) : Rn 150 124 ls st σ Q = acR 150 (o_dup2 125 ls st σ) ls σ Q := rn_row rfl ls st σ Q
theorem r_150_125 (ls : a_LS) (st : List Value) (σ : a_HP) (Q : Option Value → a_HP → Prop) : Rn 150 125 ls st σ Q = acR 150 (o_ial 126 ls st σ) ls σ Q := rn_row rfl ls st σ Q
theorem r_150_126 (ls : a_LS) (st : List Value) (σ : a_HP) (Q : Option Value → a_HP → Prop) : Rn 150 126 ls st σ Q = acR 150 (o_pi (nI 1) 127 ls st σ) ls σ Q := rn_row rfl ls st σ Q
theorem r_150_127 (ls : a_LS) (st : List Value) (σ : a_HP) (Q : Option Value → a_HP → Prop) : Rn 150 127 ls st σ Q = acR 150 (o_bi f_add 128 ls st σ) ls σ Q := rn_row rfl ls st σ Q
theorem r_150_128 (ls : a_LS) (st : List Value) (σ : a_HP) (Q : Option Value → a_HP → Prop) : Rn 150 128 ls st σ Q = acR 150 (o_ias 129 ls st σ) ls σ Q := rn_row rfl ls st σ Q
theorem r_150_129 (ls : a_LS) (st : List Value) (σ : a_HP) (Q : Option Value → a_HP → Prop) : Rn 150 129 ls st σ Q = acR 150 (o_rv ls st σ) ls σ Q := rn_row rfl ls st σ Q
/-! 151: NetLawModel.mayTie(IIII)Z -/
theorem cl_151 (x0 : Int32) (x1 : Int32) (x2 : Int32) (x3 : Int32) (σ : a_HP) (Q : Option Value → a_HP → Prop) : Cl 151 [.int x0, .int x1, .int x2, .int x3] σ Q = Rn 151 0 [some (.int x0), some (.int x1), some (.int x2), some (.int x3)] [] σ Q := cl_of (Nat.le_of_ble_eq_true rfl) rfl σ Q
theorem r_151_0 (ls : a_LS) (st : List Value) (σ : a_HP) (Q : Option Value → a_HP → Prop) : Rn 151 0 ls st σ Q = acR 151 (o_ldi 0 1 ls st σ) ls σ Q := rn_row rfl ls st σ Q
theorem r_151_1 (ls : a_LS) (st : List Value) (σ : a_HP) (Q : Option Value → a_HP → Prop) : Rn 151 1 ls st σ Q = acR 151 (o_ivs 141 1 4 ls st σ) ls σ Q := rn_row rfl ls st σ Q
theorem r_151_4 (ls : a_LS) (st : List Value) (σ : a_HP) (Q : Option Value → a_HP → Prop) : Rn 151 4 ls st σ Q = acR 151 (o_eq 47 7 ls st σ) ls σ Q := rn_row rfl ls st σ Q
theorem r_151_7 (ls : a_LS) (st : List Value) (σ : a_HP) (Q : Option Value → a_HP → Prop) : Rn 151 7 ls st σ Q = acR 151 (o_ldi 1 8 ls st σ) ls σ Q := rn_row rfl ls st σ Q
theorem r_151_8 (ls : a_LS) (st : List Value) (σ : a_HP) (Q : Option Value → a_HP → Prop) : Rn 151 8 ls st σ Q = acR 151 (o_i2l 9 ls st σ) ls σ Q := rn_row rfl ls st σ Q
theorem r_151_9 (ls : a_LS) (st : List Value) (σ : a_HP) (Q : Option Value → a_HP → Prop) : Rn 151 9 ls st σ Q = acR 151 (o_pl (lN 0) 10 ls st σ) ls σ Q := rn_row rfl ls st σ Q
theorem r_151_10 (ls : a_LS) (st : List Value) (σ : a_HP) (Q : Option Value → a_HP → Prop) : Rn 151 10 ls st σ Q = acR 151 (o_pl (lN 5) 13 ls st σ) ls σ Q := rn_row rfl ls st σ Q
theorem r_151_13 (ls : a_LS) (st : List Value) (σ : a_HP) (Q : Option Value → a_HP → Prop) : Rn 151 13 ls st σ Q = acR 151 (o_ivs 122 3 16 ls st σ) ls σ Q := rn_row rfl ls st σ Q
theorem r_151_16 (ls : a_LS) (st : List Value) (σ : a_HP) (Q : Option Value → a_HP → Prop) : Rn 151 16 ls st σ Q = acR 151 (o_eq 47 19 ls st σ) ls σ Q := rn_row rfl ls st σ Q
theorem r_151_19 (ls : a_LS) (st : List Value) (σ : a_HP) (Q : Option Value → a_HP → Prop) : Rn 151 19 ls st σ Q = acR 151 (o_ldi 2 20 ls st σ) ls σ Q := rn_row rfl ls st σ Q
theorem r_151_20 (ls : a_LS) (st : List Value) (σ : a_HP) (Q : Option Value → a_HP → Prop) : Rn 151 20 ls st σ Q = acR 151 (o_i2l 21 ls st σ) ls σ Q := rn_row rfl ls st σ Q
theorem r_151_21 (ls : a_LS) (st : List Value) (σ : a_HP) (Q : Option Value → a_HP → Prop) : Rn 151 21 ls st σ Q = acR 151 (o_pl (lN 1) 22 ls st σ) ls σ Q := rn_row rfl ls st σ Q
theorem r_151_22 (ls : a_LS) (st : List Value) (σ : a_HP) (Q : Option Value → a_HP → Prop) : Rn 151 22 ls st σ Q = acR 151 (o_pl (lN 9) 25 ls st σ) ls σ Q := rn_row rfl ls st σ Q
theorem r_151_25 (ls : a_LS) (st : List Value) (σ : a_HP) (Q : Option Value → a_HP → Prop) : Rn 151 25 ls st σ Q = acR 151 (o_ivs 122 3 28 ls st σ) ls σ Q := rn_row rfl ls st σ Q
theorem r_151_28 (ls : a_LS) (st : List Value) (σ : a_HP) (Q : Option Value → a_HP → Prop) : Rn 151 28 ls st σ Q = acR 151 (o_eq 47 31 ls st σ) ls σ Q := rn_row rfl ls st σ Q
theorem r_151_31 (ls : a_LS) (st : List Value) (σ : a_HP) (Q : Option Value → a_HP → Prop) : Rn 151 31 ls st σ Q = acR 151 (o_ldi 3 32 ls st σ) ls σ Q := rn_row rfl ls st σ Q
theorem r_151_32 (ls : a_LS) (st : List Value) (σ : a_HP) (Q : Option Value → a_HP → Prop) : Rn 151 32 ls st σ Q = acR 151 (o_i2l 33 ls st σ) ls σ Q := rn_row rfl ls st σ Q
theorem r_151_33 (ls : a_LS) (st : List Value) (σ : a_HP) (Q : Option Value → a_HP → Prop) : Rn 151 33 ls st σ Q = acR 151 (o_pl (lN 0) 34 ls st σ) ls σ Q := rn_row rfl ls st σ Q
theorem r_151_34 (ls : a_LS) (st : List Value) (σ : a_HP) (Q : Option Value → a_HP → Prop) : Rn 151 34 ls st σ Q = acR 151 (o_pl (lN 2) 37 ls st σ) ls σ Q := rn_row rfl ls st σ Q
theorem r_151_37 (ls : a_LS) (st : List Value) (σ : a_HP) (Q : Option Value → a_HP → Prop) : Rn 151 37 ls st σ Q = acR 151 (o_ivs 122 3 40 ls st σ) ls σ Q := rn_row rfl ls st σ Q
theorem r_151_40 (ls : a_LS) (st : List Value) (σ : a_HP) (Q : Option Value → a_HP → Prop) : Rn 151 40 ls st σ Q = acR 151 (o_eq 47 43 ls st σ) ls σ Q := rn_row rfl ls st σ Q
theorem r_151_43 (ls : a_LS) (st : List Value) (σ : a_HP) (Q : Option Value → a_HP → Prop) : Rn 151 43 ls st σ Q = acR 151 (o_pi (nI 1) 44 ls st σ) ls σ Q := rn_row rfl ls st σ Q
theorem r_151_44 (ls : a_LS) (st : List Value) (σ : a_HP) (Q : Option Value → a_HP → Prop) : Rn 151 44 ls st σ Q = acR 151 (o_go 48 ls st σ) ls σ Q := rn_row rfl ls st σ Q
theorem r_151_47 (ls : a_LS) (st : List Value) (σ : a_HP) (Q : Option Value → a_HP → Prop) : Rn 151 47 ls st σ Q = acR 151 (o_pi (nI 0) 48 ls st σ) ls σ Q := rn_row rfl ls st σ Q
theorem r_151_48 (ls : a_LS) (st : List Value) (σ : a_HP) (Q : Option Value → a_HP → Prop) : Rn 151 48 ls st σ Q = acR 151 (o_rz ls st σ) ls σ Q := rn_row rfl ls st σ Q
/-! 152: NetLawModel.ties([IIIII)V -/
theorem cl_152 (x0 : Nat) (x1 : Int32) (x2 : Int32) (x3 : Int32) (x4 : Int32) (σ : a_HP) (Q : Option Value → a_HP → Prop) : Cl 152 [.ref x0, .int x1, .int x2, .int x3, .int x4] σ Q = Rn 152 0 [some (.ref x0), some (.int x1), some (.int x2), some (.int x3), some (.int x4)] [] σ Q := cl_of (Nat.le_of_ble_eq_true rfl) rfl σ Q
theorem r_152_0 (ls : a_LS) (st : List Value) (σ : a_HP) (Q : Option Value → a_HP → Prop) : Rn 152 0 ls st σ Q = acR 152 (o_lda 0 1 ls st σ) ls σ Q := rn_row rfl ls st σ Q
theorem r_152_1 (ls : a_LS) (st : List Value) (σ : a_HP) (Q : Option Value → a_HP → Prop) : Rn 152 1 ls st σ Q = acR 152 (o_pi (nI 4) 2 ls st σ) ls σ Q := rn_row rfl ls st σ Q
theorem r_152_2 (ls : a_LS) (st : List Value) (σ : a_HP) (Q : Option Value → a_HP → Prop) : Rn 152 2 ls st σ Q = acR 152 (o_ldi 1 3 ls st σ) ls σ Q := rn_row rfl ls st σ Q
theorem r_152_3 (ls : a_LS) (st : List Value) (σ : a_HP) (Q : Option Value → a_HP → Prop) : Rn 152 3 ls st σ Q = acR 152 (o_bi f_add 4 ls st σ) ls σ Q := rn_row rfl ls st σ Q
theorem r_152_4 (ls : a_LS) (st : List Value) (σ : a_HP) (Q : Option Value → a_HP → Prop) : Rn 152 4 ls st σ Q = acR 152 (o_ldi 2 5 ls st σ) ls σ Q := rn_row rfl ls st σ Q
theorem r_152_5 (ls : a_LS) (st : List Value) (σ : a_HP) (Q : Option Value → a_HP → Prop) : Rn 152 5 ls st σ Q = acR 152 (o_ias 6 ls st σ) ls σ Q := rn_row rfl ls st σ Q
theorem r_152_6 (ls : a_LS) (st : List Value) (σ : a_HP) (Q : Option Value → a_HP → Prop) : Rn 152 6 ls st σ Q = acR 152 (o_lda 0 7 ls st σ) ls σ Q := rn_row rfl ls st σ Q
theorem r_152_7 (ls : a_LS) (st : List Value) (σ : a_HP) (Q : Option Value → a_HP → Prop) : Rn 152 7 ls st σ Q = acR 152 (o_pi (nI 20) 9 ls st σ) ls σ Q := rn_row rfl ls st σ Q
theorem r_152_9 (ls : a_LS) (st : List Value) (σ : a_HP) (Q : Option Value → a_HP → Prop) : Rn 152 9 ls st σ Q = acR 152 (o_ldi 1 10 ls st σ) ls σ Q := rn_row rfl ls st σ Q
theorem r_152_10 (ls : a_LS) (st : List Value) (σ : a_HP) (Q : Option Value → a_HP → Prop) : Rn 152 10 ls st σ Q = acR 152 (o_bi f_add 11 ls st σ) ls σ Q := rn_row rfl ls st σ Q
theorem r_152_11 (ls : a_LS) (st : List Value) (σ : a_HP) (Q : Option Value → a_HP → Prop) : Rn 152 11 ls st σ Q = acR 152 (o_ldi 3 12 ls st σ) ls σ Q := rn_row rfl ls st σ Q
theorem r_152_12 (ls : a_LS) (st : List Value) (σ : a_HP) (Q : Option Value → a_HP → Prop) : Rn 152 12 ls st σ Q = acR 152 (o_ias 13 ls st σ) ls σ Q := rn_row rfl ls st σ Q
theorem r_152_13 (ls : a_LS) (st : List Value) (σ : a_HP) (Q : Option Value → a_HP → Prop) : Rn 152 13 ls st σ Q = acR 152 (o_lda 0 14 ls st σ) ls σ Q := rn_row rfl ls st σ Q
theorem r_152_14 (ls : a_LS) (st : List Value) (σ : a_HP) (Q : Option Value → a_HP → Prop) : Rn 152 14 ls st σ Q = acR 152 (o_pi (nI 36) 16 ls st σ) ls σ Q := rn_row rfl ls st σ Q
theorem r_152_16 (ls : a_LS) (st : List Value) (σ : a_HP) (Q : Option Value → a_HP → Prop) : Rn 152 16 ls st σ Q = acR 152 (o_ldi 1 17 ls st σ) ls σ Q := rn_row rfl ls st σ Q
theorem r_152_17 (ls : a_LS) (st : List Value) (σ : a_HP) (Q : Option Value → a_HP → Prop) : Rn 152 17 ls st σ Q = acR 152 (o_bi f_add 18 ls st σ) ls σ Q := rn_row rfl ls st σ Q
theorem r_152_18 (ls : a_LS) (st : List Value) (σ : a_HP) (Q : Option Value → a_HP → Prop) : Rn 152 18 ls st σ Q = acR 152 (o_ldi 4 20 ls st σ) ls σ Q := rn_row rfl ls st σ Q
theorem r_152_20 (ls : a_LS) (st : List Value) (σ : a_HP) (Q : Option Value → a_HP → Prop) : Rn 152 20 ls st σ Q = acR 152 (o_ias 21 ls st σ) ls σ Q := rn_row rfl ls st σ Q
theorem r_152_21 (ls : a_LS) (st : List Value) (σ : a_HP) (Q : Option Value → a_HP → Prop) : Rn 152 21 ls st σ Q = acR 152 (o_rv ls st σ) ls σ Q := rn_row rfl ls st σ Q
/-! 153: NetLawModel.tie(IIII)I -/
theorem cl_153 (x0 : Nat) (x1 : Int32) (x2 : Int32) (x3 : Int32) (x4 : Int32) (σ : a_HP) (Q : Option Value → a_HP → Prop) : Cl 153 [.ref x0, .int x1, .int x2, .int x3, .int x4] σ Q = Rn 153 0 [some (.ref x0), some (.int x1), some (.int x2), some (.int x3), some (.int x4), none] [] σ Q := cl_of (Nat.le_of_ble_eq_true rfl) rfl σ Q
theorem r_153_0 (ls : a_LS) (st : List Value) (σ : a_HP) (Q : Option Value → a_HP → Prop) : Rn 153 0 ls st σ Q = acR 153 (o_ldi 1 1 ls st σ) ls σ Q := rn_row rfl ls st σ Q
theorem r_153_1 (ls : a_LS) (st : List Value) (σ : a_HP) (Q : Option Value → a_HP → Prop) : Rn 153 1 ls st σ Q = acR 153 (o_ldi 2 2 ls st σ) ls σ Q := rn_row rfl ls st σ Q
theorem r_153_2 (ls : a_LS) (st : List Value) (σ : a_HP) (Q : Option Value → a_HP → Prop) : Rn 153 2 ls st σ Q = acR 153 (o_ldi 3 3 ls st σ) ls σ Q := rn_row rfl ls st σ Q
theorem r_153_3 (ls : a_LS) (st : List Value) (σ : a_HP) (Q : Option Value → a_HP → Prop) : Rn 153 3 ls st σ Q = acR 153 (o_ldi 4 5 ls st σ) ls σ Q := rn_row rfl ls st σ Q
theorem r_153_5 (ls : a_LS) (st : List Value) (σ : a_HP) (Q : Option Value → a_HP → Prop) : Rn 153 5 ls st σ Q = acR 153 (o_ivs 151 4 8 ls st σ) ls σ Q := rn_row rfl ls st σ Q
theorem r_153_8 (ls : a_LS) (st : List Value) (σ : a_HP) (Q : Option Value → a_HP → Prop) : Rn 153 8 ls st σ Q = acR 153 (o_ne 16 11 ls st σ) ls σ Q := rn_row rfl ls st σ Q
theorem r_153_11 (ls : a_LS) (st : List Value) (σ : a_HP) (Q : Option Value → a_HP → Prop) : Rn 153 11 ls st σ Q = acR 153 (o_lda 0 12 ls st σ) ls σ Q := rn_row rfl ls st σ Q
theorem r_153_12 (ls : a_LS) (st : List Value) (σ : a_HP) (Q : Option Value → a_HP → Prop) : Rn 153 12 ls st σ Q = acR 153 (o_ivv 8 125 0 15 ls st σ) ls σ Q := rn_row rfl ls st σ Q
theorem r_153_15 (ls : a_LS) (st : List Value) (σ : a_HP) (Q : Option Value → a_HP → Prop) : Rn 153 15 ls st σ Q = acR 153 (o_ri ls st σ) ls σ Q := rn_row rfl ls st σ Q
theorem r_153_16 (ls : a_LS) (st : List Value) (σ : a_HP) (Q : Option Value → a_HP → Prop) : Rn 153 16 ls st σ Q = acR 153 (o_lda 0 17 ls st σ) ls σ Q := rn_row rfl ls st σ Q
theorem r_153_17 (ls : a_LS) (st : List Value) (σ : a_HP) (Q : Option Value → a_HP → Prop) : Rn 153 17 ls st σ Q = acR 153 (o_ivv 8 150 0 20 ls st σ) ls σ Q := rn_row rfl ls st σ Q
theorem r_153_20 (ls : a_LS) (st : List Value) (σ : a_HP) (Q : Option Value → a_HP → Prop) : Rn 153 20 ls st σ Q = acR 153 (o_lda 0 21 ls st σ) ls σ Q := rn_row rfl ls st σ Q
theorem r_153_21 (ls : a_LS) (st : List Value) (σ : a_HP) (Q : Option Value → a_HP → Prop) : Rn 153 21 ls st σ Q = acR 153 (o_get 8 0 24 ls st σ) ls σ Q := rn_row rfl ls st σ Q
theorem r_153_24 (ls : a_LS) (st : List Value) (σ : a_HP) (Q : Option Value → a_HP → Prop) : Rn 153 24 ls st σ Q = acR 153 (o_pi (nI 20) 26 ls st σ) ls σ Q := rn_row rfl ls st σ Q
theorem r_153_26 (ls : a_LS) (st : List Value) (σ : a_HP) (Q : Option Value → a_HP → Prop) : Rn 153 26 ls st σ Q = acR 153 (o_ldi 1 27 ls st σ) ls σ Q := rn_row rfl ls st σ Q
theorem r_153_27 (ls : a_LS) (st : List Value) (σ : a_HP) (Q : Option Value → a_HP → Prop) : Rn 153 27 ls st σ Q = acR 153 (o_bi f_add 28 ls st σ) ls σ Q := rn_row rfl ls st σ Q
theorem r_153_28 (ls : a_LS) (st : List Value) (σ : a_HP) (Q : Option Value → a_HP → Prop) : Rn 153 28 ls st σ Q = acR 153 (o_ial 29 ls st σ) ls σ Q := rn_row rfl ls st σ Q
theorem r_153_29 (ls : a_LS) (st : List Value) (σ : a_HP) (Q : Option Value → a_HP → Prop) : Rn 153 29 ls st σ Q = acR 153 (o_sti 5 31 ls st σ) ls σ Q := rn_row rfl ls st σ Q
theorem r_153_31 (ls : a_LS) (st : List Value) (σ : a_HP) (Q : Option Value → a_HP → Prop) : Rn 153 31 ls st σ Q = acR 153 (o_lda 0 32 ls st σ) ls σ Q := rn_row rfl ls st σ Q
theorem r_153_32 (ls : a_LS) (st : List Value) (σ : a_HP) (Q : Option Value → a_HP → Prop) : Rn 153 32 ls st σ Q = acR 153 (o_get 8 0 35 ls st σ) ls σ Q := rn_row rfl ls st σ Q
theorem r_153_35 (ls : a_LS) (st : List Value) (σ : a_HP) (Q : Option Value → a_HP → Prop) : Rn 153 35 ls st σ Q = acR 153 (o_ldi 1 36 ls st σ) ls σ Q := rn_row rfl ls st σ Q
theorem r_153_36 (ls : a_LS) (st : List Value) (σ : a_HP) (Q : Option Value → a_HP → Prop) : Rn 153 36 ls st σ Q = acR 153 (o_ldi 2 37 ls st σ) ls σ Q := rn_row rfl ls st σ Q
theorem r_153_37 (ls : a_LS) (st : List Value) (σ : a_HP) (Q : Option Value → a_HP → Prop) : Rn 153 37 ls st σ Q = acR 153 (o_ldi 3 38 ls st σ) ls σ Q := rn_row rfl ls st σ Q
theorem r_153_38 (ls : a_LS) (st : List Value) (σ : a_HP) (Q : Option Value → a_HP → Prop) : Rn 153 38 ls st σ Q = acR 153 (o_ldi 4 40 ls st σ) ls σ Q := rn_row rfl ls st σ Q
theorem r_153_40 (ls : a_LS) (st : List Value) (σ : a_HP) (Q : Option Value → a_HP → Prop) : Rn 153 40 ls st σ Q = acR 153 (o_ivs 152 5 43 ls st σ) ls σ Q := rn_row rfl ls st σ Q
theorem r_153_43 (ls : a_LS) (st : List Value) (σ : a_HP) (Q : Option Value → a_HP → Prop) : Rn 153 43 ls st σ Q = acR 153 (o_ldi 5 45 ls st σ) ls σ Q := rn_row rfl ls st σ Q
theorem r_153_45 (ls : a_LS) (st : List Value) (σ : a_HP) (Q : Option Value → a_HP → Prop) : Rn 153 45 ls st σ Q = acR 153 (o_ri ls st σ) ls σ Q := rn_row rfl ls st σ Q
/-! 154: NetLawModel.mend(II)I -/
theorem cl_154 (x0 : Nat) (x1 : Int32) (x2 : Int32) (σ : a_HP) (Q : Option Value → a_HP → Prop) : Cl 154 [.ref x0, .int x1, .int x2] σ Q = Rn 154 0 [some (.ref x0), some (.int x1), some (.int x2), none] [] σ Q := cl_of (Nat.le_of_ble_eq_true rfl) rfl σ Q
theorem r_154_0 (ls : a_LS) (st : List Value) (σ : a_HP) (Q : Option Value → a_HP → Prop) : Rn 154 0 ls st σ Q = acR 154 (o_ldi 1 1 ls st σ) ls σ Q := rn_row rfl ls st σ Q
theorem r_154_1 (ls : a_LS) (st : List Value) (σ : a_HP) (Q : Option Value → a_HP → Prop) : Rn 154 1 ls st σ Q = acR 154 (o_ivs 141 1 4 ls st σ) ls σ Q := rn_row rfl ls st σ Q
theorem r_154_4 (ls : a_LS) (st : List Value) (σ : a_HP) (Q : Option Value → a_HP → Prop) : Rn 154 4 ls st σ Q = acR 154 (o_eq 19 7 ls st σ) ls σ Q := rn_row rfl ls st σ Q
theorem r_154_7 (ls : a_LS) (st : List Value) (σ : a_HP) (Q : Option Value → a_HP → Prop) : Rn 154 7 ls st σ Q = acR 154 (o_ldi 2 8 ls st σ) ls σ Q := rn_row rfl ls st σ Q
theorem r_154_8 (ls : a_LS) (st : List Value) (σ : a_HP) (Q : Option Value → a_HP → Prop) : Rn 154 8 ls st σ Q = acR 154 (o_i2l 9 ls st σ) ls σ Q := rn_row rfl ls st σ Q
theorem r_154_9 (ls : a_LS) (st : List Value) (σ : a_HP) (Q : Option Value → a_HP → Prop) : Rn 154 9 ls st σ Q = acR 154 (o_pl (lN 1) 10 ls st σ) ls σ Q := rn_row rfl ls st σ Q
theorem r_154_10 (ls : a_LS) (st : List Value) (σ : a_HP) (Q : Option Value → a_HP → Prop) : Rn 154 10 ls st σ Q = acR 154 (o_pl (lN 9) 13 ls st σ) ls σ Q := rn_row rfl ls st σ Q
theorem r_154_13 (ls : a_LS) (st : List Value) (σ : a_HP) (Q : Option Value → a_HP → Prop) : Rn 154 13 ls st σ Q = acR 154 (o_ivs 122 3 16 ls st σ) ls σ Q := rn_row rfl ls st σ Q
theorem r_154_16 (ls : a_LS) (st : List Value) (σ : a_HP) (Q : Option Value → a_HP → Prop) : Rn 154 16 ls st σ Q = acR 154 (o_ne 24 19 ls st σ) ls σ Q := rn_row rfl ls st σ Q
theorem r_154_19 (ls : a_LS) (st : List Value) (σ : a_HP) (Q : Option Value → a_HP → Prop) : Rn 154 19 ls st σ Q = acR 154 (o_lda 0 20 ls st σ) ls σ Q := rn_row rfl ls st σ Q
theorem r_154_20 (ls : a_LS) (st : List Value) (σ : a_HP) (Q : Option Value → a_HP → Prop) : Rn 154 20 ls st σ Q = acR 154 (o_ivv 8 125 0 23 ls st σ) ls σ Q := rn_row rfl ls st σ Q
theorem r_154_23 (ls : a_LS) (st : List Value) (σ : a_HP) (Q : Option Value → a_HP → Prop) : Rn 154 23 ls st σ Q = acR 154 (o_ri ls st σ) ls σ Q := rn_row rfl ls st σ Q
theorem r_154_24 (ls : a_LS) (st : List Value) (σ : a_HP) (Q : Option Value → a_HP → Prop) : Rn 154 24 ls st σ Q = acR 154 (o_lda 0 25 ls st σ) ls σ Q := rn_row rfl ls st σ Q
theorem r_154_25 (ls : a_LS) (st : List Value) (σ : a_HP) (Q : Option Value → a_HP → Prop) : Rn 154 25 ls st σ Q = acR 154 (o_get 8 0 28 ls st σ) ls σ Q := rn_row rfl ls st σ Q
theorem r_154_28 (ls : a_LS) (st : List Value) (σ : a_HP) (Q : Option Value → a_HP → Prop) : Rn 154 28 ls st σ Q = acR 154 (o_pi (nI 20) 30 ls st σ) ls σ Q := rn_row rfl ls st σ Q
theorem r_154_30 (ls : a_LS) (st : List Value) (σ : a_HP) (Q : Option Value → a_HP → Prop) : Rn 154 30 ls st σ Q = acR 154 (o_ldi 1 31 ls st σ) ls σ Q := rn_row rfl ls st σ Q
theorem r_154_31 (ls : a_LS) (st : List Value) (σ : a_HP) (Q : Option Value → a_HP → Prop) : Rn 154 31 ls st σ Q = acR 154 (o_bi f_add 32 ls st σ) ls σ Q := rn_row rfl ls st σ Q
theorem r_154_32 (ls : a_LS) (st : List Value) (σ : a_HP) (Q : Option Value → a_HP → Prop) : Rn 154 32 ls st σ Q = acR 154 (o_ial 33 ls st σ) ls σ Q := rn_row rfl ls st σ Q
theorem r_154_33 (ls : a_LS) (st : List Value) (σ : a_HP) (Q : Option Value → a_HP → Prop) : Rn 154 33 ls st σ Q = acR 154 (o_sti 3 34 ls st σ) ls σ Q := rn_row rfl ls st σ Q
theorem r_154_34 (ls : a_LS) (st : List Value) (σ : a_HP) (Q : Option Value → a_HP → Prop) : Rn 154 34 ls st σ Q = acR 154 (o_ldi 3 35 ls st σ) ls σ Q := rn_row rfl ls st σ Q
theorem r_154_35 (ls : a_LS) (st : List Value) (σ : a_HP) (Q : Option Value → a_HP → Prop) : Rn 154 35 ls st σ Q = acR 154 (o_eq 56 38 ls st σ) ls σ Q := rn_row rfl ls st σ Q
theorem r_154_38 (ls : a_LS) (st : List Value) (σ : a_HP) (Q : Option Value → a_HP → Prop) : Rn 154 38 ls st σ Q = acR 154 (o_ldi 3 39 ls st σ) ls σ Q := rn_row rfl ls st σ Q
theorem r_154_39 (ls : a_LS) (st : List Value) (σ : a_HP) (Q : Option Value → a_HP → Prop) : Rn 154 39 ls st σ Q = acR 154 (o_ldi 2 40 ls st σ) ls σ Q := rn_row rfl ls st σ Q
theorem r_154_40 (ls : a_LS) (st : List Value) (σ : a_HP) (Q : Option Value → a_HP → Prop) : Rn 154 40 ls st σ Q = acR 154 (o_bi f_add 41 ls st σ) ls σ Q := rn_row rfl ls st σ Q
theorem r_154_41 (ls : a_LS) (st : List Value) (σ : a_HP) (Q : Option Value → a_HP → Prop) : Rn 154 41 ls st σ Q = acR 154 (o_pi (nI 9) 43 ls st σ) ls σ Q := rn_row rfl ls st σ Q
theorem r_154_43 (ls : a_LS) (st : List Value) (σ : a_HP) (Q : Option Value → a_HP → Prop) : Rn 154 43 ls st σ Q = acR 154 (o_cgt 56 46 ls st σ) ls σ Q := rn_row rfl ls st σ Q
theorem r_154_46 (ls : a_LS) (st : List Value) (σ : a_HP) (Q : Option Value → a_HP → Prop) : Rn 154 46 ls st σ Q = acR 154 (o_lda 0 47 ls st σ) ls σ Q := rn_row rfl ls st σ Q
theorem r_154_47 (ls : a_LS) (st : List Value) (σ : a_HP) (Q : Option Value → a_HP → Prop) : Rn 154 47 ls st σ Q = acR 154 (o_get 8 0 50 ls st σ) ls σ Q := rn_row rfl ls st σ Q
theorem r_154_50 (ls : a_LS) (st : List Value) (σ : a_HP) (Q : Option Value → a_HP → Prop) : Rn 154 50 ls st σ Q = acR 154 (o_pi (nI 1) 51 ls st σ) ls σ Q := rn_row rfl ls st σ Q
theorem r_154_51 (ls : a_LS) (st : List Value) (σ : a_HP) (Q : Option Value → a_HP → Prop) : Rn 154 51 ls st σ Q = acR 154 (o_ial 52 ls st σ) ls σ Q := rn_row rfl ls st σ Q
theorem r_154_52 (ls : a_LS) (st : List Value) (σ : a_HP) (Q : Option Value → a_HP → Prop) : Rn 154 52 ls st σ Q = acR 154 (o_ldi 2 53 ls st σ) ls σ Q := rn_row rfl ls st σ Q
theorem r_154_53 (ls : a_LS) (st : List Value) (σ : a_HP) (Q : Option Value → a_HP → Prop) : Rn 154 53 ls st σ Q = acR 154 (o_cge 63 56 ls st σ) ls σ Q := rn_row rfl ls st σ Q
theorem r_154_56 (ls : a_LS) (st : List Value) (σ : a_HP) (Q : Option Value → a_HP → Prop) : Rn 154 56 ls st σ Q = acR 154 (o_lda 0 57 ls st σ) ls σ Q := rn_row rfl ls st σ Q
theorem r_154_57 (ls : a_LS) (st : List Value) (σ : a_HP) (Q : Option Value → a_HP → Prop) : Rn 154 57 ls st σ Q = acR 154 (o_pi (-3) 59 ls st σ) ls σ Q := rn_row rfl ls st σ Q
theorem r_154_59 (ls : a_LS) (st : List Value) (σ : a_HP) (Q : Option Value → a_HP → Prop) : Rn 154 59 ls st σ Q = acR 154 (o_ivv 8 127 1 62 ls st σ) ls σ Q := rn_row rfl ls st σ Q
theorem r_154_62 (ls : a_LS) (st : List Value) (σ : a_HP) (Q : Option Value → a_HP → Prop) : Rn 154 62 ls st σ Q = acR 154 (o_ri ls st σ) ls σ Q := rn_row rfl ls st σ Q
theorem r_154_63 (ls : a_LS) (st : List Value) (σ : a_HP) (Q : Option Value → a_HP → Prop) : Rn 154 63 ls st σ Q = acR 154 (o_lda 0 64 ls st σ) ls σ Q := rn_row rfl ls st σ Q
theorem r_154_64 (ls : a_LS) (st : List Value) (σ : a_HP) (Q : Option Value → a_HP → Prop) : Rn 154 64 ls st σ Q = acR 154 (o_ivv 8 150 0 67 ls st σ) ls σ Q := rn_row rfl ls st σ Q
theorem r_154_67 (ls : a_LS) (st : List Value) (σ : a_HP) (Q : Option Value → a_HP → Prop) : Rn 154 67 ls st σ Q = acR 154 (o_lda 0 68 ls st σ) ls σ Q := rn_row rfl ls st σ Q
theorem r_154_68 (ls : a_LS) (st : List Value) (σ : a_HP) (Q : Option Value → a_HP → Prop) : Rn 154 68 ls st σ Q = acR 154 (o_get 8 0 71 ls st σ) ls σ Q := rn_row rfl ls st σ Q
theorem r_154_71 (ls : a_LS) (st : List Value) (σ : a_HP) (Q : Option Value → a_HP → Prop) : Rn 154 71 ls st σ Q = acR 154 (o_pi (nI 20) 73 ls st σ) ls σ Q := rn_row rfl ls st σ Q
theorem r_154_73 (ls : a_LS) (st : List Value) (σ : a_HP) (Q : Option Value → a_HP → Prop) : Rn 154 73 ls st σ Q = acR 154 (o_ldi 1 74 ls st σ) ls σ Q := rn_row rfl ls st σ Q
theorem r_154_74 (ls : a_LS) (st : List Value) (σ : a_HP) (Q : Option Value → a_HP → Prop) : Rn 154 74 ls st σ Q = acR 154 (o_bi f_add 75 ls st σ) ls σ Q := rn_row rfl ls st σ Q
theorem r_154_75 (ls : a_LS) (st : List Value) (σ : a_HP) (Q : Option Value → a_HP → Prop) : Rn 154 75 ls st σ Q = acR 154 (o_dup2 76 ls st σ) ls σ Q := rn_row rfl ls st σ Q
theorem r_154_76 (ls : a_LS) (st : List Value) (σ : a_HP) (Q : Option Value → a_HP → Prop) : Rn 154 76 ls st σ Q = acR 154 (o_ial 77 ls st σ) ls σ Q := rn_row rfl ls st σ Q
theorem r_154_77 (ls : a_LS) (st : List Value) (σ : a_HP) (Q : Option Value → a_HP → Prop) : Rn 154 77 ls st σ Q = acR 154 (o_ldi 2 78 ls st σ) ls σ Q := rn_row rfl ls st σ Q
theorem r_154_78 (ls : a_LS) (st : List Value) (σ : a_HP) (Q : Option Value → a_HP → Prop) : Rn 154 78 ls st σ Q = acR 154 (o_bi f_add 79 ls st σ) ls σ Q := rn_row rfl ls st σ Q
theorem r_154_79 (ls : a_LS) (st : List Value) (σ : a_HP) (Q : Option Value → a_HP → Prop) : Rn 154 79 ls st σ Q = acR 154 (o_ias 80 ls st σ) ls σ Q := rn_row rfl ls st σ Q
theorem r_154_80 (ls : a_LS) (st : List Value) (σ : a_HP) (Q : Option Value → a_HP → Prop) : Rn 154 80 ls st σ Q = acR 154 (o_lda 0 81 ls st σ) ls σ Q := rn_row rfl ls st σ Q
theorem r_154_81 (ls : a_LS) (st : List Value) (σ : a_HP) (Q : Option Value → a_HP → Prop) : Rn 154 81 ls st σ Q = acR 154 (o_get 8 0 84 ls st σ) ls σ Q := rn_row rfl ls st σ Q
theorem r_154_84 (ls : a_LS) (st : List Value) (σ : a_HP) (Q : Option Value → a_HP → Prop) : Rn 154 84 ls st σ Q = acR 154 (o_pi (nI 1) 85 ls st σ) ls σ Q := rn_row rfl ls st σ Q
theorem r_154_85 (ls : a_LS) (st : List Value) (σ : a_HP) (Q : Option Value → a_HP → Prop) : Rn 154 85 ls st σ Q = acR 154 (o_dup2 86 ls st σ) ls σ Q := rn_row rfl ls st σ Q
theorem r_154_86 (ls : a_LS) (st : List Value) (σ : a_HP) (Q : Option Value → a_HP → Prop) : Rn 154 86 ls st σ Q = acR 154 (o_ial 87 ls st σ) ls σ Q := rn_row rfl ls st σ Q
theorem r_154_87 (ls : a_LS) (st : List Value) (σ : a_HP) (Q : Option Value → a_HP → Prop) : Rn 154 87 ls st σ Q = acR 154 (o_ldi 2 88 ls st σ) ls σ Q := rn_row rfl ls st σ Q
theorem r_154_88 (ls : a_LS) (st : List Value) (σ : a_HP) (Q : Option Value → a_HP → Prop) : Rn 154 88 ls st σ Q = acR 154 (o_bi f_sub 89 ls st σ) ls σ Q := rn_row rfl ls st σ Q
theorem r_154_89 (ls : a_LS) (st : List Value) (σ : a_HP) (Q : Option Value → a_HP → Prop) : Rn 154 89 ls st σ Q = acR 154 (o_ias 90 ls st σ) ls σ Q := rn_row rfl ls st σ Q
theorem r_154_90 (ls : a_LS) (st : List Value) (σ : a_HP) (Q : Option Value → a_HP → Prop) : Rn 154 90 ls st σ Q = acR 154 (o_ldi 3 91 ls st σ) ls σ Q := rn_row rfl ls st σ Q
theorem r_154_91 (ls : a_LS) (st : List Value) (σ : a_HP) (Q : Option Value → a_HP → Prop) : Rn 154 91 ls st σ Q = acR 154 (o_ldi 2 92 ls st σ) ls σ Q := rn_row rfl ls st σ Q
theorem r_154_92 (ls : a_LS) (st : List Value) (σ : a_HP) (Q : Option Value → a_HP → Prop) : Rn 154 92 ls st σ Q = acR 154 (o_bi f_add 93 ls st σ) ls σ Q := rn_row rfl ls st σ Q
theorem r_154_93 (ls : a_LS) (st : List Value) (σ : a_HP) (Q : Option Value → a_HP → Prop) : Rn 154 93 ls st σ Q = acR 154 (o_ri ls st σ) ls σ Q := rn_row rfl ls st σ Q
/-! 155: NetLawModel.drop(I)I -/
theorem cl_155 (x0 : Nat) (x1 : Int32) (σ : a_HP) (Q : Option Value → a_HP → Prop) : Cl 155 [.ref x0, .int x1] σ Q = Rn 155 0 [some (.ref x0), some (.int x1), none] [] σ Q := cl_of (Nat.le_of_ble_eq_true rfl) rfl σ Q
theorem r_155_0 (ls : a_LS) (st : List Value) (σ : a_HP) (Q : Option Value → a_HP → Prop) : Rn 155 0 ls st σ Q = acR 155 (o_ldi 1 1 ls st σ) ls σ Q := rn_row rfl ls st σ Q
theorem r_155_1 (ls : a_LS) (st : List Value) (σ : a_HP) (Q : Option Value → a_HP → Prop) : Rn 155 1 ls st σ Q = acR 155 (o_ivs 141 1 4 ls st σ) ls σ Q := rn_row rfl ls st σ Q
theorem r_155_4 (ls : a_LS) (st : List Value) (σ : a_HP) (Q : Option Value → a_HP → Prop) : Rn 155 4 ls st σ Q = acR 155 (o_ne 12 7 ls st σ) ls σ Q := rn_row rfl ls st σ Q
theorem r_155_7 (ls : a_LS) (st : List Value) (σ : a_HP) (Q : Option Value → a_HP → Prop) : Rn 155 7 ls st σ Q = acR 155 (o_lda 0 8 ls st σ) ls σ Q := rn_row rfl ls st σ Q
theorem r_155_8 (ls : a_LS) (st : List Value) (σ : a_HP) (Q : Option Value → a_HP → Prop) : Rn 155 8 ls st σ Q = acR 155 (o_ivv 8 125 0 11 ls st σ) ls σ Q := rn_row rfl ls st σ Q
theorem r_155_11 (ls : a_LS) (st : List Value) (σ : a_HP) (Q : Option Value → a_HP → Prop) : Rn 155 11 ls st σ Q = acR 155 (o_ri ls st σ) ls σ Q := rn_row rfl ls st σ Q
theorem r_155_12 (ls : a_LS) (st : List Value) (σ : a_HP) (Q : Option Value → a_HP → Prop) : Rn 155 12 ls st σ Q = acR 155 (o_lda 0 13 ls st σ) ls σ Q := rn_row rfl ls st σ Q
theorem r_155_13 (ls : a_LS) (st : List Value) (σ : a_HP) (Q : Option Value → a_HP → Prop) : Rn 155 13 ls st σ Q = acR 155 (o_get 8 0 16 ls st σ) ls σ Q := rn_row rfl ls st σ Q
theorem r_155_16 (ls : a_LS) (st : List Value) (σ : a_HP) (Q : Option Value → a_HP → Prop) : Rn 155 16 ls st σ Q = acR 155 (o_pi (nI 20) 18 ls st σ) ls σ Q := rn_row rfl ls st σ Q
theorem r_155_18 (ls : a_LS) (st : List Value) (σ : a_HP) (Q : Option Value → a_HP → Prop) : Rn 155 18 ls st σ Q = acR 155 (o_ldi 1 19 ls st σ) ls σ Q := rn_row rfl ls st σ Q
theorem r_155_19 (ls : a_LS) (st : List Value) (σ : a_HP) (Q : Option Value → a_HP → Prop) : Rn 155 19 ls st σ Q = acR 155 (o_bi f_add 20 ls st σ) ls σ Q := rn_row rfl ls st σ Q
theorem r_155_20 (ls : a_LS) (st : List Value) (σ : a_HP) (Q : Option Value → a_HP → Prop) : Rn 155 20 ls st σ Q = acR 155 (o_ial 21 ls st σ) ls σ Q := rn_row rfl ls st σ Q
theorem r_155_21 (ls : a_LS) (st : List Value) (σ : a_HP) (Q : Option Value → a_HP → Prop) : Rn 155 21 ls st σ Q = acR 155 (o_sti 2 22 ls st σ) ls σ Q := rn_row rfl ls st σ Q
theorem r_155_22 (ls : a_LS) (st : List Value) (σ : a_HP) (Q : Option Value → a_HP → Prop) : Rn 155 22 ls st σ Q = acR 155 (o_ldi 2 23 ls st σ) ls σ Q := rn_row rfl ls st σ Q
theorem r_155_23 (ls : a_LS) (st : List Value) (σ : a_HP) (Q : Option Value → a_HP → Prop) : Rn 155 23 ls st σ Q = acR 155 (o_ne 33 26 ls st σ) ls σ Q := rn_row rfl ls st σ Q
theorem r_155_26 (ls : a_LS) (st : List Value) (σ : a_HP) (Q : Option Value → a_HP → Prop) : Rn 155 26 ls st σ Q = acR 155 (o_lda 0 27 ls st σ) ls σ Q := rn_row rfl ls st σ Q
theorem r_155_27 (ls : a_LS) (st : List Value) (σ : a_HP) (Q : Option Value → a_HP → Prop) : Rn 155 27 ls st σ Q = acR 155 (o_pi (-3) 29 ls st σ) ls σ Q := rn_row rfl ls st σ Q
theorem r_155_29 (ls : a_LS) (st : List Value) (σ : a_HP) (Q : Option Value → a_HP → Prop) : Rn 155 29 ls st σ Q = acR 155 (o_ivv 8 127 1 32 ls st σ) ls σ Q := rn_row rfl ls st σ Q
theorem r_155_32 (ls : a_LS) (st : List Value) (σ : a_HP) (Q : Option Value → a_HP → Prop) : Rn 155 32 ls st σ Q = acR 155 (o_ri ls st σ) ls σ Q := rn_row rfl ls st σ Q
theorem r_155_33 (ls : a_LS) (st : List Value) (σ : a_HP) (Q : Option Value → a_HP → Prop) : Rn 155 33 ls st σ Q = acR 155 (o_lda 0 34 ls st σ) ls σ Q := rn_row rfl ls st σ Q
theorem r_155_34 (ls : a_LS) (st : List Value) (σ : a_HP) (Q : Option Value → a_HP → Prop) : Rn 155 34 ls st σ Q = acR 155 (o_ivv 8 150 0 37 ls st σ) ls σ Q := rn_row rfl ls st σ Q
theorem r_155_37 (ls : a_LS) (st : List Value) (σ : a_HP) (Q : Option Value → a_HP → Prop) : Rn 155 37 ls st σ Q = acR 155 (o_lda 0 38 ls st σ) ls σ Q := rn_row rfl ls st σ Q
theorem r_155_38 (ls : a_LS) (st : List Value) (σ : a_HP) (Q : Option Value → a_HP → Prop) : Rn 155 38 ls st σ Q = acR 155 (o_get 8 0 41 ls st σ) ls σ Q := rn_row rfl ls st σ Q
theorem r_155_41 (ls : a_LS) (st : List Value) (σ : a_HP) (Q : Option Value → a_HP → Prop) : Rn 155 41 ls st σ Q = acR 155 (o_pi (nI 20) 43 ls st σ) ls σ Q := rn_row rfl ls st σ Q
theorem r_155_43 (ls : a_LS) (st : List Value) (σ : a_HP) (Q : Option Value → a_HP → Prop) : Rn 155 43 ls st σ Q = acR 155 (o_ldi 1 44 ls st σ) ls σ Q := rn_row rfl ls st σ Q
theorem r_155_44 (ls : a_LS) (st : List Value) (σ : a_HP) (Q : Option Value → a_HP → Prop) : Rn 155 44 ls st σ Q = acR 155 (o_bi f_add 45 ls st σ) ls σ Q := rn_row rfl ls st σ Q
theorem r_155_45 (ls : a_LS) (st : List Value) (σ : a_HP) (Q : Option Value → a_HP → Prop) : Rn 155 45 ls st σ Q = acR 155 (o_pi (nI 0) 46 ls st σ) ls σ Q := rn_row rfl ls st σ Q
theorem r_155_46 (ls : a_LS) (st : List Value) (σ : a_HP) (Q : Option Value → a_HP → Prop) : Rn 155 46 ls st σ Q = acR 155 (o_ias 47 ls st σ) ls σ Q := rn_row rfl ls st σ Q
theorem r_155_47 (ls : a_LS) (st : List Value) (σ : a_HP) (Q : Option Value → a_HP → Prop) : Rn 155 47 ls st σ Q = acR 155 (o_ldi 2 48 ls st σ) ls σ Q := rn_row rfl ls st σ Q
theorem r_155_48 (ls : a_LS) (st : List Value) (σ : a_HP) (Q : Option Value → a_HP → Prop) : Rn 155 48 ls st σ Q = acR 155 (o_ri ls st σ) ls σ Q := rn_row rfl ls st σ Q
/-! 156: NetLawModel.nightGoes([I)I -/
theorem cl_156 (x0 : Nat) (σ : a_HP) (Q : Option Value → a_HP → Prop) : Cl 156 [.ref x0] σ Q = Rn 156 0 [some (.ref x0), none, none, none, none] [] σ Q := cl_of (Nat.le_of_ble_eq_true rfl) rfl σ Q
theorem r_156_0 (ls : a_LS) (st : List Value) (σ : a_HP) (Q : Option Value → a_HP → Prop) : Rn 156 0 ls st σ Q = acR 156 (o_pi (nI 0) 1 ls st σ) ls σ Q := rn_row rfl ls st σ Q
theorem r_156_1 (ls : a_LS) (st : List Value) (σ : a_HP) (Q : Option Value → a_HP → Prop) : Rn 156 1 ls st σ Q = acR 156 (o_sti 1 2 ls st σ) ls σ Q := rn_row rfl ls st σ Q
theorem r_156_2 (ls : a_LS) (st : List Value) (σ : a_HP) (Q : Option Value → a_HP → Prop) : Rn 156 2 ls st σ Q = acR 156 (o_pi (nI 0) 3 ls st σ) ls σ Q := rn_row rfl ls st σ Q
theorem r_156_3 (ls : a_LS) (st : List Value) (σ : a_HP) (Q : Option Value → a_HP → Prop) : Rn 156 3 ls st σ Q = acR 156 (o_sti 2 4 ls st σ) ls σ Q := rn_row rfl ls st σ Q
theorem r_156_4 (ls : a_LS) (st : List Value) (σ : a_HP) (Q : Option Value → a_HP → Prop) : Rn 156 4 ls st σ Q = acR 156 (o_ldi 2 5 ls st σ) ls σ Q := rn_row rfl ls st σ Q
theorem r_156_5 (ls : a_LS) (st : List Value) (σ : a_HP) (Q : Option Value → a_HP → Prop) : Rn 156 5 ls st σ Q = acR 156 (o_pi (nI 16) 7 ls st σ) ls σ Q := rn_row rfl ls st σ Q
theorem r_156_7 (ls : a_LS) (st : List Value) (σ : a_HP) (Q : Option Value → a_HP → Prop) : Rn 156 7 ls st σ Q = acR 156 (o_cge 84 10 ls st σ) ls σ Q := rn_row rfl ls st σ Q
theorem r_156_10 (ls : a_LS) (st : List Value) (σ : a_HP) (Q : Option Value → a_HP → Prop) : Rn 156 10 ls st σ Q = acR 156 (o_lda 0 11 ls st σ) ls σ Q := rn_row rfl ls st σ Q
theorem r_156_11 (ls : a_LS) (st : List Value) (σ : a_HP) (Q : Option Value → a_HP → Prop) : Rn 156 11 ls st σ Q = acR 156 (o_pi (nI 20) 13 ls st σ) ls σ Q := rn_row rfl ls st σ Q
theorem r_156_13 (ls : a_LS) (st : List Value) (σ : a_HP) (Q : Option Value → a_HP → Prop) : Rn 156 13 ls st σ Q = acR 156 (o_ldi 2 14 ls st σ) ls σ Q := rn_row rfl ls st σ Q
theorem r_156_14 (ls : a_LS) (st : List Value) (σ : a_HP) (Q : Option Value → a_HP → Prop) : Rn 156 14 ls st σ Q = acR 156 (o_bi f_add 15 ls st σ) ls σ Q := rn_row rfl ls st σ Q
theorem r_156_15 (ls : a_LS) (st : List Value) (σ : a_HP) (Q : Option Value → a_HP → Prop) : Rn 156 15 ls st σ Q = acR 156 (o_ial 16 ls st σ) ls σ Q := rn_row rfl ls st σ Q
theorem r_156_16 (ls : a_LS) (st : List Value) (σ : a_HP) (Q : Option Value → a_HP → Prop) : Rn 156 16 ls st σ Q = acR 156 (o_sti 3 17 ls st σ) ls σ Q := rn_row rfl ls st σ Q
theorem r_156_17 (ls : a_LS) (st : List Value) (σ : a_HP) (Q : Option Value → a_HP → Prop) : Rn 156 17 ls st σ Q = acR 156 (o_lda 0 18 ls st σ) ls σ Q := rn_row rfl ls st σ Q
theorem r_156_18 (ls : a_LS) (st : List Value) (σ : a_HP) (Q : Option Value → a_HP → Prop) : Rn 156 18 ls st σ Q = acR 156 (o_pi (nI 4) 19 ls st σ) ls σ Q := rn_row rfl ls st σ Q
theorem r_156_19 (ls : a_LS) (st : List Value) (σ : a_HP) (Q : Option Value → a_HP → Prop) : Rn 156 19 ls st σ Q = acR 156 (o_ldi 2 20 ls st σ) ls σ Q := rn_row rfl ls st σ Q
theorem r_156_20 (ls : a_LS) (st : List Value) (σ : a_HP) (Q : Option Value → a_HP → Prop) : Rn 156 20 ls st σ Q = acR 156 (o_bi f_add 21 ls st σ) ls σ Q := rn_row rfl ls st σ Q
theorem r_156_21 (ls : a_LS) (st : List Value) (σ : a_HP) (Q : Option Value → a_HP → Prop) : Rn 156 21 ls st σ Q = acR 156 (o_ial 22 ls st σ) ls σ Q := rn_row rfl ls st σ Q
theorem r_156_22 (ls : a_LS) (st : List Value) (σ : a_HP) (Q : Option Value → a_HP → Prop) : Rn 156 22 ls st σ Q = acR 156 (o_lda 0 23 ls st σ) ls σ Q := rn_row rfl ls st σ Q
theorem r_156_23 (ls : a_LS) (st : List Value) (σ : a_HP) (Q : Option Value → a_HP → Prop) : Rn 156 23 ls st σ Q = acR 156 (o_pi (nI 3) 24 ls st σ) ls σ Q := rn_row rfl ls st σ Q
theorem r_156_24 (ls : a_LS) (st : List Value) (σ : a_HP) (Q : Option Value → a_HP → Prop) : Rn 156 24 ls st σ Q = acR 156 (o_ial 25 ls st σ) ls σ Q := rn_row rfl ls st σ Q
theorem r_156_25 (ls : a_LS) (st : List Value) (σ : a_HP) (Q : Option Value → a_HP → Prop) : Rn 156 25 ls st σ Q = acR 156 (o_ivs 135 2 28 ls st σ) ls σ Q := rn_row rfl ls st σ Q
theorem r_156_28 (ls : a_LS) (st : List Value) (σ : a_HP) (Q : Option Value → a_HP → Prop) : Rn 156 28 ls st σ Q = acR 156 (o_sti 4 30 ls st σ) ls σ Q := rn_row rfl ls st σ Q
theorem r_156_30 (ls : a_LS) (st : List Value) (σ : a_HP) (Q : Option Value → a_HP → Prop) : Rn 156 30 ls st σ Q = acR 156 (o_ldi 3 31 ls st σ) ls σ Q := rn_row rfl ls st σ Q
theorem r_156_31 (ls : a_LS) (st : List Value) (σ : a_HP) (Q : Option Value → a_HP → Prop) : Rn 156 31 ls st σ Q = acR 156 (o_le 78 34 ls st σ) ls σ Q := rn_row rfl ls st σ Q
theorem r_156_34 (ls : a_LS) (st : List Value) (σ : a_HP) (Q : Option Value → a_HP → Prop) : Rn 156 34 ls st σ Q = acR 156 (o_lda 0 35 ls st σ) ls σ Q := rn_row rfl ls st σ Q
theorem r_156_35 (ls : a_LS) (st : List Value) (σ : a_HP) (Q : Option Value → a_HP → Prop) : Rn 156 35 ls st σ Q = acR 156 (o_pi (nI 2) 36 ls st σ) ls σ Q := rn_row rfl ls st σ Q
theorem r_156_36 (ls : a_LS) (st : List Value) (σ : a_HP) (Q : Option Value → a_HP → Prop) : Rn 156 36 ls st σ Q = acR 156 (o_ial 37 ls st σ) ls σ Q := rn_row rfl ls st σ Q
theorem r_156_37 (ls : a_LS) (st : List Value) (σ : a_HP) (Q : Option Value → a_HP → Prop) : Rn 156 37 ls st σ Q = acR 156 (o_ldi 2 38 ls st σ) ls σ Q := rn_row rfl ls st σ Q
theorem r_156_38 (ls : a_LS) (st : List Value) (σ : a_HP) (Q : Option Value → a_HP → Prop) : Rn 156 38 ls st σ Q = acR 156 (o_ivs 123 2 41 ls st σ) ls σ Q := rn_row rfl ls st σ Q
theorem r_156_41 (ls : a_LS) (st : List Value) (σ : a_HP) (Q : Option Value → a_HP → Prop) : Rn 156 41 ls st σ Q = acR 156 (o_eq 78 44 ls st σ) ls σ Q := rn_row rfl ls st σ Q
theorem r_156_44 (ls : a_LS) (st : List Value) (σ : a_HP) (Q : Option Value → a_HP → Prop) : Rn 156 44 ls st σ Q = acR 156 (o_lda 0 45 ls st σ) ls σ Q := rn_row rfl ls st σ Q
theorem r_156_45 (ls : a_LS) (st : List Value) (σ : a_HP) (Q : Option Value → a_HP → Prop) : Rn 156 45 ls st σ Q = acR 156 (o_pi (nI 20) 47 ls st σ) ls σ Q := rn_row rfl ls st σ Q
theorem r_156_47 (ls : a_LS) (st : List Value) (σ : a_HP) (Q : Option Value → a_HP → Prop) : Rn 156 47 ls st σ Q = acR 156 (o_ldi 2 48 ls st σ) ls σ Q := rn_row rfl ls st σ Q
theorem r_156_48 (ls : a_LS) (st : List Value) (σ : a_HP) (Q : Option Value → a_HP → Prop) : Rn 156 48 ls st σ Q = acR 156 (o_bi f_add 49 ls st σ) ls σ Q := rn_row rfl ls st σ Q
theorem r_156_49 (ls : a_LS) (st : List Value) (σ : a_HP) (Q : Option Value → a_HP → Prop) : Rn 156 49 ls st σ Q = acR 156 (o_ldi 3 50 ls st σ) ls σ Q := rn_row rfl ls st σ Q
theorem r_156_50 (ls : a_LS) (st : List Value) (σ : a_HP) (Q : Option Value → a_HP → Prop) : Rn 156 50 ls st σ Q = acR 156 (o_ldi 4 52 ls st σ) ls σ Q := rn_row rfl ls st σ Q
theorem r_156_52 (ls : a_LS) (st : List Value) (σ : a_HP) (Q : Option Value → a_HP → Prop) : Rn 156 52 ls st σ Q = acR 156 (o_cle 62 55 ls st σ) ls σ Q := rn_row rfl ls st σ Q
theorem r_156_55 (ls : a_LS) (st : List Value) (σ : a_HP) (Q : Option Value → a_HP → Prop) : Rn 156 55 ls st σ Q = acR 156 (o_ldi 3 56 ls st σ) ls σ Q := rn_row rfl ls st σ Q
theorem r_156_56 (ls : a_LS) (st : List Value) (σ : a_HP) (Q : Option Value → a_HP → Prop) : Rn 156 56 ls st σ Q = acR 156 (o_ldi 4 58 ls st σ) ls σ Q := rn_row rfl ls st σ Q
theorem r_156_58 (ls : a_LS) (st : List Value) (σ : a_HP) (Q : Option Value → a_HP → Prop) : Rn 156 58 ls st σ Q = acR 156 (o_bi f_sub 59 ls st σ) ls σ Q := rn_row rfl ls st σ Q
theorem r_156_59 (ls : a_LS) (st : List Value) (σ : a_HP) (Q : Option Value → a_HP → Prop) : Rn 156 59 ls st σ Q = acR 156 (o_go 63 ls st σ) ls σ Q := rn_row rfl ls st σ Q
theorem r_156_62 (ls : a_LS) (st : List Value) (σ : a_HP) (Q : Option Value → a_HP → Prop) : Rn 156 62 ls st σ Q = acR 156 (o_pi (nI 0) 63 ls st σ) ls σ Q := rn_row rfl ls st σ Q
theorem r_156_63 (ls : a_LS) (st : List Value) (σ : a_HP) (Q : Option Value → a_HP → Prop) : Rn 156 63 ls st σ Q = acR 156 (o_ias 64 ls st σ) ls σ Q := rn_row rfl ls st σ Q
theorem r_156_64 (ls : a_LS) (st : List Value) (σ : a_HP) (Q : Option Value → a_HP → Prop) : Rn 156 64 ls st σ Q = acR 156 (o_ldi 1 65 ls st σ) ls σ Q := rn_row rfl ls st σ Q
theorem r_156_65 (ls : a_LS) (st : List Value) (σ : a_HP) (Q : Option Value → a_HP → Prop) : Rn 156 65 ls st σ Q = acR 156 (o_ldi 3 66 ls st σ) ls σ Q := rn_row rfl ls st σ Q
theorem r_156_66 (ls : a_LS) (st : List Value) (σ : a_HP) (Q : Option Value → a_HP → Prop) : Rn 156 66 ls st σ Q = acR 156 (o_ldi 4 68 ls st σ) ls σ Q := rn_row rfl ls st σ Q
theorem r_156_68 (ls : a_LS) (st : List Value) (σ : a_HP) (Q : Option Value → a_HP → Prop) : Rn 156 68 ls st σ Q = acR 156 (o_cle 75 71 ls st σ) ls σ Q := rn_row rfl ls st σ Q
theorem r_156_71 (ls : a_LS) (st : List Value) (σ : a_HP) (Q : Option Value → a_HP → Prop) : Rn 156 71 ls st σ Q = acR 156 (o_pi (nI 0) 72 ls st σ) ls σ Q := rn_row rfl ls st σ Q
theorem r_156_72 (ls : a_LS) (st : List Value) (σ : a_HP) (Q : Option Value → a_HP → Prop) : Rn 156 72 ls st σ Q = acR 156 (o_go 76 ls st σ) ls σ Q := rn_row rfl ls st σ Q
theorem r_156_75 (ls : a_LS) (st : List Value) (σ : a_HP) (Q : Option Value → a_HP → Prop) : Rn 156 75 ls st σ Q = acR 156 (o_pi (nI 1) 76 ls st σ) ls σ Q := rn_row rfl ls st σ Q
theorem r_156_76 (ls : a_LS) (st : List Value) (σ : a_HP) (Q : Option Value → a_HP → Prop) : Rn 156 76 ls st σ Q = acR 156 (o_bi f_add 77 ls st σ) ls σ Q := rn_row rfl ls st σ Q
theorem r_156_77 (ls : a_LS) (st : List Value) (σ : a_HP) (Q : Option Value → a_HP → Prop) : Rn 156 77 ls st σ Q = acR 156 (o_sti 1 78 ls st σ) ls σ Q := rn_row rfl ls st σ Q
theorem r_156_78 (ls : a_LS) (st : List Value) (σ : a_HP) (Q : Option Value → a_HP → Prop) : Rn 156 78 ls st σ Q = acR 156 (o_inc 2 (nI 1) 81 ls st σ) ls σ Q := rn_row rfl ls st σ Q
theorem r_156_81 (ls : a_LS) (st : List Value) (σ : a_HP) (Q : Option Value → a_HP → Prop) : Rn 156 81 ls st σ Q = acR 156 (o_go 4 ls st σ) ls σ Q := rn_row rfl ls st σ Q
theorem r_156_84 (ls : a_LS) (st : List Value) (σ : a_HP) (Q : Option Value → a_HP → Prop) : Rn 156 84 ls st σ Q = acR 156 (o_lda 0 85 ls st σ) ls σ Q := rn_row rfl ls st σ Q
theorem r_156_85 (ls : a_LS) (st : List Value) (σ : a_HP) (Q : Option Value → a_HP → Prop) : Rn 156 85 ls st σ Q = acR 156 (o_pi (nI 3) 86 ls st σ) ls σ Q := rn_row rfl ls st σ Q
theorem r_156_86 (ls : a_LS) (st : List Value) (σ : a_HP) (Q : Option Value → a_HP → Prop) : Rn 156 86 ls st σ Q = acR 156 (o_dup2 87 ls st σ) ls σ Q := rn_row rfl ls st σ Q
theorem r_156_87 (ls : a_LS) (st : List Value) (σ : a_HP) (Q : Option Value → a_HP → Prop) : Rn 156 87 ls st σ Q = acR 156 (o_ial 88 ls st σ) ls σ Q := rn_row rfl ls st σ Q
theorem r_156_88 (ls : a_LS) (st : List Value) (σ : a_HP) (Q : Option Value → a_HP → Prop) : Rn 156 88 ls st σ Q = acR 156 (o_pi (nI 1) 89 ls st σ) ls σ Q := rn_row rfl ls st σ Q
theorem r_156_89 (ls : a_LS) (st : List Value) (σ : a_HP) (Q : Option Value → a_HP → Prop) : Rn 156 89 ls st σ Q = acR 156 (o_bi f_add 90 ls st σ) ls σ Q := rn_row rfl ls st σ Q
theorem r_156_90 (ls : a_LS) (st : List Value) (σ : a_HP) (Q : Option Value → a_HP → Prop) : Rn 156 90 ls st σ Q = acR 156 (o_ias 91 ls st σ) ls σ Q := rn_row rfl ls st σ Q
theorem r_156_91 (ls : a_LS) (st : List Value) (σ : a_HP) (Q : Option Value → a_HP → Prop) : Rn 156 91 ls st σ Q = acR 156 (o_ldi 1 92 ls st σ) ls σ Q := rn_row rfl ls st σ Q
theorem r_156_92 (ls : a_LS) (st : List Value) (σ : a_HP) (Q : Option Value → a_HP → Prop) : Rn 156 92 ls st σ Q = acR 156 (o_ri ls st σ) ls σ Q := rn_row rfl ls st σ Q
/-! 157: NetLawModel.night()I -/
theorem cl_157 (x0 : Nat) (σ : a_HP) (Q : Option Value → a_HP → Prop) : Cl 157 [.ref x0] σ Q = Rn 157 0 [some (.ref x0)] [] σ Q := cl_of (Nat.le_of_ble_eq_true rfl) rfl σ Q
theorem r_157_0 (ls : a_LS) (st : List Value) (σ : a_HP) (Q : Option Value → a_HP → Prop) : Rn 157 0 ls st σ Q = acR 157 (o_lda 0 1 ls st σ) ls σ Q := rn_row rfl ls st σ Q
theorem r_157_1 (ls : a_LS) (st : List Value) (σ : a_HP) (Q : Option Value → a_HP → Prop) : Rn 157 1 ls st σ Q = acR 157 (o_ivv 8 150 0 4 ls st σ) ls σ Q := rn_row rfl ls st σ Q
theorem r_157_4 (ls : a_LS) (st : List Value) (σ : a_HP) (Q : Option Value → a_HP → Prop) : Rn 157 4 ls st σ Q = acR 157 (o_lda 0 5 ls st σ) ls σ Q := rn_row rfl ls st σ Q
theorem r_157_5 (ls : a_LS) (st : List Value) (σ : a_HP) (Q : Option Value → a_HP → Prop) : Rn 157 5 ls st σ Q = acR 157 (o_get 8 0 8 ls st σ) ls σ Q := rn_row rfl ls st σ Q
theorem r_157_8 (ls : a_LS) (st : List Value) (σ : a_HP) (Q : Option Value → a_HP → Prop) : Rn 157 8 ls st σ Q = acR 157 (o_ivs 156 1 11 ls st σ) ls σ Q := rn_row rfl ls st σ Q
theorem r_157_11 (ls : a_LS) (st : List Value) (σ : a_HP) (Q : Option Value → a_HP → Prop) : Rn 157 11 ls st σ Q = acR 157 (o_ri ls st σ) ls σ Q := rn_row rfl ls st σ Q
/-! 158: NetLawModel.undo()I -/
theorem cl_158 (x0 : Nat) (σ : a_HP) (Q : Option Value → a_HP → Prop) : Cl 158 [.ref x0] σ Q = Rn 158 0 [some (.ref x0), none] [] σ Q := cl_of (Nat.le_of_ble_eq_true rfl) rfl σ Q
theorem r_158_0 (ls : a_LS) (st : List Value) (σ : a_HP) (Q : Option Value → a_HP → Prop) : Rn 158 0 ls st σ Q = acR 158 (o_lda 0 1 ls st σ) ls σ Q := rn_row rfl ls st σ Q
theorem r_158_1 (ls : a_LS) (st : List Value) (σ : a_HP) (Q : Option Value → a_HP → Prop) : Rn 158 1 ls st σ Q = acR 158 (o_get 8 0 4 ls st σ) ls σ Q := rn_row rfl ls st σ Q
theorem r_158_4 (ls : a_LS) (st : List Value) (σ : a_HP) (Q : Option Value → a_HP → Prop) : Rn 158 4 ls st σ Q = acR 158 (o_pi (nI 80) 6 ls st σ) ls σ Q := rn_row rfl ls st σ Q
theorem r_158_6 (ls : a_LS) (st : List Value) (σ : a_HP) (Q : Option Value → a_HP → Prop) : Rn 158 6 ls st σ Q = acR 158 (o_ial 7 ls st σ) ls σ Q := rn_row rfl ls st σ Q
theorem r_158_7 (ls : a_LS) (st : List Value) (σ : a_HP) (Q : Option Value → a_HP → Prop) : Rn 158 7 ls st σ Q = acR 158 (o_ne 17 10 ls st σ) ls σ Q := rn_row rfl ls st σ Q
theorem r_158_10 (ls : a_LS) (st : List Value) (σ : a_HP) (Q : Option Value → a_HP → Prop) : Rn 158 10 ls st σ Q = acR 158 (o_lda 0 11 ls st σ) ls σ Q := rn_row rfl ls st σ Q
theorem r_158_11 (ls : a_LS) (st : List Value) (σ : a_HP) (Q : Option Value → a_HP → Prop) : Rn 158 11 ls st σ Q = acR 158 (o_pi (-3) 13 ls st σ) ls σ Q := rn_row rfl ls st σ Q
theorem r_158_13 (ls : a_LS) (st : List Value) (σ : a_HP) (Q : Option Value → a_HP → Prop) : Rn 158 13 ls st σ Q = acR 158 (o_ivv 8 127 1 16 ls st σ) ls σ Q := rn_row rfl ls st σ Q
theorem r_158_16 (ls : a_LS) (st : List Value) (σ : a_HP) (Q : Option Value → a_HP → Prop) : Rn 158 16 ls st σ Q = acR 158 (o_ri ls st σ) ls σ Q := rn_row rfl ls st σ Q
theorem r_158_17 (ls : a_LS) (st : List Value) (σ : a_HP) (Q : Option Value → a_HP → Prop) : Rn 158 17 ls st σ Q = acR 158 (o_lda 0 18 ls st σ) ls σ Q := rn_row rfl ls st σ Q
theorem r_158_18 (ls : a_LS) (st : List Value) (σ : a_HP) (Q : Option Value → a_HP → Prop) : Rn 158 18 ls st σ Q = acR 158 (o_get 8 0 21 ls st σ) ls σ Q := rn_row rfl ls st σ Q
theorem r_158_21 (ls : a_LS) (st : List Value) (σ : a_HP) (Q : Option Value → a_HP → Prop) : Rn 158 21 ls st σ Q = acR 158 (o_pi (nI 80) 23 ls st σ) ls σ Q := rn_row rfl ls st σ Q
theorem r_158_23 (ls : a_LS) (st : List Value) (σ : a_HP) (Q : Option Value → a_HP → Prop) : Rn 158 23 ls st σ Q = acR 158 (o_dup2 24 ls st σ) ls σ Q := rn_row rfl ls st σ Q
theorem r_158_24 (ls : a_LS) (st : List Value) (σ : a_HP) (Q : Option Value → a_HP → Prop) : Rn 158 24 ls st σ Q = acR 158 (o_ial 25 ls st σ) ls σ Q := rn_row rfl ls st σ Q
theorem r_158_25 (ls : a_LS) (st : List Value) (σ : a_HP) (Q : Option Value → a_HP → Prop) : Rn 158 25 ls st σ Q = acR 158 (o_pi (nI 1) 26 ls st σ) ls σ Q := rn_row rfl ls st σ Q
theorem r_158_26 (ls : a_LS) (st : List Value) (σ : a_HP) (Q : Option Value → a_HP → Prop) : Rn 158 26 ls st σ Q = acR 158 (o_bi f_sub 27 ls st σ) ls σ Q := rn_row rfl ls st σ Q
theorem r_158_27 (ls : a_LS) (st : List Value) (σ : a_HP) (Q : Option Value → a_HP → Prop) : Rn 158 27 ls st σ Q = acR 158 (o_ias 28 ls st σ) ls σ Q := rn_row rfl ls st σ Q
theorem r_158_28 (ls : a_LS) (st : List Value) (σ : a_HP) (Q : Option Value → a_HP → Prop) : Rn 158 28 ls st σ Q = acR 158 (o_pi (nI 81) 30 ls st σ) ls σ Q := rn_row rfl ls st σ Q
theorem r_158_30 (ls : a_LS) (st : List Value) (σ : a_HP) (Q : Option Value → a_HP → Prop) : Rn 158 30 ls st σ Q = acR 158 (o_pi (nI 50) 32 ls st σ) ls σ Q := rn_row rfl ls st σ Q
theorem r_158_32 (ls : a_LS) (st : List Value) (σ : a_HP) (Q : Option Value → a_HP → Prop) : Rn 158 32 ls st σ Q = acR 158 (o_lda 0 33 ls st σ) ls σ Q := rn_row rfl ls st σ Q
theorem r_158_33 (ls : a_LS) (st : List Value) (σ : a_HP) (Q : Option Value → a_HP → Prop) : Rn 158 33 ls st σ Q = acR 158 (o_get 8 0 36 ls st σ) ls σ Q := rn_row rfl ls st σ Q
theorem r_158_36 (ls : a_LS) (st : List Value) (σ : a_HP) (Q : Option Value → a_HP → Prop) : Rn 158 36 ls st σ Q = acR 158 (o_pi (nI 80) 38 ls st σ) ls σ Q := rn_row rfl ls st σ Q
theorem r_158_38 (ls : a_LS) (st : List Value) (σ : a_HP) (Q : Option Value → a_HP → Prop) : Rn 158 38 ls st σ Q = acR 158 (o_ial 39 ls st σ) ls σ Q := rn_row rfl ls st σ Q
theorem r_158_39 (ls : a_LS) (st : List Value) (σ : a_HP) (Q : Option Value → a_HP → Prop) : Rn 158 39 ls st σ Q = acR 158 (o_bi f_mul 40 ls st σ) ls σ Q := rn_row rfl ls st σ Q
theorem r_158_40 (ls : a_LS) (st : List Value) (σ : a_HP) (Q : Option Value → a_HP → Prop) : Rn 158 40 ls st σ Q = acR 158 (o_bi f_add 41 ls st σ) ls σ Q := rn_row rfl ls st σ Q
theorem r_158_41 (ls : a_LS) (st : List Value) (σ : a_HP) (Q : Option Value → a_HP → Prop) : Rn 158 41 ls st σ Q = acR 158 (o_sti 1 42 ls st σ) ls σ Q := rn_row rfl ls st σ Q
theorem r_158_42 (ls : a_LS) (st : List Value) (σ : a_HP) (Q : Option Value → a_HP → Prop) : Rn 158 42 ls st σ Q = acR 158 (o_lda 0 43 ls st σ) ls σ Q := rn_row rfl ls st σ Q
theorem r_158_43 (ls : a_LS) (st : List Value) (σ : a_HP) (Q : Option Value → a_HP → Prop) : Rn 158 43 ls st σ Q = acR 158 (o_get 8 0 46 ls st σ) ls σ Q := rn_row rfl ls st σ Q
theorem r_158_46 (ls : a_LS) (st : List Value) (σ : a_HP) (Q : Option Value → a_HP → Prop) : Rn 158 46 ls st σ Q = acR 158 (o_ldi 1 47 ls st σ) ls σ Q := rn_row rfl ls st σ Q
theorem r_158_47 (ls : a_LS) (st : List Value) (σ : a_HP) (Q : Option Value → a_HP → Prop) : Rn 158 47 ls st σ Q = acR 158 (o_lda 0 48 ls st σ) ls σ Q := rn_row rfl ls st σ Q
theorem r_158_48 (ls : a_LS) (st : List Value) (σ : a_HP) (Q : Option Value → a_HP → Prop) : Rn 158 48 ls st σ Q = acR 158 (o_get 8 0 51 ls st σ) ls σ Q := rn_row rfl ls st σ Q
theorem r_158_51 (ls : a_LS) (st : List Value) (σ : a_HP) (Q : Option Value → a_HP → Prop) : Rn 158 51 ls st σ Q = acR 158 (o_pi (nI 4) 52 ls st σ) ls σ Q := rn_row rfl ls st σ Q
theorem r_158_52 (ls : a_LS) (st : List Value) (σ : a_HP) (Q : Option Value → a_HP → Prop) : Rn 158 52 ls st σ Q = acR 158 (o_pi (nI 48) 54 ls st σ) ls σ Q := rn_row rfl ls st σ Q
theorem r_158_54 (ls : a_LS) (st : List Value) (σ : a_HP) (Q : Option Value → a_HP → Prop) : Rn 158 54 ls st σ Q = acR 158 (o_ivs 130 5 57 ls st σ) ls σ Q := rn_row rfl ls st σ Q
theorem r_158_57 (ls : a_LS) (st : List Value) (σ : a_HP) (Q : Option Value → a_HP → Prop) : Rn 158 57 ls st σ Q = acR 158 (o_lda 0 58 ls st σ) ls σ Q := rn_row rfl ls st σ Q
theorem r_158_58 (ls : a_LS) (st : List Value) (σ : a_HP) (Q : Option Value → a_HP → Prop) : Rn 158 58 ls st σ Q = acR 158 (o_get 8 0 61 ls st σ) ls σ Q := rn_row rfl ls st σ Q
theorem r_158_61 (ls : a_LS) (st : List Value) (σ : a_HP) (Q : Option Value → a_HP → Prop) : Rn 158 61 ls st σ Q = acR 158 (o_pi (nI 1) 62 ls st σ) ls σ Q := rn_row rfl ls st σ Q
theorem r_158_62 (ls : a_LS) (st : List Value) (σ : a_HP) (Q : Option Value → a_HP → Prop) : Rn 158 62 ls st σ Q = acR 158 (o_lda 0 63 ls st σ) ls σ Q := rn_row rfl ls st σ Q
theorem r_158_63 (ls : a_LS) (st : List Value) (σ : a_HP) (Q : Option Value → a_HP → Prop) : Rn 158 63 ls st σ Q = acR 158 (o_get 8 0 66 ls st σ) ls σ Q := rn_row rfl ls st σ Q
theorem r_158_66 (ls : a_LS) (st : List Value) (σ : a_HP) (Q : Option Value → a_HP → Prop) : Rn 158 66 ls st σ Q = acR 158 (o_ldi 1 67 ls st σ) ls σ Q := rn_row rfl ls st σ Q
theorem r_158_67 (ls : a_LS) (st : List Value) (σ : a_HP) (Q : Option Value → a_HP → Prop) : Rn 158 67 ls st σ Q = acR 158 (o_pi (nI 48) 69 ls st σ) ls σ Q := rn_row rfl ls st σ Q
theorem r_158_69 (ls : a_LS) (st : List Value) (σ : a_HP) (Q : Option Value → a_HP → Prop) : Rn 158 69 ls st σ Q = acR 158 (o_bi f_add 70 ls st σ) ls σ Q := rn_row rfl ls st σ Q
theorem r_158_70 (ls : a_LS) (st : List Value) (σ : a_HP) (Q : Option Value → a_HP → Prop) : Rn 158 70 ls st σ Q = acR 158 (o_ial 71 ls st σ) ls σ Q := rn_row rfl ls st σ Q
theorem r_158_71 (ls : a_LS) (st : List Value) (σ : a_HP) (Q : Option Value → a_HP → Prop) : Rn 158 71 ls st σ Q = acR 158 (o_ias 72 ls st σ) ls σ Q := rn_row rfl ls st σ Q
theorem r_158_72 (ls : a_LS) (st : List Value) (σ : a_HP) (Q : Option Value → a_HP → Prop) : Rn 158 72 ls st σ Q = acR 158 (o_lda 0 73 ls st σ) ls σ Q := rn_row rfl ls st σ Q
theorem r_158_73 (ls : a_LS) (st : List Value) (σ : a_HP) (Q : Option Value → a_HP → Prop) : Rn 158 73 ls st σ Q = acR 158 (o_get 8 0 76 ls st σ) ls σ Q := rn_row rfl ls st σ Q
theorem r_158_76 (ls : a_LS) (st : List Value) (σ : a_HP) (Q : Option Value → a_HP → Prop) : Rn 158 76 ls st σ Q = acR 158 (o_pi (nI 3) 77 ls st σ) ls σ Q := rn_row rfl ls st σ Q
theorem r_158_77 (ls : a_LS) (st : List Value) (σ : a_HP) (Q : Option Value → a_HP → Prop) : Rn 158 77 ls st σ Q = acR 158 (o_lda 0 78 ls st σ) ls σ Q := rn_row rfl ls st σ Q
theorem r_158_78 (ls : a_LS) (st : List Value) (σ : a_HP) (Q : Option Value → a_HP → Prop) : Rn 158 78 ls st σ Q = acR 158 (o_get 8 0 81 ls st σ) ls σ Q := rn_row rfl ls st σ Q
theorem r_158_81 (ls : a_LS) (st : List Value) (σ : a_HP) (Q : Option Value → a_HP → Prop) : Rn 158 81 ls st σ Q = acR 158 (o_ldi 1 82 ls st σ) ls σ Q := rn_row rfl ls st σ Q
theorem r_158_82 (ls : a_LS) (st : List Value) (σ : a_HP) (Q : Option Value → a_HP → Prop) : Rn 158 82 ls st σ Q = acR 158 (o_pi (nI 49) 84 ls st σ) ls σ Q := rn_row rfl ls st σ Q
theorem r_158_84 (ls : a_LS) (st : List Value) (σ : a_HP) (Q : Option Value → a_HP → Prop) : Rn 158 84 ls st σ Q = acR 158 (o_bi f_add 85 ls st σ) ls σ Q := rn_row rfl ls st σ Q
theorem r_158_85 (ls : a_LS) (st : List Value) (σ : a_HP) (Q : Option Value → a_HP → Prop) : Rn 158 85 ls st σ Q = acR 158 (o_ial 86 ls st σ) ls σ Q := rn_row rfl ls st σ Q
theorem r_158_86 (ls : a_LS) (st : List Value) (σ : a_HP) (Q : Option Value → a_HP → Prop) : Rn 158 86 ls st σ Q = acR 158 (o_ias 87 ls st σ) ls σ Q := rn_row rfl ls st σ Q
theorem r_158_87 (ls : a_LS) (st : List Value) (σ : a_HP) (Q : Option Value → a_HP → Prop) : Rn 158 87 ls st σ Q = acR 158 (o_lda 0 88 ls st σ) ls σ Q := rn_row rfl ls st σ Q
theorem r_158_88 (ls : a_LS) (st : List Value) (σ : a_HP) (Q : Option Value → a_HP → Prop) : Rn 158 88 ls st σ Q = acR 158 (o_get 8 0 91 ls st σ) ls σ Q := rn_row rfl ls st σ Q
theorem r_158_91 (ls : a_LS) (st : List Value) (σ : a_HP) (Q : Option Value → a_HP → Prop) : Rn 158 91 ls st σ Q = acR 158 (o_pi (nI 1) 92 ls st σ) ls σ Q := rn_row rfl ls st σ Q
theorem r_158_92 (ls : a_LS) (st : List Value) (σ : a_HP) (Q : Option Value → a_HP → Prop) : Rn 158 92 ls st σ Q = acR 158 (o_ial 93 ls st σ) ls σ Q := rn_row rfl ls st σ Q
theorem r_158_93 (ls : a_LS) (st : List Value) (σ : a_HP) (Q : Option Value → a_HP → Prop) : Rn 158 93 ls st σ Q = acR 158 (o_ri ls st σ) ls σ Q := rn_row rfl ls st σ Q
/-! 159: NetLawModel.type(I)I -/
theorem cl_159 (x0 : Nat) (x1 : Int32) (σ : a_HP) (Q : Option Value → a_HP → Prop) : Cl 159 [.ref x0, .int x1] σ Q = Rn 159 0 [some (.ref x0), some (.int x1)] [] σ Q := cl_of (Nat.le_of_ble_eq_true rfl) rfl σ Q
theorem r_159_0 (ls : a_LS) (st : List Value) (σ : a_HP) (Q : Option Value → a_HP → Prop) : Rn 159 0 ls st σ Q = acR 159 (o_ldi 1 1 ls st σ) ls σ Q := rn_row rfl ls st σ Q
theorem r_159_1 (ls : a_LS) (st : List Value) (σ : a_HP) (Q : Option Value → a_HP → Prop) : Rn 159 1 ls st σ Q = acR 159 (o_i2l 2 ls st σ) ls σ Q := rn_row rfl ls st σ Q
theorem r_159_2 (ls : a_LS) (st : List Value) (σ : a_HP) (Q : Option Value → a_HP → Prop) : Rn 159 2 ls st σ Q = acR 159 (o_pl (lN 0) 3 ls st σ) ls σ Q := rn_row rfl ls st σ Q
theorem r_159_3 (ls : a_LS) (st : List Value) (σ : a_HP) (Q : Option Value → a_HP → Prop) : Rn 159 3 ls st σ Q = acR 159 (o_pl (lN 127) 6 ls st σ) ls σ Q := rn_row rfl ls st σ Q
theorem r_159_6 (ls : a_LS) (st : List Value) (σ : a_HP) (Q : Option Value → a_HP → Prop) : Rn 159 6 ls st σ Q = acR 159 (o_ivs 122 3 9 ls st σ) ls σ Q := rn_row rfl ls st σ Q
theorem r_159_9 (ls : a_LS) (st : List Value) (σ : a_HP) (Q : Option Value → a_HP → Prop) : Rn 159 9 ls st σ Q = acR 159 (o_ne 17 12 ls st σ) ls σ Q := rn_row rfl ls st σ Q
theorem r_159_12 (ls : a_LS) (st : List Value) (σ : a_HP) (Q : Option Value → a_HP → Prop) : Rn 159 12 ls st σ Q = acR 159 (o_lda 0 13 ls st σ) ls σ Q := rn_row rfl ls st σ Q
theorem r_159_13 (ls : a_LS) (st : List Value) (σ : a_HP) (Q : Option Value → a_HP → Prop) : Rn 159 13 ls st σ Q = acR 159 (o_ivv 8 125 0 16 ls st σ) ls σ Q := rn_row rfl ls st σ Q
theorem r_159_16 (ls : a_LS) (st : List Value) (σ : a_HP) (Q : Option Value → a_HP → Prop) : Rn 159 16 ls st σ Q = acR 159 (o_ri ls st σ) ls σ Q := rn_row rfl ls st σ Q
theorem r_159_17 (ls : a_LS) (st : List Value) (σ : a_HP) (Q : Option Value → a_HP → Prop) : Rn 159 17 ls st σ Q = acR 159 (o_lda 0 18 ls st σ) ls σ Q := rn_row rfl ls st σ Q
theorem r_159_18 (ls : a_LS) (st : List Value) (σ : a_HP) (Q : Option Value → a_HP → Prop) : Rn 159 18 ls st σ Q = acR 159 (o_get 8 6 21 ls st σ) ls σ Q := rn_row rfl ls st σ Q
theorem r_159_21 (ls : a_LS) (st : List Value) (σ : a_HP) (Q : Option Value → a_HP → Prop) : Rn 159 21 ls st σ Q = acR 159 (o_pi (nI 150) 24 ls st σ) ls σ Q := rn_row rfl ls st σ Q
theorem r_159_24 (ls : a_LS) (st : List Value) (σ : a_HP) (Q : Option Value → a_HP → Prop) : Rn 159 24 ls st σ Q = acR 159 (o_cne 32 27 ls st σ) ls σ Q := rn_row rfl ls st σ Q
theorem r_159_27 (ls : a_LS) (st : List Value) (σ : a_HP) (Q : Option Value → a_HP → Prop) : Rn 159 27 ls st σ Q = acR 159 (o_lda 0 28 ls st σ) ls σ Q := rn_row rfl ls st σ Q
theorem r_159_28 (ls : a_LS) (st : List Value) (σ : a_HP) (Q : Option Value → a_HP → Prop) : Rn 159 28 ls st σ Q = acR 159 (o_ivv 8 128 0 31 ls st σ) ls σ Q := rn_row rfl ls st σ Q
theorem r_159_31 (ls : a_LS) (st : List Value) (σ : a_HP) (Q : Option Value → a_HP → Prop) : Rn 159 31 ls st σ Q = acR 159 (o_ri ls st σ) ls σ Q := rn_row rfl ls st σ Q
theorem r_159_32 (ls : a_LS) (st : List Value) (σ : a_HP) (Q : Option Value → a_HP → Prop) : Rn 159 32 ls st σ Q = acR 159 (o_lda 0 33 ls st σ) ls σ Q := rn_row rfl ls st σ Q
theorem r_159_33 (ls : a_LS) (st : List Value) (σ : a_HP) (Q : Option Value → a_HP → Prop) : Rn 159 33 ls st σ Q = acR 159 (o_get 8 5 36 ls st σ) ls σ Q := rn_row rfl ls st σ Q
theorem r_159_36 (ls : a_LS) (st : List Value) (σ : a_HP) (Q : Option Value → a_HP → Prop) : Rn 159 36 ls st σ Q = acR 159 (o_lda 0 37 ls st σ) ls σ Q := rn_row rfl ls st σ Q
theorem r_159_37 (ls : a_LS) (st : List Value) (σ : a_HP) (Q : Option Value → a_HP → Prop) : Rn 159 37 ls st σ Q = acR 159 (o_get 8 6 40 ls st σ) ls σ Q := rn_row rfl ls st σ Q
theorem r_159_40 (ls : a_LS) (st : List Value) (σ : a_HP) (Q : Option Value → a_HP → Prop) : Rn 159 40 ls st σ Q = acR 159 (o_ldi 1 41 ls st σ) ls σ Q := rn_row rfl ls st σ Q
theorem r_159_41 (ls : a_LS) (st : List Value) (σ : a_HP) (Q : Option Value → a_HP → Prop) : Rn 159 41 ls st σ Q = acR 159 (o_ias 42 ls st σ) ls σ Q := rn_row rfl ls st σ Q
theorem r_159_42 (ls : a_LS) (st : List Value) (σ : a_HP) (Q : Option Value → a_HP → Prop) : Rn 159 42 ls st σ Q = acR 159 (o_lda 0 43 ls st σ) ls σ Q := rn_row rfl ls st σ Q
theorem r_159_43 (ls : a_LS) (st : List Value) (σ : a_HP) (Q : Option Value → a_HP → Prop) : Rn 159 43 ls st σ Q = acR 159 (o_dup 44 ls st σ) ls σ Q := rn_row rfl ls st σ Q
theorem r_159_44 (ls : a_LS) (st : List Value) (σ : a_HP) (Q : Option Value → a_HP → Prop) : Rn 159 44 ls st σ Q = acR 159 (o_get 8 6 47 ls st σ) ls σ Q := rn_row rfl ls st σ Q
theorem r_159_47 (ls : a_LS) (st : List Value) (σ : a_HP) (Q : Option Value → a_HP → Prop) : Rn 159 47 ls st σ Q = acR 159 (o_pi (nI 1) 48 ls st σ) ls σ Q := rn_row rfl ls st σ Q
theorem r_159_48 (ls : a_LS) (st : List Value) (σ : a_HP) (Q : Option Value → a_HP → Prop) : Rn 159 48 ls st σ Q = acR 159 (o_bi f_add 49 ls st σ) ls σ Q := rn_row rfl ls st σ Q
theorem r_159_49 (ls : a_LS) (st : List Value) (σ : a_HP) (Q : Option Value → a_HP → Prop) : Rn 159 49 ls st σ Q = acR 159 (o_put 8 6 52 ls st σ) ls σ Q := rn_row rfl ls st σ Q
theorem r_159_52 (ls : a_LS) (st : List Value) (σ : a_HP) (Q : Option Value → a_HP → Prop) : Rn 159 52 ls st σ Q = acR 159 (o_lda 0 53 ls st σ) ls σ Q := rn_row rfl ls st σ Q
theorem r_159_53 (ls : a_LS) (st : List Value) (σ : a_HP) (Q : Option Value → a_HP → Prop) : Rn 159 53 ls st σ Q = acR 159 (o_get 8 6 56 ls st σ) ls σ Q := rn_row rfl ls st σ Q
theorem r_159_56 (ls : a_LS) (st : List Value) (σ : a_HP) (Q : Option Value → a_HP → Prop) : Rn 159 56 ls st σ Q = acR 159 (o_ri ls st σ) ls σ Q := rn_row rfl ls st σ Q
/-! 160: NetLawModel.clear()I -/
theorem cl_160 (x0 : Nat) (σ : a_HP) (Q : Option Value → a_HP → Prop) : Cl 160 [.ref x0] σ Q = Rn 160 0 [some (.ref x0), none] [] σ Q := cl_of (Nat.le_of_ble_eq_true rfl) rfl σ Q
theorem r_160_0 (ls : a_LS) (st : List Value) (σ : a_HP) (Q : Option Value → a_HP → Prop) : Rn 160 0 ls st σ Q = acR 160 (o_lda 0 1 ls st σ) ls σ Q := rn_row rfl ls st σ Q
theorem r_160_1 (ls : a_LS) (st : List Value) (σ : a_HP) (Q : Option Value → a_HP → Prop) : Rn 160 1 ls st σ Q = acR 160 (o_get 8 6 4 ls st σ) ls σ Q := rn_row rfl ls st σ Q
theorem r_160_4 (ls : a_LS) (st : List Value) (σ : a_HP) (Q : Option Value → a_HP → Prop) : Rn 160 4 ls st σ Q = acR 160 (o_sti 1 5 ls st σ) ls σ Q := rn_row rfl ls st σ Q
theorem r_160_5 (ls : a_LS) (st : List Value) (σ : a_HP) (Q : Option Value → a_HP → Prop) : Rn 160 5 ls st σ Q = acR 160 (o_lda 0 6 ls st σ) ls σ Q := rn_row rfl ls st σ Q
theorem r_160_6 (ls : a_LS) (st : List Value) (σ : a_HP) (Q : Option Value → a_HP → Prop) : Rn 160 6 ls st σ Q = acR 160 (o_pi (nI 0) 7 ls st σ) ls σ Q := rn_row rfl ls st σ Q
theorem r_160_7 (ls : a_LS) (st : List Value) (σ : a_HP) (Q : Option Value → a_HP → Prop) : Rn 160 7 ls st σ Q = acR 160 (o_put 8 6 10 ls st σ) ls σ Q := rn_row rfl ls st σ Q
theorem r_160_10 (ls : a_LS) (st : List Value) (σ : a_HP) (Q : Option Value → a_HP → Prop) : Rn 160 10 ls st σ Q = acR 160 (o_ldi 1 11 ls st σ) ls σ Q := rn_row rfl ls st σ Q
theorem r_160_11 (ls : a_LS) (st : List Value) (σ : a_HP) (Q : Option Value → a_HP → Prop) : Rn 160 11 ls st σ Q = acR 160 (o_ri ls st σ) ls σ Q := rn_row rfl ls st σ Q
/-! 161: NetLawModel.here()I -/
theorem cl_161 (x0 : Nat) (σ : a_HP) (Q : Option Value → a_HP → Prop) : Cl 161 [.ref x0] σ Q = Rn 161 0 [some (.ref x0)] [] σ Q := cl_of (Nat.le_of_ble_eq_true rfl) rfl σ Q
theorem r_161_0 (ls : a_LS) (st : List Value) (σ : a_HP) (Q : Option Value → a_HP → Prop) : Rn 161 0 ls st σ Q = acR 161 (o_lda 0 1 ls st σ) ls σ Q := rn_row rfl ls st σ Q
theorem r_161_1 (ls : a_LS) (st : List Value) (σ : a_HP) (Q : Option Value → a_HP → Prop) : Rn 161 1 ls st σ Q = acR 161 (o_get 8 10 4 ls st σ) ls σ Q := rn_row rfl ls st σ Q
theorem r_161_4 (ls : a_LS) (st : List Value) (σ : a_HP) (Q : Option Value → a_HP → Prop) : Rn 161 4 ls st σ Q = acR 161 (o_lda 0 5 ls st σ) ls σ Q := rn_row rfl ls st σ Q
theorem r_161_5 (ls : a_LS) (st : List Value) (σ : a_HP) (Q : Option Value → a_HP → Prop) : Rn 161 5 ls st σ Q = acR 161 (o_get 8 6 8 ls st σ) ls σ Q := rn_row rfl ls st σ Q
theorem r_161_8 (ls : a_LS) (st : List Value) (σ : a_HP) (Q : Option Value → a_HP → Prop) : Rn 161 8 ls st σ Q = acR 161 (o_cge 23 11 ls st σ) ls σ Q := rn_row rfl ls st σ Q
theorem r_161_11 (ls : a_LS) (st : List Value) (σ : a_HP) (Q : Option Value → a_HP → Prop) : Rn 161 11 ls st σ Q = acR 161 (o_lda 0 12 ls st σ) ls σ Q := rn_row rfl ls st σ Q
theorem r_161_12 (ls : a_LS) (st : List Value) (σ : a_HP) (Q : Option Value → a_HP → Prop) : Rn 161 12 ls st σ Q = acR 161 (o_get 8 5 15 ls st σ) ls σ Q := rn_row rfl ls st σ Q
theorem r_161_15 (ls : a_LS) (st : List Value) (σ : a_HP) (Q : Option Value → a_HP → Prop) : Rn 161 15 ls st σ Q = acR 161 (o_lda 0 16 ls st σ) ls σ Q := rn_row rfl ls st σ Q
theorem r_161_16 (ls : a_LS) (st : List Value) (σ : a_HP) (Q : Option Value → a_HP → Prop) : Rn 161 16 ls st σ Q = acR 161 (o_get 8 10 19 ls st σ) ls σ Q := rn_row rfl ls st σ Q
theorem r_161_19 (ls : a_LS) (st : List Value) (σ : a_HP) (Q : Option Value → a_HP → Prop) : Rn 161 19 ls st σ Q = acR 161 (o_ial 20 ls st σ) ls σ Q := rn_row rfl ls st σ Q
theorem r_161_20 (ls : a_LS) (st : List Value) (σ : a_HP) (Q : Option Value → a_HP → Prop) : Rn 161 20 ls st σ Q = acR 161 (o_go 24 ls st σ) ls σ Q := rn_row rfl ls st σ Q
theorem r_161_23 (ls : a_LS) (st : List Value) (σ : a_HP) (Q : Option Value → a_HP → Prop) : Rn 161 23 ls st σ Q = acR 161 (o_pi (-1) 24 ls st σ) ls σ Q := rn_row rfl ls st σ Q
theorem r_161_24 (ls : a_LS) (st : List Value) (σ : a_HP) (Q : Option Value → a_HP → Prop) : Rn 161 24 ls st σ Q = acR 161 (o_ri ls st σ) ls σ Q := rn_row rfl ls st σ Q
/-! 162: NetLawModel.step()V -/
theorem cl_162 (x0 : Nat) (σ : a_HP) (Q : Option Value → a_HP → Prop) : Cl 162 [.ref x0] σ Q = Rn 162 0 [some (.ref x0), none] [] σ Q := cl_of (Nat.le_of_ble_eq_true rfl) rfl σ Q
theorem r_162_0 (ls : a_LS) (st : List Value) (σ : a_HP) (Q : Option Value → a_HP → Prop) : Rn 162 0 ls st σ Q = acR 162 (o_lda 0 1 ls st σ) ls σ Q := rn_row rfl ls st σ Q
theorem r_162_1 (ls : a_LS) (st : List Value) (σ : a_HP) (Q : Option Value → a_HP → Prop) : Rn 162 1 ls st σ Q = acR 162 (o_ivv 8 161 0 4 ls st σ) ls σ Q := rn_row rfl ls st σ Q
theorem r_162_4 (ls : a_LS) (st : List Value) (σ : a_HP) (Q : Option Value → a_HP → Prop) : Rn 162 4 ls st σ Q = acR 162 (o_pi (nI 32) 6 ls st σ) ls σ Q := rn_row rfl ls st σ Q
theorem r_162_6 (ls : a_LS) (st : List Value) (σ : a_HP) (Q : Option Value → a_HP → Prop) : Rn 162 6 ls st σ Q = acR 162 (o_cne 22 9 ls st σ) ls σ Q := rn_row rfl ls st σ Q
theorem r_162_9 (ls : a_LS) (st : List Value) (σ : a_HP) (Q : Option Value → a_HP → Prop) : Rn 162 9 ls st σ Q = acR 162 (o_lda 0 10 ls st σ) ls σ Q := rn_row rfl ls st σ Q
theorem r_162_10 (ls : a_LS) (st : List Value) (σ : a_HP) (Q : Option Value → a_HP → Prop) : Rn 162 10 ls st σ Q = acR 162 (o_dup 11 ls st σ) ls σ Q := rn_row rfl ls st σ Q
theorem r_162_11 (ls : a_LS) (st : List Value) (σ : a_HP) (Q : Option Value → a_HP → Prop) : Rn 162 11 ls st σ Q = acR 162 (o_get 8 10 14 ls st σ) ls σ Q := rn_row rfl ls st σ Q
theorem r_162_14 (ls : a_LS) (st : List Value) (σ : a_HP) (Q : Option Value → a_HP → Prop) : Rn 162 14 ls st σ Q = acR 162 (o_pi (nI 1) 15 ls st σ) ls σ Q := rn_row rfl ls st σ Q
theorem r_162_15 (ls : a_LS) (st : List Value) (σ : a_HP) (Q : Option Value → a_HP → Prop) : Rn 162 15 ls st σ Q = acR 162 (o_bi f_add 16 ls st σ) ls σ Q := rn_row rfl ls st σ Q
theorem r_162_16 (ls : a_LS) (st : List Value) (σ : a_HP) (Q : Option Value → a_HP → Prop) : Rn 162 16 ls st σ Q = acR 162 (o_put 8 10 19 ls st σ) ls σ Q := rn_row rfl ls st σ Q
theorem r_162_19 (ls : a_LS) (st : List Value) (σ : a_HP) (Q : Option Value → a_HP → Prop) : Rn 162 19 ls st σ Q = acR 162 (o_go 0 ls st σ) ls σ Q := rn_row rfl ls st σ Q
theorem r_162_22 (ls : a_LS) (st : List Value) (σ : a_HP) (Q : Option Value → a_HP → Prop) : Rn 162 22 ls st σ Q = acR 162 (o_lda 0 23 ls st σ) ls σ Q := rn_row rfl ls st σ Q
theorem r_162_23 (ls : a_LS) (st : List Value) (σ : a_HP) (Q : Option Value → a_HP → Prop) : Rn 162 23 ls st σ Q = acR 162 (o_lda 0 24 ls st σ) ls σ Q := rn_row rfl ls st σ Q
theorem r_162_24 (ls : a_LS) (st : List Value) (σ : a_HP) (Q : Option Value → a_HP → Prop) : Rn 162 24 ls st σ Q = acR 162 (o_get 8 10 27 ls st σ) ls σ Q := rn_row rfl ls st σ Q
theorem r_162_27 (ls : a_LS) (st : List Value) (σ : a_HP) (Q : Option Value → a_HP → Prop) : Rn 162 27 ls st σ Q = acR 162 (o_put 8 11 30 ls st σ) ls σ Q := rn_row rfl ls st σ Q
theorem r_162_30 (ls : a_LS) (st : List Value) (σ : a_HP) (Q : Option Value → a_HP → Prop) : Rn 162 30 ls st σ Q = acR 162 (o_lda 0 31 ls st σ) ls σ Q := rn_row rfl ls st σ Q
theorem r_162_31 (ls : a_LS) (st : List Value) (σ : a_HP) (Q : Option Value → a_HP → Prop) : Rn 162 31 ls st σ Q = acR 162 (o_pl (lN 0) 32 ls st σ) ls σ Q := rn_row rfl ls st σ Q
theorem r_162_32 (ls : a_LS) (st : List Value) (σ : a_HP) (Q : Option Value → a_HP → Prop) : Rn 162 32 ls st σ Q = acR 162 (o_putl 8 13 35 ls st σ) ls σ Q := rn_row rfl ls st σ Q
theorem r_162_35 (ls : a_LS) (st : List Value) (σ : a_HP) (Q : Option Value → a_HP → Prop) : Rn 162 35 ls st σ Q = acR 162 (o_lda 0 36 ls st σ) ls σ Q := rn_row rfl ls st σ Q
theorem r_162_36 (ls : a_LS) (st : List Value) (σ : a_HP) (Q : Option Value → a_HP → Prop) : Rn 162 36 ls st σ Q = acR 162 (o_pi (nI 0) 37 ls st σ) ls σ Q := rn_row rfl ls st σ Q
theorem r_162_37 (ls : a_LS) (st : List Value) (σ : a_HP) (Q : Option Value → a_HP → Prop) : Rn 162 37 ls st σ Q = acR 162 (o_put 8 14 40 ls st σ) ls σ Q := rn_row rfl ls st σ Q
theorem r_162_40 (ls : a_LS) (st : List Value) (σ : a_HP) (Q : Option Value → a_HP → Prop) : Rn 162 40 ls st σ Q = acR 162 (o_lda 0 41 ls st σ) ls σ Q := rn_row rfl ls st σ Q
theorem r_162_41 (ls : a_LS) (st : List Value) (σ : a_HP) (Q : Option Value → a_HP → Prop) : Rn 162 41 ls st σ Q = acR 162 (o_ivv 8 161 0 44 ls st σ) ls σ Q := rn_row rfl ls st σ Q
theorem r_162_44 (ls : a_LS) (st : List Value) (σ : a_HP) (Q : Option Value → a_HP → Prop) : Rn 162 44 ls st σ Q = acR 162 (o_sti 1 45 ls st σ) ls σ Q := rn_row rfl ls st σ Q
theorem r_162_45 (ls : a_LS) (st : List Value) (σ : a_HP) (Q : Option Value → a_HP → Prop) : Rn 162 45 ls st σ Q = acR 162 (o_lda 0 46 ls st σ) ls σ Q := rn_row rfl ls st σ Q
theorem r_162_46 (ls : a_LS) (st : List Value) (σ : a_HP) (Q : Option Value → a_HP → Prop) : Rn 162 46 ls st σ Q = acR 162 (o_ldi 1 47 ls st σ) ls σ Q := rn_row rfl ls st σ Q
theorem r_162_47 (ls : a_LS) (st : List Value) (σ : a_HP) (Q : Option Value → a_HP → Prop) : Rn 162 47 ls st σ Q = acR 162 (o_ge 54 50 ls st σ) ls σ Q := rn_row rfl ls st σ Q
theorem r_162_50 (ls : a_LS) (st : List Value) (σ : a_HP) (Q : Option Value → a_HP → Prop) : Rn 162 50 ls st σ Q = acR 162 (o_pi (nI 0) 51 ls st σ) ls σ Q := rn_row rfl ls st σ Q
theorem r_162_51 (ls : a_LS) (st : List Value) (σ : a_HP) (Q : Option Value → a_HP → Prop) : Rn 162 51 ls st σ Q = acR 162 (o_go 101 ls st σ) ls σ Q := rn_row rfl ls st σ Q
theorem r_162_54 (ls : a_LS) (st : List Value) (σ : a_HP) (Q : Option Value → a_HP → Prop) : Rn 162 54 ls st σ Q = acR 162 (o_ldi 1 55 ls st σ) ls σ Q := rn_row rfl ls st σ Q
theorem r_162_55 (ls : a_LS) (st : List Value) (σ : a_HP) (Q : Option Value → a_HP → Prop) : Rn 162 55 ls st σ Q = acR 162 (o_i2l 56 ls st σ) ls σ Q := rn_row rfl ls st σ Q
theorem r_162_56 (ls : a_LS) (st : List Value) (σ : a_HP) (Q : Option Value → a_HP → Prop) : Rn 162 56 ls st σ Q = acR 162 (o_pl (lN 97) 59 ls st σ) ls σ Q := rn_row rfl ls st σ Q
theorem r_162_59 (ls : a_LS) (st : List Value) (σ : a_HP) (Q : Option Value → a_HP → Prop) : Rn 162 59 ls st σ Q = acR 162 (o_pl (lN 122) 62 ls st σ) ls σ Q := rn_row rfl ls st σ Q
theorem r_162_62 (ls : a_LS) (st : List Value) (σ : a_HP) (Q : Option Value → a_HP → Prop) : Rn 162 62 ls st σ Q = acR 162 (o_ivs 122 3 65 ls st σ) ls σ Q := rn_row rfl ls st σ Q
theorem r_162_65 (ls : a_LS) (st : List Value) (σ : a_HP) (Q : Option Value → a_HP → Prop) : Rn 162 65 ls st σ Q = acR 162 (o_eq 72 68 ls st σ) ls σ Q := rn_row rfl ls st σ Q
theorem r_162_68 (ls : a_LS) (st : List Value) (σ : a_HP) (Q : Option Value → a_HP → Prop) : Rn 162 68 ls st σ Q = acR 162 (o_pi (nI 1) 69 ls st σ) ls σ Q := rn_row rfl ls st σ Q
theorem r_162_69 (ls : a_LS) (st : List Value) (σ : a_HP) (Q : Option Value → a_HP → Prop) : Rn 162 69 ls st σ Q = acR 162 (o_go 101 ls st σ) ls σ Q := rn_row rfl ls st σ Q
theorem r_162_72 (ls : a_LS) (st : List Value) (σ : a_HP) (Q : Option Value → a_HP → Prop) : Rn 162 72 ls st σ Q = acR 162 (o_ldi 1 73 ls st σ) ls σ Q := rn_row rfl ls st σ Q
theorem r_162_73 (ls : a_LS) (st : List Value) (σ : a_HP) (Q : Option Value → a_HP → Prop) : Rn 162 73 ls st σ Q = acR 162 (o_i2l 74 ls st σ) ls σ Q := rn_row rfl ls st σ Q
theorem r_162_74 (ls : a_LS) (st : List Value) (σ : a_HP) (Q : Option Value → a_HP → Prop) : Rn 162 74 ls st σ Q = acR 162 (o_pl (lN 48) 77 ls st σ) ls σ Q := rn_row rfl ls st σ Q
theorem r_162_77 (ls : a_LS) (st : List Value) (σ : a_HP) (Q : Option Value → a_HP → Prop) : Rn 162 77 ls st σ Q = acR 162 (o_pl (lN 57) 80 ls st σ) ls σ Q := rn_row rfl ls st σ Q
theorem r_162_80 (ls : a_LS) (st : List Value) (σ : a_HP) (Q : Option Value → a_HP → Prop) : Rn 162 80 ls st σ Q = acR 162 (o_ivs 122 3 83 ls st σ) ls σ Q := rn_row rfl ls st σ Q
theorem r_162_83 (ls : a_LS) (st : List Value) (σ : a_HP) (Q : Option Value → a_HP → Prop) : Rn 162 83 ls st σ Q = acR 162 (o_eq 90 86 ls st σ) ls σ Q := rn_row rfl ls st σ Q
theorem r_162_86 (ls : a_LS) (st : List Value) (σ : a_HP) (Q : Option Value → a_HP → Prop) : Rn 162 86 ls st σ Q = acR 162 (o_pi (nI 2) 87 ls st σ) ls σ Q := rn_row rfl ls st σ Q
theorem r_162_87 (ls : a_LS) (st : List Value) (σ : a_HP) (Q : Option Value → a_HP → Prop) : Rn 162 87 ls st σ Q = acR 162 (o_go 101 ls st σ) ls σ Q := rn_row rfl ls st σ Q
theorem r_162_90 (ls : a_LS) (st : List Value) (σ : a_HP) (Q : Option Value → a_HP → Prop) : Rn 162 90 ls st σ Q = acR 162 (o_ldi 1 91 ls st σ) ls σ Q := rn_row rfl ls st σ Q
theorem r_162_91 (ls : a_LS) (st : List Value) (σ : a_HP) (Q : Option Value → a_HP → Prop) : Rn 162 91 ls st σ Q = acR 162 (o_pi (nI 59) 93 ls st σ) ls σ Q := rn_row rfl ls st σ Q
theorem r_162_93 (ls : a_LS) (st : List Value) (σ : a_HP) (Q : Option Value → a_HP → Prop) : Rn 162 93 ls st σ Q = acR 162 (o_cne 100 96 ls st σ) ls σ Q := rn_row rfl ls st σ Q
theorem r_162_96 (ls : a_LS) (st : List Value) (σ : a_HP) (Q : Option Value → a_HP → Prop) : Rn 162 96 ls st σ Q = acR 162 (o_pi (nI 3) 97 ls st σ) ls σ Q := rn_row rfl ls st σ Q
theorem r_162_97 (ls : a_LS) (st : List Value) (σ : a_HP) (Q : Option Value → a_HP → Prop) : Rn 162 97 ls st σ Q = acR 162 (o_go 101 ls st σ) ls σ Q := rn_row rfl ls st σ Q
theorem r_162_100 (ls : a_LS) (st : List Value) (σ : a_HP) (Q : Option Value → a_HP → Prop) : Rn 162 100 ls st σ Q = acR 162 (o_pi (nI 4) 101 ls st σ) ls σ Q := rn_row rfl ls st σ Q
theorem r_162_101 (ls : a_LS) (st : List Value) (σ : a_HP) (Q : Option Value → a_HP → Prop) : Rn 162 101 ls st σ Q = acR 162 (o_put 8 12 104 ls st σ) ls σ Q := rn_row rfl ls st σ Q
theorem r_162_104 (ls : a_LS) (st : List Value) (σ : a_HP) (Q : Option Value → a_HP → Prop) : Rn 162 104 ls st σ Q = acR 162 (o_lda 0 105 ls st σ) ls σ Q := rn_row rfl ls st σ Q
theorem r_162_105 (ls : a_LS) (st : List Value) (σ : a_HP) (Q : Option Value → a_HP → Prop) : Rn 162 105 ls st σ Q = acR 162 (o_get 8 12 108 ls st σ) ls σ Q := rn_row rfl ls st σ Q
theorem r_162_108 (ls : a_LS) (st : List Value) (σ : a_HP) (Q : Option Value → a_HP → Prop) : Rn 162 108 ls st σ Q = acR 162 (o_pi (nI 2) 109 ls st σ) ls σ Q := rn_row rfl ls st σ Q
theorem r_162_109 (ls : a_LS) (st : List Value) (σ : a_HP) (Q : Option Value → a_HP → Prop) : Rn 162 109 ls st σ Q = acR 162 (o_cle 122 112 ls st σ) ls σ Q := rn_row rfl ls st σ Q
theorem r_162_112 (ls : a_LS) (st : List Value) (σ : a_HP) (Q : Option Value → a_HP → Prop) : Rn 162 112 ls st σ Q = acR 162 (o_lda 0 113 ls st σ) ls σ Q := rn_row rfl ls st σ Q
theorem r_162_113 (ls : a_LS) (st : List Value) (σ : a_HP) (Q : Option Value → a_HP → Prop) : Rn 162 113 ls st σ Q = acR 162 (o_dup 114 ls st σ) ls σ Q := rn_row rfl ls st σ Q
theorem r_162_114 (ls : a_LS) (st : List Value) (σ : a_HP) (Q : Option Value → a_HP → Prop) : Rn 162 114 ls st σ Q = acR 162 (o_get 8 10 117 ls st σ) ls σ Q := rn_row rfl ls st σ Q
theorem r_162_117 (ls : a_LS) (st : List Value) (σ : a_HP) (Q : Option Value → a_HP → Prop) : Rn 162 117 ls st σ Q = acR 162 (o_pi (nI 1) 118 ls st σ) ls σ Q := rn_row rfl ls st σ Q
theorem r_162_118 (ls : a_LS) (st : List Value) (σ : a_HP) (Q : Option Value → a_HP → Prop) : Rn 162 118 ls st σ Q = acR 162 (o_bi f_add 119 ls st σ) ls σ Q := rn_row rfl ls st σ Q
theorem r_162_119 (ls : a_LS) (st : List Value) (σ : a_HP) (Q : Option Value → a_HP → Prop) : Rn 162 119 ls st σ Q = acR 162 (o_put 8 10 122 ls st σ) ls σ Q := rn_row rfl ls st σ Q
theorem r_162_122 (ls : a_LS) (st : List Value) (σ : a_HP) (Q : Option Value → a_HP → Prop) : Rn 162 122 ls st σ Q = acR 162 (o_lda 0 123 ls st σ) ls σ Q := rn_row rfl ls st σ Q
theorem r_162_123 (ls : a_LS) (st : List Value) (σ : a_HP) (Q : Option Value → a_HP → Prop) : Rn 162 123 ls st σ Q = acR 162 (o_get 8 12 126 ls st σ) ls σ Q := rn_row rfl ls st σ Q
theorem r_162_126 (ls : a_LS) (st : List Value) (σ : a_HP) (Q : Option Value → a_HP → Prop) : Rn 162 126 ls st σ Q = acR 162 (o_pi (nI 1) 127 ls st σ) ls σ Q := rn_row rfl ls st σ Q
theorem r_162_127 (ls : a_LS) (st : List Value) (σ : a_HP) (Q : Option Value → a_HP → Prop) : Rn 162 127 ls st σ Q = acR 162 (o_cne 198 130 ls st σ) ls σ Q := rn_row rfl ls st σ Q
theorem r_162_130 (ls : a_LS) (st : List Value) (σ : a_HP) (Q : Option Value → a_HP → Prop) : Rn 162 130 ls st σ Q = acR 162 (o_lda 0 131 ls st σ) ls σ Q := rn_row rfl ls st σ Q
theorem r_162_131 (ls : a_LS) (st : List Value) (σ : a_HP) (Q : Option Value → a_HP → Prop) : Rn 162 131 ls st σ Q = acR 162 (o_ivv 8 161 0 134 ls st σ) ls σ Q := rn_row rfl ls st σ Q
theorem r_162_134 (ls : a_LS) (st : List Value) (σ : a_HP) (Q : Option Value → a_HP → Prop) : Rn 162 134 ls st σ Q = acR 162 (o_i2l 135 ls st σ) ls σ Q := rn_row rfl ls st σ Q
theorem r_162_135 (ls : a_LS) (st : List Value) (σ : a_HP) (Q : Option Value → a_HP → Prop) : Rn 162 135 ls st σ Q = acR 162 (o_pl (lN 97) 138 ls st σ) ls σ Q := rn_row rfl ls st σ Q
theorem r_162_138 (ls : a_LS) (st : List Value) (σ : a_HP) (Q : Option Value → a_HP → Prop) : Rn 162 138 ls st σ Q = acR 162 (o_pl (lN 122) 141 ls st σ) ls σ Q := rn_row rfl ls st σ Q
theorem r_162_141 (ls : a_LS) (st : List Value) (σ : a_HP) (Q : Option Value → a_HP → Prop) : Rn 162 141 ls st σ Q = acR 162 (o_ivs 122 3 144 ls st σ) ls σ Q := rn_row rfl ls st σ Q
theorem r_162_144 (ls : a_LS) (st : List Value) (σ : a_HP) (Q : Option Value → a_HP → Prop) : Rn 162 144 ls st σ Q = acR 162 (o_eq 198 147 ls st σ) ls σ Q := rn_row rfl ls st σ Q
theorem r_162_147 (ls : a_LS) (st : List Value) (σ : a_HP) (Q : Option Value → a_HP → Prop) : Rn 162 147 ls st σ Q = acR 162 (o_lda 0 148 ls st σ) ls σ Q := rn_row rfl ls st σ Q
theorem r_162_148 (ls : a_LS) (st : List Value) (σ : a_HP) (Q : Option Value → a_HP → Prop) : Rn 162 148 ls st σ Q = acR 162 (o_lda 0 149 ls st σ) ls σ Q := rn_row rfl ls st σ Q
theorem r_162_149 (ls : a_LS) (st : List Value) (σ : a_HP) (Q : Option Value → a_HP → Prop) : Rn 162 149 ls st σ Q = acR 162 (o_get 8 10 152 ls st σ) ls σ Q := rn_row rfl ls st σ Q
theorem r_162_152 (ls : a_LS) (st : List Value) (σ : a_HP) (Q : Option Value → a_HP → Prop) : Rn 162 152 ls st σ Q = acR 162 (o_lda 0 153 ls st σ) ls σ Q := rn_row rfl ls st σ Q
theorem r_162_153 (ls : a_LS) (st : List Value) (σ : a_HP) (Q : Option Value → a_HP → Prop) : Rn 162 153 ls st σ Q = acR 162 (o_get 8 11 156 ls st σ) ls σ Q := rn_row rfl ls st σ Q
theorem r_162_156 (ls : a_LS) (st : List Value) (σ : a_HP) (Q : Option Value → a_HP → Prop) : Rn 162 156 ls st σ Q = acR 162 (o_bi f_sub 157 ls st σ) ls σ Q := rn_row rfl ls st σ Q
theorem r_162_157 (ls : a_LS) (st : List Value) (σ : a_HP) (Q : Option Value → a_HP → Prop) : Rn 162 157 ls st σ Q = acR 162 (o_pi (nI 7) 159 ls st σ) ls σ Q := rn_row rfl ls st σ Q
theorem r_162_159 (ls : a_LS) (st : List Value) (σ : a_HP) (Q : Option Value → a_HP → Prop) : Rn 162 159 ls st σ Q = acR 162 (o_cge 179 162 ls st σ) ls σ Q := rn_row rfl ls st σ Q
theorem r_162_162 (ls : a_LS) (st : List Value) (σ : a_HP) (Q : Option Value → a_HP → Prop) : Rn 162 162 ls st σ Q = acR 162 (o_lda 0 163 ls st σ) ls σ Q := rn_row rfl ls st σ Q
theorem r_162_163 (ls : a_LS) (st : List Value) (σ : a_HP) (Q : Option Value → a_HP → Prop) : Rn 162 163 ls st σ Q = acR 162 (o_get 8 13 166 ls st σ) ls σ Q := rn_row rfl ls st σ Q
theorem r_162_166 (ls : a_LS) (st : List Value) (σ : a_HP) (Q : Option Value → a_HP → Prop) : Rn 162 166 ls st σ Q = acR 162 (o_pl (lN 256) 169 ls st σ) ls σ Q := rn_row rfl ls st σ Q
theorem r_162_169 (ls : a_LS) (st : List Value) (σ : a_HP) (Q : Option Value → a_HP → Prop) : Rn 162 169 ls st σ Q = acR 162 (o_bl g_mul 170 ls st σ) ls σ Q := rn_row rfl ls st σ Q
theorem r_162_170 (ls : a_LS) (st : List Value) (σ : a_HP) (Q : Option Value → a_HP → Prop) : Rn 162 170 ls st σ Q = acR 162 (o_lda 0 171 ls st σ) ls σ Q := rn_row rfl ls st σ Q
theorem r_162_171 (ls : a_LS) (st : List Value) (σ : a_HP) (Q : Option Value → a_HP → Prop) : Rn 162 171 ls st σ Q = acR 162 (o_ivv 8 161 0 174 ls st σ) ls σ Q := rn_row rfl ls st σ Q
theorem r_162_174 (ls : a_LS) (st : List Value) (σ : a_HP) (Q : Option Value → a_HP → Prop) : Rn 162 174 ls st σ Q = acR 162 (o_i2l 175 ls st σ) ls σ Q := rn_row rfl ls st σ Q
theorem r_162_175 (ls : a_LS) (st : List Value) (σ : a_HP) (Q : Option Value → a_HP → Prop) : Rn 162 175 ls st σ Q = acR 162 (o_bl g_add 176 ls st σ) ls σ Q := rn_row rfl ls st σ Q
theorem r_162_176 (ls : a_LS) (st : List Value) (σ : a_HP) (Q : Option Value → a_HP → Prop) : Rn 162 176 ls st σ Q = acR 162 (o_go 182 ls st σ) ls σ Q := rn_row rfl ls st σ Q
theorem r_162_179 (ls : a_LS) (st : List Value) (σ : a_HP) (Q : Option Value → a_HP → Prop) : Rn 162 179 ls st σ Q = acR 162 (o_pl (-1) 182 ls st σ) ls σ Q := rn_row rfl ls st σ Q
theorem r_162_182 (ls : a_LS) (st : List Value) (σ : a_HP) (Q : Option Value → a_HP → Prop) : Rn 162 182 ls st σ Q = acR 162 (o_putl 8 13 185 ls st σ) ls σ Q := rn_row rfl ls st σ Q
theorem r_162_185 (ls : a_LS) (st : List Value) (σ : a_HP) (Q : Option Value → a_HP → Prop) : Rn 162 185 ls st σ Q = acR 162 (o_lda 0 186 ls st σ) ls σ Q := rn_row rfl ls st σ Q
theorem r_162_186 (ls : a_LS) (st : List Value) (σ : a_HP) (Q : Option Value → a_HP → Prop) : Rn 162 186 ls st σ Q = acR 162 (o_dup 187 ls st σ) ls σ Q := rn_row rfl ls st σ Q
theorem r_162_187 (ls : a_LS) (st : List Value) (σ : a_HP) (Q : Option Value → a_HP → Prop) : Rn 162 187 ls st σ Q = acR 162 (o_get 8 10 190 ls st σ) ls σ Q := rn_row rfl ls st σ Q
theorem r_162_190 (ls : a_LS) (st : List Value) (σ : a_HP) (Q : Option Value → a_HP → Prop) : Rn 162 190 ls st σ Q = acR 162 (o_pi (nI 1) 191 ls st σ) ls σ Q := rn_row rfl ls st σ Q
theorem r_162_191 (ls : a_LS) (st : List Value) (σ : a_HP) (Q : Option Value → a_HP → Prop) : Rn 162 191 ls st σ Q = acR 162 (o_bi f_add 192 ls st σ) ls σ Q := rn_row rfl ls st σ Q
theorem r_162_192 (ls : a_LS) (st : List Value) (σ : a_HP) (Q : Option Value → a_HP → Prop) : Rn 162 192 ls st σ Q = acR 162 (o_put 8 10 195 ls st σ) ls σ Q := rn_row rfl ls st σ Q
theorem r_162_195 (ls : a_LS) (st : List Value) (σ : a_HP) (Q : Option Value → a_HP → Prop) : Rn 162 195 ls st σ Q = acR 162 (o_go 122 ls st σ) ls σ Q := rn_row rfl ls st σ Q
theorem r_162_198 (ls : a_LS) (st : List Value) (σ : a_HP) (Q : Option Value → a_HP → Prop) : Rn 162 198 ls st σ Q = acR 162 (o_lda 0 199 ls st σ) ls σ Q := rn_row rfl ls st σ Q
theorem r_162_199 (ls : a_LS) (st : List Value) (σ : a_HP) (Q : Option Value → a_HP → Prop) : Rn 162 199 ls st σ Q = acR 162 (o_get 8 12 202 ls st σ) ls σ Q := rn_row rfl ls st σ Q
theorem r_162_202 (ls : a_LS) (st : List Value) (σ : a_HP) (Q : Option Value → a_HP → Prop) : Rn 162 202 ls st σ Q = acR 162 (o_pi (nI 2) 203 ls st σ) ls σ Q := rn_row rfl ls st σ Q
theorem r_162_203 (ls : a_LS) (st : List Value) (σ : a_HP) (Q : Option Value → a_HP → Prop) : Rn 162 203 ls st σ Q = acR 162 (o_cne 275 206 ls st σ) ls σ Q := rn_row rfl ls st σ Q
theorem r_162_206 (ls : a_LS) (st : List Value) (σ : a_HP) (Q : Option Value → a_HP → Prop) : Rn 162 206 ls st σ Q = acR 162 (o_lda 0 207 ls st σ) ls σ Q := rn_row rfl ls st σ Q
theorem r_162_207 (ls : a_LS) (st : List Value) (σ : a_HP) (Q : Option Value → a_HP → Prop) : Rn 162 207 ls st σ Q = acR 162 (o_ivv 8 161 0 210 ls st σ) ls σ Q := rn_row rfl ls st σ Q
theorem r_162_210 (ls : a_LS) (st : List Value) (σ : a_HP) (Q : Option Value → a_HP → Prop) : Rn 162 210 ls st σ Q = acR 162 (o_i2l 211 ls st σ) ls σ Q := rn_row rfl ls st σ Q
theorem r_162_211 (ls : a_LS) (st : List Value) (σ : a_HP) (Q : Option Value → a_HP → Prop) : Rn 162 211 ls st σ Q = acR 162 (o_pl (lN 48) 214 ls st σ) ls σ Q := rn_row rfl ls st σ Q
theorem r_162_214 (ls : a_LS) (st : List Value) (σ : a_HP) (Q : Option Value → a_HP → Prop) : Rn 162 214 ls st σ Q = acR 162 (o_pl (lN 57) 217 ls st σ) ls σ Q := rn_row rfl ls st σ Q
theorem r_162_217 (ls : a_LS) (st : List Value) (σ : a_HP) (Q : Option Value → a_HP → Prop) : Rn 162 217 ls st σ Q = acR 162 (o_ivs 122 3 220 ls st σ) ls σ Q := rn_row rfl ls st σ Q
theorem r_162_220 (ls : a_LS) (st : List Value) (σ : a_HP) (Q : Option Value → a_HP → Prop) : Rn 162 220 ls st σ Q = acR 162 (o_eq 275 223 ls st σ) ls σ Q := rn_row rfl ls st σ Q
theorem r_162_223 (ls : a_LS) (st : List Value) (σ : a_HP) (Q : Option Value → a_HP → Prop) : Rn 162 223 ls st σ Q = acR 162 (o_lda 0 224 ls st σ) ls σ Q := rn_row rfl ls st σ Q
theorem r_162_224 (ls : a_LS) (st : List Value) (σ : a_HP) (Q : Option Value → a_HP → Prop) : Rn 162 224 ls st σ Q = acR 162 (o_lda 0 225 ls st σ) ls σ Q := rn_row rfl ls st σ Q
theorem r_162_225 (ls : a_LS) (st : List Value) (σ : a_HP) (Q : Option Value → a_HP → Prop) : Rn 162 225 ls st σ Q = acR 162 (o_get 8 10 228 ls st σ) ls σ Q := rn_row rfl ls st σ Q
theorem r_162_228 (ls : a_LS) (st : List Value) (σ : a_HP) (Q : Option Value → a_HP → Prop) : Rn 162 228 ls st σ Q = acR 162 (o_lda 0 229 ls st σ) ls σ Q := rn_row rfl ls st σ Q
theorem r_162_229 (ls : a_LS) (st : List Value) (σ : a_HP) (Q : Option Value → a_HP → Prop) : Rn 162 229 ls st σ Q = acR 162 (o_get 8 11 232 ls st σ) ls σ Q := rn_row rfl ls st σ Q
theorem r_162_232 (ls : a_LS) (st : List Value) (σ : a_HP) (Q : Option Value → a_HP → Prop) : Rn 162 232 ls st σ Q = acR 162 (o_bi f_sub 233 ls st σ) ls σ Q := rn_row rfl ls st σ Q
theorem r_162_233 (ls : a_LS) (st : List Value) (σ : a_HP) (Q : Option Value → a_HP → Prop) : Rn 162 233 ls st σ Q = acR 162 (o_pi (nI 2) 234 ls st σ) ls σ Q := rn_row rfl ls st σ Q
theorem r_162_234 (ls : a_LS) (st : List Value) (σ : a_HP) (Q : Option Value → a_HP → Prop) : Rn 162 234 ls st σ Q = acR 162 (o_cge 255 237 ls st σ) ls σ Q := rn_row rfl ls st σ Q
theorem r_162_237 (ls : a_LS) (st : List Value) (σ : a_HP) (Q : Option Value → a_HP → Prop) : Rn 162 237 ls st σ Q = acR 162 (o_pi (nI 10) 239 ls st σ) ls σ Q := rn_row rfl ls st σ Q
theorem r_162_239 (ls : a_LS) (st : List Value) (σ : a_HP) (Q : Option Value → a_HP → Prop) : Rn 162 239 ls st σ Q = acR 162 (o_lda 0 240 ls st σ) ls σ Q := rn_row rfl ls st σ Q
theorem r_162_240 (ls : a_LS) (st : List Value) (σ : a_HP) (Q : Option Value → a_HP → Prop) : Rn 162 240 ls st σ Q = acR 162 (o_get 8 14 243 ls st σ) ls σ Q := rn_row rfl ls st σ Q
theorem r_162_243 (ls : a_LS) (st : List Value) (σ : a_HP) (Q : Option Value → a_HP → Prop) : Rn 162 243 ls st σ Q = acR 162 (o_bi f_mul 244 ls st σ) ls σ Q := rn_row rfl ls st σ Q
theorem r_162_244 (ls : a_LS) (st : List Value) (σ : a_HP) (Q : Option Value → a_HP → Prop) : Rn 162 244 ls st σ Q = acR 162 (o_lda 0 245 ls st σ) ls σ Q := rn_row rfl ls st σ Q
theorem r_162_245 (ls : a_LS) (st : List Value) (σ : a_HP) (Q : Option Value → a_HP → Prop) : Rn 162 245 ls st σ Q = acR 162 (o_ivv 8 161 0 248 ls st σ) ls σ Q := rn_row rfl ls st σ Q
theorem r_162_248 (ls : a_LS) (st : List Value) (σ : a_HP) (Q : Option Value → a_HP → Prop) : Rn 162 248 ls st σ Q = acR 162 (o_bi f_add 249 ls st σ) ls σ Q := rn_row rfl ls st σ Q
theorem r_162_249 (ls : a_LS) (st : List Value) (σ : a_HP) (Q : Option Value → a_HP → Prop) : Rn 162 249 ls st σ Q = acR 162 (o_pi (nI 48) 251 ls st σ) ls σ Q := rn_row rfl ls st σ Q
theorem r_162_251 (ls : a_LS) (st : List Value) (σ : a_HP) (Q : Option Value → a_HP → Prop) : Rn 162 251 ls st σ Q = acR 162 (o_bi f_sub 252 ls st σ) ls σ Q := rn_row rfl ls st σ Q
theorem r_162_252 (ls : a_LS) (st : List Value) (σ : a_HP) (Q : Option Value → a_HP → Prop) : Rn 162 252 ls st σ Q = acR 162 (o_go 259 ls st σ) ls σ Q := rn_row rfl ls st σ Q
theorem r_162_255 (ls : a_LS) (st : List Value) (σ : a_HP) (Q : Option Value → a_HP → Prop) : Rn 162 255 ls st σ Q = acR 162 (o_lda 0 256 ls st σ) ls σ Q := rn_row rfl ls st σ Q
theorem r_162_256 (ls : a_LS) (st : List Value) (σ : a_HP) (Q : Option Value → a_HP → Prop) : Rn 162 256 ls st σ Q = acR 162 (o_get 8 14 259 ls st σ) ls σ Q := rn_row rfl ls st σ Q
theorem r_162_259 (ls : a_LS) (st : List Value) (σ : a_HP) (Q : Option Value → a_HP → Prop) : Rn 162 259 ls st σ Q = acR 162 (o_put 8 14 262 ls st σ) ls σ Q := rn_row rfl ls st σ Q
theorem r_162_262 (ls : a_LS) (st : List Value) (σ : a_HP) (Q : Option Value → a_HP → Prop) : Rn 162 262 ls st σ Q = acR 162 (o_lda 0 263 ls st σ) ls σ Q := rn_row rfl ls st σ Q
theorem r_162_263 (ls : a_LS) (st : List Value) (σ : a_HP) (Q : Option Value → a_HP → Prop) : Rn 162 263 ls st σ Q = acR 162 (o_dup 264 ls st σ) ls σ Q := rn_row rfl ls st σ Q
theorem r_162_264 (ls : a_LS) (st : List Value) (σ : a_HP) (Q : Option Value → a_HP → Prop) : Rn 162 264 ls st σ Q = acR 162 (o_get 8 10 267 ls st σ) ls σ Q := rn_row rfl ls st σ Q
theorem r_162_267 (ls : a_LS) (st : List Value) (σ : a_HP) (Q : Option Value → a_HP → Prop) : Rn 162 267 ls st σ Q = acR 162 (o_pi (nI 1) 268 ls st σ) ls σ Q := rn_row rfl ls st σ Q
theorem r_162_268 (ls : a_LS) (st : List Value) (σ : a_HP) (Q : Option Value → a_HP → Prop) : Rn 162 268 ls st σ Q = acR 162 (o_bi f_add 269 ls st σ) ls σ Q := rn_row rfl ls st σ Q
theorem r_162_269 (ls : a_LS) (st : List Value) (σ : a_HP) (Q : Option Value → a_HP → Prop) : Rn 162 269 ls st σ Q = acR 162 (o_put 8 10 272 ls st σ) ls σ Q := rn_row rfl ls st σ Q
theorem r_162_272 (ls : a_LS) (st : List Value) (σ : a_HP) (Q : Option Value → a_HP → Prop) : Rn 162 272 ls st σ Q = acR 162 (o_go 198 ls st σ) ls σ Q := rn_row rfl ls st σ Q
theorem r_162_275 (ls : a_LS) (st : List Value) (σ : a_HP) (Q : Option Value → a_HP → Prop) : Rn 162 275 ls st σ Q = acR 162 (o_lda 0 276 ls st σ) ls σ Q := rn_row rfl ls st σ Q
theorem r_162_276 (ls : a_LS) (st : List Value) (σ : a_HP) (Q : Option Value → a_HP → Prop) : Rn 162 276 ls st σ Q = acR 162 (o_lda 0 277 ls st σ) ls σ Q := rn_row rfl ls st σ Q
theorem r_162_277 (ls : a_LS) (st : List Value) (σ : a_HP) (Q : Option Value → a_HP → Prop) : Rn 162 277 ls st σ Q = acR 162 (o_get 8 12 280 ls st σ) ls σ Q := rn_row rfl ls st σ Q
theorem r_162_280 (ls : a_LS) (st : List Value) (σ : a_HP) (Q : Option Value → a_HP → Prop) : Rn 162 280 ls st σ Q = acR 162 (o_pi (nI 2) 281 ls st σ) ls σ Q := rn_row rfl ls st σ Q
theorem r_162_281 (ls : a_LS) (st : List Value) (σ : a_HP) (Q : Option Value → a_HP → Prop) : Rn 162 281 ls st σ Q = acR 162 (o_cne 301 284 ls st σ) ls σ Q := rn_row rfl ls st σ Q
theorem r_162_284 (ls : a_LS) (st : List Value) (σ : a_HP) (Q : Option Value → a_HP → Prop) : Rn 162 284 ls st σ Q = acR 162 (o_lda 0 285 ls st σ) ls σ Q := rn_row rfl ls st σ Q
theorem r_162_285 (ls : a_LS) (st : List Value) (σ : a_HP) (Q : Option Value → a_HP → Prop) : Rn 162 285 ls st σ Q = acR 162 (o_get 8 10 288 ls st σ) ls σ Q := rn_row rfl ls st σ Q
theorem r_162_288 (ls : a_LS) (st : List Value) (σ : a_HP) (Q : Option Value → a_HP → Prop) : Rn 162 288 ls st σ Q = acR 162 (o_lda 0 289 ls st σ) ls σ Q := rn_row rfl ls st σ Q
theorem r_162_289 (ls : a_LS) (st : List Value) (σ : a_HP) (Q : Option Value → a_HP → Prop) : Rn 162 289 ls st σ Q = acR 162 (o_get 8 11 292 ls st σ) ls σ Q := rn_row rfl ls st σ Q
theorem r_162_292 (ls : a_LS) (st : List Value) (σ : a_HP) (Q : Option Value → a_HP → Prop) : Rn 162 292 ls st σ Q = acR 162 (o_bi f_sub 293 ls st σ) ls σ Q := rn_row rfl ls st σ Q
theorem r_162_293 (ls : a_LS) (st : List Value) (σ : a_HP) (Q : Option Value → a_HP → Prop) : Rn 162 293 ls st σ Q = acR 162 (o_pi (nI 2) 294 ls st σ) ls σ Q := rn_row rfl ls st σ Q
theorem r_162_294 (ls : a_LS) (st : List Value) (σ : a_HP) (Q : Option Value → a_HP → Prop) : Rn 162 294 ls st σ Q = acR 162 (o_cle 301 297 ls st σ) ls σ Q := rn_row rfl ls st σ Q
theorem r_162_297 (ls : a_LS) (st : List Value) (σ : a_HP) (Q : Option Value → a_HP → Prop) : Rn 162 297 ls st σ Q = acR 162 (o_pi (nI 4) 298 ls st σ) ls σ Q := rn_row rfl ls st σ Q
theorem r_162_298 (ls : a_LS) (st : List Value) (σ : a_HP) (Q : Option Value → a_HP → Prop) : Rn 162 298 ls st σ Q = acR 162 (o_go 305 ls st σ) ls σ Q := rn_row rfl ls st σ Q
theorem r_162_301 (ls : a_LS) (st : List Value) (σ : a_HP) (Q : Option Value → a_HP → Prop) : Rn 162 301 ls st σ Q = acR 162 (o_lda 0 302 ls st σ) ls σ Q := rn_row rfl ls st σ Q
theorem r_162_302 (ls : a_LS) (st : List Value) (σ : a_HP) (Q : Option Value → a_HP → Prop) : Rn 162 302 ls st σ Q = acR 162 (o_get 8 12 305 ls st σ) ls σ Q := rn_row rfl ls st σ Q
theorem r_162_305 (ls : a_LS) (st : List Value) (σ : a_HP) (Q : Option Value → a_HP → Prop) : Rn 162 305 ls st σ Q = acR 162 (o_put 8 12 308 ls st σ) ls σ Q := rn_row rfl ls st σ Q
theorem r_162_308 (ls : a_LS) (st : List Value) (σ : a_HP) (Q : Option Value → a_HP → Prop) : Rn 162 308 ls st σ Q = acR 162 (o_rv ls st σ) ls σ Q := rn_row rfl ls st σ Q
