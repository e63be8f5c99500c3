/-! a row an instruction: what a run from there is. By program. -/
/-! 163: NetLawModel.takes(I)Z -/
theorem cl_163 (x0 : Nat) (x1 : Int32) (σ : a_HP) (Q : Option Value → a_HP → Prop) : Cl 163 [.ref x0, .int x1] σ Q = Rn 163 0 [some (.ref x0), some (.int x1), none] [] σ Q := cl_of (Nat.le_of_ble_eq_true rfl) rfl σ Q
theorem r_163_0 (ls : a_LS) (st : List Value) (σ : a_HP) (Q : Option Value → a_HP → Prop) : Rn 163 0 ls st σ Q = acR 163 (o_pi (nI 0) 1 ls st σ) ls σ Q := rn_row rfl ls st σ Q
theorem r_163_1 (ls : a_LS) (st : List Value) (σ : a_HP) (Q : Option Value → a_HP → Prop) : Rn 163 1 ls st σ Q = acR 163 (o_sti 2 2 ls st σ) ls σ Q := rn_row rfl ls st σ Q
theorem r_163_2 (ls : a_LS) (st : List Value) (σ : a_HP) (Q : Option Value → a_HP → Prop) : Rn 163 2 ls st σ Q = acR 163 (o_ldi 2 3 ls st σ) ls σ Q := rn_row rfl ls st σ Q
theorem r_163_3 (ls : a_LS) (st : List Value) (σ : a_HP) (Q : Option Value → a_HP → Prop) : Rn 163 3 ls st σ Q = acR 163 (o_ldi 1 4 ls st σ) ls σ Q := rn_row rfl ls st σ Q
theorem r_163_4 (ls : a_LS) (st : List Value) (σ : a_HP) (Q : Option Value → a_HP → Prop) : Rn 163 4 ls st σ Q = acR 163 (o_cge 37 7 ls st σ) ls σ Q := rn_row rfl ls st σ Q
theorem r_163_7 (ls : a_LS) (st : List Value) (σ : a_HP) (Q : Option Value → a_HP → Prop) : Rn 163 7 ls st σ Q = acR 163 (o_lda 0 8 ls st σ) ls σ Q := rn_row rfl ls st σ Q
theorem r_163_8 (ls : a_LS) (st : List Value) (σ : a_HP) (Q : Option Value → a_HP → Prop) : Rn 163 8 ls st σ Q = acR 163 (o_ivv 8 162 0 11 ls st σ) ls σ Q := rn_row rfl ls st σ Q
theorem r_163_11 (ls : a_LS) (st : List Value) (σ : a_HP) (Q : Option Value → a_HP → Prop) : Rn 163 11 ls st σ Q = acR 163 (o_lda 0 12 ls st σ) ls σ Q := rn_row rfl ls st σ Q
theorem r_163_12 (ls : a_LS) (st : List Value) (σ : a_HP) (Q : Option Value → a_HP → Prop) : Rn 163 12 ls st σ Q = acR 163 (o_get 8 12 15 ls st σ) ls σ Q := rn_row rfl ls st σ Q
theorem r_163_15 (ls : a_LS) (st : List Value) (σ : a_HP) (Q : Option Value → a_HP → Prop) : Rn 163 15 ls st σ Q = acR 163 (o_pi (nI 2) 16 ls st σ) ls σ Q := rn_row rfl ls st σ Q
theorem r_163_16 (ls : a_LS) (st : List Value) (σ : a_HP) (Q : Option Value → a_HP → Prop) : Rn 163 16 ls st σ Q = acR 163 (o_ceq 21 19 ls st σ) ls σ Q := rn_row rfl ls st σ Q
theorem r_163_19 (ls : a_LS) (st : List Value) (σ : a_HP) (Q : Option Value → a_HP → Prop) : Rn 163 19 ls st σ Q = acR 163 (o_pi (nI 0) 20 ls st σ) ls σ Q := rn_row rfl ls st σ Q
theorem r_163_20 (ls : a_LS) (st : List Value) (σ : a_HP) (Q : Option Value → a_HP → Prop) : Rn 163 20 ls st σ Q = acR 163 (o_rz ls st σ) ls σ Q := rn_row rfl ls st σ Q
theorem r_163_21 (ls : a_LS) (st : List Value) (σ : a_HP) (Q : Option Value → a_HP → Prop) : Rn 163 21 ls st σ Q = acR 163 (o_lda 0 22 ls st σ) ls σ Q := rn_row rfl ls st σ Q
theorem r_163_22 (ls : a_LS) (st : List Value) (σ : a_HP) (Q : Option Value → a_HP → Prop) : Rn 163 22 ls st σ Q = acR 163 (o_get 8 15 25 ls st σ) ls σ Q := rn_row rfl ls st σ Q
theorem r_163_25 (ls : a_LS) (st : List Value) (σ : a_HP) (Q : Option Value → a_HP → Prop) : Rn 163 25 ls st σ Q = acR 163 (o_ldi 2 26 ls st σ) ls σ Q := rn_row rfl ls st σ Q
theorem r_163_26 (ls : a_LS) (st : List Value) (σ : a_HP) (Q : Option Value → a_HP → Prop) : Rn 163 26 ls st σ Q = acR 163 (o_lda 0 27 ls st σ) ls σ Q := rn_row rfl ls st σ Q
theorem r_163_27 (ls : a_LS) (st : List Value) (σ : a_HP) (Q : Option Value → a_HP → Prop) : Rn 163 27 ls st σ Q = acR 163 (o_get 8 14 30 ls st σ) ls σ Q := rn_row rfl ls st σ Q
theorem r_163_30 (ls : a_LS) (st : List Value) (σ : a_HP) (Q : Option Value → a_HP → Prop) : Rn 163 30 ls st σ Q = acR 163 (o_ias 31 ls st σ) ls σ Q := rn_row rfl ls st σ Q
theorem r_163_31 (ls : a_LS) (st : List Value) (σ : a_HP) (Q : Option Value → a_HP → Prop) : Rn 163 31 ls st σ Q = acR 163 (o_inc 2 (nI 1) 34 ls st σ) ls σ Q := rn_row rfl ls st σ Q
theorem r_163_34 (ls : a_LS) (st : List Value) (σ : a_HP) (Q : Option Value → a_HP → Prop) : Rn 163 34 ls st σ Q = acR 163 (o_go 2 ls st σ) ls σ Q := rn_row rfl ls st σ Q
theorem r_163_37 (ls : a_LS) (st : List Value) (σ : a_HP) (Q : Option Value → a_HP → Prop) : Rn 163 37 ls st σ Q = acR 163 (o_lda 0 38 ls st σ) ls σ Q := rn_row rfl ls st σ Q
theorem r_163_38 (ls : a_LS) (st : List Value) (σ : a_HP) (Q : Option Value → a_HP → Prop) : Rn 163 38 ls st σ Q = acR 163 (o_ivv 8 162 0 41 ls st σ) ls σ Q := rn_row rfl ls st σ Q
theorem r_163_41 (ls : a_LS) (st : List Value) (σ : a_HP) (Q : Option Value → a_HP → Prop) : Rn 163 41 ls st σ Q = acR 163 (o_lda 0 42 ls st σ) ls σ Q := rn_row rfl ls st σ Q
theorem r_163_42 (ls : a_LS) (st : List Value) (σ : a_HP) (Q : Option Value → a_HP → Prop) : Rn 163 42 ls st σ Q = acR 163 (o_get 8 12 45 ls st σ) ls σ Q := rn_row rfl ls st σ Q
theorem r_163_45 (ls : a_LS) (st : List Value) (σ : a_HP) (Q : Option Value → a_HP → Prop) : Rn 163 45 ls st σ Q = acR 163 (o_pi (nI 3) 46 ls st σ) ls σ Q := rn_row rfl ls st σ Q
theorem r_163_46 (ls : a_LS) (st : List Value) (σ : a_HP) (Q : Option Value → a_HP → Prop) : Rn 163 46 ls st σ Q = acR 163 (o_cne 53 49 ls st σ) ls σ Q := rn_row rfl ls st σ Q
theorem r_163_49 (ls : a_LS) (st : List Value) (σ : a_HP) (Q : Option Value → a_HP → Prop) : Rn 163 49 ls st σ Q = acR 163 (o_pi (nI 1) 50 ls st σ) ls σ Q := rn_row rfl ls st σ Q
theorem r_163_50 (ls : a_LS) (st : List Value) (σ : a_HP) (Q : Option Value → a_HP → Prop) : Rn 163 50 ls st σ Q = acR 163 (o_go 54 ls st σ) ls σ Q := rn_row rfl ls st σ Q
theorem r_163_53 (ls : a_LS) (st : List Value) (σ : a_HP) (Q : Option Value → a_HP → Prop) : Rn 163 53 ls st σ Q = acR 163 (o_pi (nI 0) 54 ls st σ) ls σ Q := rn_row rfl ls st σ Q
theorem r_163_54 (ls : a_LS) (st : List Value) (σ : a_HP) (Q : Option Value → a_HP → Prop) : Rn 163 54 ls st σ Q = acR 163 (o_rz ls st σ) ls σ Q := rn_row rfl ls st σ Q
/-! 164: NetLawModel.refuses(ZI)V -/
theorem cl_164 (x0 : Nat) (x1 : Int32) (x2 : Int32) (σ : a_HP) (Q : Option Value → a_HP → Prop) : Cl 164 [.ref x0, .int x1, .int x2] σ Q = Rn 164 0 [some (.ref x0), some (.int x1), some (.int x2)] [] σ Q := cl_of (Nat.le_of_ble_eq_true rfl) rfl σ Q
theorem r_164_0 (ls : a_LS) (st : List Value) (σ : a_HP) (Q : Option Value → a_HP → Prop) : Rn 164 0 ls st σ Q = acR 164 (o_lda 0 1 ls st σ) ls σ Q := rn_row rfl ls st σ Q
theorem r_164_1 (ls : a_LS) (st : List Value) (σ : a_HP) (Q : Option Value → a_HP → Prop) : Rn 164 1 ls st σ Q = acR 164 (o_ldi 1 2 ls st σ) ls σ Q := rn_row rfl ls st σ Q
theorem r_164_2 (ls : a_LS) (st : List Value) (σ : a_HP) (Q : Option Value → a_HP → Prop) : Rn 164 2 ls st σ Q = acR 164 (o_ne 17 5 ls st σ) ls σ Q := rn_row rfl ls st σ Q
theorem r_164_5 (ls : a_LS) (st : List Value) (σ : a_HP) (Q : Option Value → a_HP → Prop) : Rn 164 5 ls st σ Q = acR 164 (o_lda 0 6 ls st σ) ls σ Q := rn_row rfl ls st σ Q
theorem r_164_6 (ls : a_LS) (st : List Value) (σ : a_HP) (Q : Option Value → a_HP → Prop) : Rn 164 6 ls st σ Q = acR 164 (o_get 8 16 9 ls st σ) ls σ Q := rn_row rfl ls st σ Q
theorem r_164_9 (ls : a_LS) (st : List Value) (σ : a_HP) (Q : Option Value → a_HP → Prop) : Rn 164 9 ls st σ Q = acR 164 (o_pi (-1) 10 ls st σ) ls σ Q := rn_row rfl ls st σ Q
theorem r_164_10 (ls : a_LS) (st : List Value) (σ : a_HP) (Q : Option Value → a_HP → Prop) : Rn 164 10 ls st σ Q = acR 164 (o_cne 17 13 ls st σ) ls σ Q := rn_row rfl ls st σ Q
theorem r_164_13 (ls : a_LS) (st : List Value) (σ : a_HP) (Q : Option Value → a_HP → Prop) : Rn 164 13 ls st σ Q = acR 164 (o_ldi 2 14 ls st σ) ls σ Q := rn_row rfl ls st σ Q
theorem r_164_14 (ls : a_LS) (st : List Value) (σ : a_HP) (Q : Option Value → a_HP → Prop) : Rn 164 14 ls st σ Q = acR 164 (o_go 21 ls st σ) ls σ Q := rn_row rfl ls st σ Q
theorem r_164_17 (ls : a_LS) (st : List Value) (σ : a_HP) (Q : Option Value → a_HP → Prop) : Rn 164 17 ls st σ Q = acR 164 (o_lda 0 18 ls st σ) ls σ Q := rn_row rfl ls st σ Q
theorem r_164_18 (ls : a_LS) (st : List Value) (σ : a_HP) (Q : Option Value → a_HP → Prop) : Rn 164 18 ls st σ Q = acR 164 (o_get 8 16 21 ls st σ) ls σ Q := rn_row rfl ls st σ Q
theorem r_164_21 (ls : a_LS) (st : List Value) (σ : a_HP) (Q : Option Value → a_HP → Prop) : Rn 164 21 ls st σ Q = acR 164 (o_put 8 16 24 ls st σ) ls σ Q := rn_row rfl ls st σ Q
theorem r_164_24 (ls : a_LS) (st : List Value) (σ : a_HP) (Q : Option Value → a_HP → Prop) : Rn 164 24 ls st σ Q = acR 164 (o_rv ls st σ) ls σ Q := rn_row rfl ls st σ Q
/-! 165: NetLawModel.readsItem(I)Z -/
theorem cl_165 (x0 : Nat) (x1 : Int32) (σ : a_HP) (Q : Option Value → a_HP → Prop) : Cl 165 [.ref x0, .int x1] σ Q = Rn 165 0 [some (.ref x0), some (.int x1), none, none, none] [] σ Q := cl_of (Nat.le_of_ble_eq_true rfl) rfl σ Q
theorem r_165_0 (ls : a_LS) (st : List Value) (σ : a_HP) (Q : Option Value → a_HP → Prop) : Rn 165 0 ls st σ Q = acR 165 (o_lda 0 1 ls st σ) ls σ Q := rn_row rfl ls st σ Q
theorem r_165_1 (ls : a_LS) (st : List Value) (σ : a_HP) (Q : Option Value → a_HP → Prop) : Rn 165 1 ls st σ Q = acR 165 (o_get 8 12 4 ls st σ) ls σ Q := rn_row rfl ls st σ Q
theorem r_165_4 (ls : a_LS) (st : List Value) (σ : a_HP) (Q : Option Value → a_HP → Prop) : Rn 165 4 ls st σ Q = acR 165 (o_pi (nI 1) 5 ls st σ) ls σ Q := rn_row rfl ls st σ Q
theorem r_165_5 (ls : a_LS) (st : List Value) (σ : a_HP) (Q : Option Value → a_HP → Prop) : Rn 165 5 ls st σ Q = acR 165 (o_ceq 10 8 ls st σ) ls σ Q := rn_row rfl ls st σ Q
theorem r_165_8 (ls : a_LS) (st : List Value) (σ : a_HP) (Q : Option Value → a_HP → Prop) : Rn 165 8 ls st σ Q = acR 165 (o_pi (nI 0) 9 ls st σ) ls σ Q := rn_row rfl ls st σ Q
theorem r_165_9 (ls : a_LS) (st : List Value) (σ : a_HP) (Q : Option Value → a_HP → Prop) : Rn 165 9 ls st σ Q = acR 165 (o_rz ls st σ) ls σ Q := rn_row rfl ls st σ Q
theorem r_165_10 (ls : a_LS) (st : List Value) (σ : a_HP) (Q : Option Value → a_HP → Prop) : Rn 165 10 ls st σ Q = acR 165 (o_lda 0 11 ls st σ) ls σ Q := rn_row rfl ls st σ Q
theorem r_165_11 (ls : a_LS) (st : List Value) (σ : a_HP) (Q : Option Value → a_HP → Prop) : Rn 165 11 ls st σ Q = acR 165 (o_get 8 13 14 ls st σ) ls σ Q := rn_row rfl ls st σ Q
theorem r_165_14 (ls : a_LS) (st : List Value) (σ : a_HP) (Q : Option Value → a_HP → Prop) : Rn 165 14 ls st σ Q = acR 165 (o_stl 2 15 ls st σ) ls σ Q := rn_row rfl ls st σ Q
theorem r_165_15 (ls : a_LS) (st : List Value) (σ : a_HP) (Q : Option Value → a_HP → Prop) : Rn 165 15 ls st σ Q = acR 165 (o_ldl 2 16 ls st σ) ls σ Q := rn_row rfl ls st σ Q
theorem r_165_16 (ls : a_LS) (st : List Value) (σ : a_HP) (Q : Option Value → a_HP → Prop) : Rn 165 16 ls st σ Q = acR 165 (o_pl (lN 7234932) 19 ls st σ) ls σ Q := rn_row rfl ls st σ Q
theorem r_165_19 (ls : a_LS) (st : List Value) (σ : a_HP) (Q : Option Value → a_HP → Prop) : Rn 165 19 ls st σ Q = acR 165 (o_lcmp 20 ls st σ) ls σ Q := rn_row rfl ls st σ Q
theorem r_165_20 (ls : a_LS) (st : List Value) (σ : a_HP) (Q : Option Value → a_HP → Prop) : Rn 165 20 ls st σ Q = acR 165 (o_ne 77 23 ls st σ) ls σ Q := rn_row rfl ls st σ Q
theorem r_165_23 (ls : a_LS) (st : List Value) (σ : a_HP) (Q : Option Value → a_HP → Prop) : Rn 165 23 ls st σ Q = acR 165 (o_ldi 1 24 ls st σ) ls σ Q := rn_row rfl ls st σ Q
theorem r_165_24 (ls : a_LS) (st : List Value) (σ : a_HP) (Q : Option Value → a_HP → Prop) : Rn 165 24 ls st σ Q = acR 165 (o_gt 35 27 ls st σ) ls σ Q := rn_row rfl ls st σ Q
theorem r_165_27 (ls : a_LS) (st : List Value) (σ : a_HP) (Q : Option Value → a_HP → Prop) : Rn 165 27 ls st σ Q = acR 165 (o_lda 0 28 ls st σ) ls σ Q := rn_row rfl ls st σ Q
theorem r_165_28 (ls : a_LS) (st : List Value) (σ : a_HP) (Q : Option Value → a_HP → Prop) : Rn 165 28 ls st σ Q = acR 165 (o_pi (nI 2) 29 ls st σ) ls σ Q := rn_row rfl ls st σ Q
theorem r_165_29 (ls : a_LS) (st : List Value) (σ : a_HP) (Q : Option Value → a_HP → Prop) : Rn 165 29 ls st σ Q = acR 165 (o_ivv 8 163 1 32 ls st σ) ls σ Q := rn_row rfl ls st σ Q
theorem r_165_32 (ls : a_LS) (st : List Value) (σ : a_HP) (Q : Option Value → a_HP → Prop) : Rn 165 32 ls st σ Q = acR 165 (o_ne 37 35 ls st σ) ls σ Q := rn_row rfl ls st σ Q
theorem r_165_35 (ls : a_LS) (st : List Value) (σ : a_HP) (Q : Option Value → a_HP → Prop) : Rn 165 35 ls st σ Q = acR 165 (o_pi (nI 0) 36 ls st σ) ls σ Q := rn_row rfl ls st σ Q
theorem r_165_36 (ls : a_LS) (st : List Value) (σ : a_HP) (Q : Option Value → a_HP → Prop) : Rn 165 36 ls st σ Q = acR 165 (o_rz ls st σ) ls σ Q := rn_row rfl ls st σ Q
theorem r_165_37 (ls : a_LS) (st : List Value) (σ : a_HP) (Q : Option Value → a_HP → Prop) : Rn 165 37 ls st σ Q = acR 165 (o_lda 0 38 ls st σ) ls σ Q := rn_row rfl ls st σ Q
theorem r_165_38 (ls : a_LS) (st : List Value) (σ : a_HP) (Q : Option Value → a_HP → Prop) : Rn 165 38 ls st σ Q = acR 165 (o_lda 0 39 ls st σ) ls σ Q := rn_row rfl ls st σ Q
theorem r_165_39 (ls : a_LS) (st : List Value) (σ : a_HP) (Q : Option Value → a_HP → Prop) : Rn 165 39 ls st σ Q = acR 165 (o_get 8 15 42 ls st σ) ls σ Q := rn_row rfl ls st σ Q
theorem r_165_42 (ls : a_LS) (st : List Value) (σ : a_HP) (Q : Option Value → a_HP → Prop) : Rn 165 42 ls st σ Q = acR 165 (o_pi (nI 0) 43 ls st σ) ls σ Q := rn_row rfl ls st σ Q
theorem r_165_43 (ls : a_LS) (st : List Value) (σ : a_HP) (Q : Option Value → a_HP → Prop) : Rn 165 43 ls st σ Q = acR 165 (o_ial 44 ls st σ) ls σ Q := rn_row rfl ls st σ Q
theorem r_165_44 (ls : a_LS) (st : List Value) (σ : a_HP) (Q : Option Value → a_HP → Prop) : Rn 165 44 ls st σ Q = acR 165 (o_ivs 143 1 47 ls st σ) ls σ Q := rn_row rfl ls st σ Q
theorem r_165_47 (ls : a_LS) (st : List Value) (σ : a_HP) (Q : Option Value → a_HP → Prop) : Rn 165 47 ls st σ Q = acR 165 (o_ldi 1 48 ls st σ) ls σ Q := rn_row rfl ls st σ Q
theorem r_165_48 (ls : a_LS) (st : List Value) (σ : a_HP) (Q : Option Value → a_HP → Prop) : Rn 165 48 ls st σ Q = acR 165 (o_ivv 8 164 2 51 ls st σ) ls σ Q := rn_row rfl ls st σ Q
theorem r_165_51 (ls : a_LS) (st : List Value) (σ : a_HP) (Q : Option Value → a_HP → Prop) : Rn 165 51 ls st σ Q = acR 165 (o_lda 0 52 ls st σ) ls σ Q := rn_row rfl ls st σ Q
theorem r_165_52 (ls : a_LS) (st : List Value) (σ : a_HP) (Q : Option Value → a_HP → Prop) : Rn 165 52 ls st σ Q = acR 165 (o_get 8 1 55 ls st σ) ls σ Q := rn_row rfl ls st σ Q
theorem r_165_55 (ls : a_LS) (st : List Value) (σ : a_HP) (Q : Option Value → a_HP → Prop) : Rn 165 55 ls st σ Q = acR 165 (o_pi (nI 0) 56 ls st σ) ls σ Q := rn_row rfl ls st σ Q
theorem r_165_56 (ls : a_LS) (st : List Value) (σ : a_HP) (Q : Option Value → a_HP → Prop) : Rn 165 56 ls st σ Q = acR 165 (o_lda 0 57 ls st σ) ls σ Q := rn_row rfl ls st σ Q
theorem r_165_57 (ls : a_LS) (st : List Value) (σ : a_HP) (Q : Option Value → a_HP → Prop) : Rn 165 57 ls st σ Q = acR 165 (o_get 8 15 60 ls st σ) ls σ Q := rn_row rfl ls st σ Q
theorem r_165_60 (ls : a_LS) (st : List Value) (σ : a_HP) (Q : Option Value → a_HP → Prop) : Rn 165 60 ls st σ Q = acR 165 (o_pi (nI 0) 61 ls st σ) ls σ Q := rn_row rfl ls st σ Q
theorem r_165_61 (ls : a_LS) (st : List Value) (σ : a_HP) (Q : Option Value → a_HP → Prop) : Rn 165 61 ls st σ Q = acR 165 (o_ial 62 ls st σ) ls σ Q := rn_row rfl ls st σ Q
theorem r_165_62 (ls : a_LS) (st : List Value) (σ : a_HP) (Q : Option Value → a_HP → Prop) : Rn 165 62 ls st σ Q = acR 165 (o_ias 63 ls st σ) ls σ Q := rn_row rfl ls st σ Q
theorem r_165_63 (ls : a_LS) (st : List Value) (σ : a_HP) (Q : Option Value → a_HP → Prop) : Rn 165 63 ls st σ Q = acR 165 (o_lda 0 64 ls st σ) ls σ Q := rn_row rfl ls st σ Q
theorem r_165_64 (ls : a_LS) (st : List Value) (σ : a_HP) (Q : Option Value → a_HP → Prop) : Rn 165 64 ls st σ Q = acR 165 (o_get 8 1 67 ls st σ) ls σ Q := rn_row rfl ls st σ Q
theorem r_165_67 (ls : a_LS) (st : List Value) (σ : a_HP) (Q : Option Value → a_HP → Prop) : Rn 165 67 ls st σ Q = acR 165 (o_pi (nI 1) 68 ls st σ) ls σ Q := rn_row rfl ls st σ Q
theorem r_165_68 (ls : a_LS) (st : List Value) (σ : a_HP) (Q : Option Value → a_HP → Prop) : Rn 165 68 ls st σ Q = acR 165 (o_lda 0 69 ls st σ) ls σ Q := rn_row rfl ls st σ Q
theorem r_165_69 (ls : a_LS) (st : List Value) (σ : a_HP) (Q : Option Value → a_HP → Prop) : Rn 165 69 ls st σ Q = acR 165 (o_get 8 15 72 ls st σ) ls σ Q := rn_row rfl ls st σ Q
theorem r_165_72 (ls : a_LS) (st : List Value) (σ : a_HP) (Q : Option Value → a_HP → Prop) : Rn 165 72 ls st σ Q = acR 165 (o_pi (nI 1) 73 ls st σ) ls σ Q := rn_row rfl ls st σ Q
theorem r_165_73 (ls : a_LS) (st : List Value) (σ : a_HP) (Q : Option Value → a_HP → Prop) : Rn 165 73 ls st σ Q = acR 165 (o_ial 74 ls st σ) ls σ Q := rn_row rfl ls st σ Q
theorem r_165_74 (ls : a_LS) (st : List Value) (σ : a_HP) (Q : Option Value → a_HP → Prop) : Rn 165 74 ls st σ Q = acR 165 (o_ias 75 ls st σ) ls σ Q := rn_row rfl ls st σ Q
theorem r_165_75 (ls : a_LS) (st : List Value) (σ : a_HP) (Q : Option Value → a_HP → Prop) : Rn 165 75 ls st σ Q = acR 165 (o_pi (nI 1) 76 ls st σ) ls σ Q := rn_row rfl ls st σ Q
theorem r_165_76 (ls : a_LS) (st : List Value) (σ : a_HP) (Q : Option Value → a_HP → Prop) : Rn 165 76 ls st σ Q = acR 165 (o_rz ls st σ) ls σ Q := rn_row rfl ls st σ Q
theorem r_165_77 (ls : a_LS) (st : List Value) (σ : a_HP) (Q : Option Value → a_HP → Prop) : Rn 165 77 ls st σ Q = acR 165 (o_ldi 1 78 ls st σ) ls σ Q := rn_row rfl ls st σ Q
theorem r_165_78 (ls : a_LS) (st : List Value) (σ : a_HP) (Q : Option Value → a_HP → Prop) : Rn 165 78 ls st σ Q = acR 165 (o_ne 83 81 ls st σ) ls σ Q := rn_row rfl ls st σ Q
theorem r_165_81 (ls : a_LS) (st : List Value) (σ : a_HP) (Q : Option Value → a_HP → Prop) : Rn 165 81 ls st σ Q = acR 165 (o_pi (nI 0) 82 ls st σ) ls σ Q := rn_row rfl ls st σ Q
theorem r_165_82 (ls : a_LS) (st : List Value) (σ : a_HP) (Q : Option Value → a_HP → Prop) : Rn 165 82 ls st σ Q = acR 165 (o_rz ls st σ) ls σ Q := rn_row rfl ls st σ Q
theorem r_165_83 (ls : a_LS) (st : List Value) (σ : a_HP) (Q : Option Value → a_HP → Prop) : Rn 165 83 ls st σ Q = acR 165 (o_ldl 2 84 ls st σ) ls σ Q := rn_row rfl ls st σ Q
theorem r_165_84 (ls : a_LS) (st : List Value) (σ : a_HP) (Q : Option Value → a_HP → Prop) : Rn 165 84 ls st σ Q = acR 165 (o_pl (lN 1802399604) 87 ls st σ) ls σ Q := rn_row rfl ls st σ Q
theorem r_165_87 (ls : a_LS) (st : List Value) (σ : a_HP) (Q : Option Value → a_HP → Prop) : Rn 165 87 ls st σ Q = acR 165 (o_lcmp 88 ls st σ) ls σ Q := rn_row rfl ls st σ Q
theorem r_165_88 (ls : a_LS) (st : List Value) (σ : a_HP) (Q : Option Value → a_HP → Prop) : Rn 165 88 ls st σ Q = acR 165 (o_ne 175 91 ls st σ) ls σ Q := rn_row rfl ls st σ Q
theorem r_165_91 (ls : a_LS) (st : List Value) (σ : a_HP) (Q : Option Value → a_HP → Prop) : Rn 165 91 ls st σ Q = acR 165 (o_lda 0 92 ls st σ) ls σ Q := rn_row rfl ls st σ Q
theorem r_165_92 (ls : a_LS) (st : List Value) (σ : a_HP) (Q : Option Value → a_HP → Prop) : Rn 165 92 ls st σ Q = acR 165 (o_pi (nI 4) 93 ls st σ) ls σ Q := rn_row rfl ls st σ Q
theorem r_165_93 (ls : a_LS) (st : List Value) (σ : a_HP) (Q : Option Value → a_HP → Prop) : Rn 165 93 ls st σ Q = acR 165 (o_ivv 8 163 1 96 ls st σ) ls σ Q := rn_row rfl ls st σ Q
theorem r_165_96 (ls : a_LS) (st : List Value) (σ : a_HP) (Q : Option Value → a_HP → Prop) : Rn 165 96 ls st σ Q = acR 165 (o_ne 101 99 ls st σ) ls σ Q := rn_row rfl ls st σ Q
theorem r_165_99 (ls : a_LS) (st : List Value) (σ : a_HP) (Q : Option Value → a_HP → Prop) : Rn 165 99 ls st σ Q = acR 165 (o_pi (nI 0) 100 ls st σ) ls σ Q := rn_row rfl ls st σ Q
theorem r_165_100 (ls : a_LS) (st : List Value) (σ : a_HP) (Q : Option Value → a_HP → Prop) : Rn 165 100 ls st σ Q = acR 165 (o_rz ls st σ) ls σ Q := rn_row rfl ls st σ Q
theorem r_165_101 (ls : a_LS) (st : List Value) (σ : a_HP) (Q : Option Value → a_HP → Prop) : Rn 165 101 ls st σ Q = acR 165 (o_lda 0 102 ls st σ) ls σ Q := rn_row rfl ls st σ Q
theorem r_165_102 (ls : a_LS) (st : List Value) (σ : a_HP) (Q : Option Value → a_HP → Prop) : Rn 165 102 ls st σ Q = acR 165 (o_get 8 15 105 ls st σ) ls σ Q := rn_row rfl ls st σ Q
theorem r_165_105 (ls : a_LS) (st : List Value) (σ : a_HP) (Q : Option Value → a_HP → Prop) : Rn 165 105 ls st σ Q = acR 165 (o_pi (nI 0) 106 ls st σ) ls σ Q := rn_row rfl ls st σ Q
theorem r_165_106 (ls : a_LS) (st : List Value) (σ : a_HP) (Q : Option Value → a_HP → Prop) : Rn 165 106 ls st σ Q = acR 165 (o_ial 107 ls st σ) ls σ Q := rn_row rfl ls st σ Q
theorem r_165_107 (ls : a_LS) (st : List Value) (σ : a_HP) (Q : Option Value → a_HP → Prop) : Rn 165 107 ls st σ Q = acR 165 (o_lda 0 108 ls st σ) ls σ Q := rn_row rfl ls st σ Q
theorem r_165_108 (ls : a_LS) (st : List Value) (σ : a_HP) (Q : Option Value → a_HP → Prop) : Rn 165 108 ls st σ Q = acR 165 (o_get 8 15 111 ls st σ) ls σ Q := rn_row rfl ls st σ Q
theorem r_165_111 (ls : a_LS) (st : List Value) (σ : a_HP) (Q : Option Value → a_HP → Prop) : Rn 165 111 ls st σ Q = acR 165 (o_pi (nI 1) 112 ls st σ) ls σ Q := rn_row rfl ls st σ Q
theorem r_165_112 (ls : a_LS) (st : List Value) (σ : a_HP) (Q : Option Value → a_HP → Prop) : Rn 165 112 ls st σ Q = acR 165 (o_ial 113 ls st σ) ls σ Q := rn_row rfl ls st σ Q
theorem r_165_113 (ls : a_LS) (st : List Value) (σ : a_HP) (Q : Option Value → a_HP → Prop) : Rn 165 113 ls st σ Q = acR 165 (o_lda 0 114 ls st σ) ls σ Q := rn_row rfl ls st σ Q
theorem r_165_114 (ls : a_LS) (st : List Value) (σ : a_HP) (Q : Option Value → a_HP → Prop) : Rn 165 114 ls st σ Q = acR 165 (o_get 8 15 117 ls st σ) ls σ Q := rn_row rfl ls st σ Q
theorem r_165_117 (ls : a_LS) (st : List Value) (σ : a_HP) (Q : Option Value → a_HP → Prop) : Rn 165 117 ls st σ Q = acR 165 (o_pi (nI 2) 118 ls st σ) ls σ Q := rn_row rfl ls st σ Q
theorem r_165_118 (ls : a_LS) (st : List Value) (σ : a_HP) (Q : Option Value → a_HP → Prop) : Rn 165 118 ls st σ Q = acR 165 (o_ial 119 ls st σ) ls σ Q := rn_row rfl ls st σ Q
theorem r_165_119 (ls : a_LS) (st : List Value) (σ : a_HP) (Q : Option Value → a_HP → Prop) : Rn 165 119 ls st σ Q = acR 165 (o_lda 0 120 ls st σ) ls σ Q := rn_row rfl ls st σ Q
theorem r_165_120 (ls : a_LS) (st : List Value) (σ : a_HP) (Q : Option Value → a_HP → Prop) : Rn 165 120 ls st σ Q = acR 165 (o_get 8 15 123 ls st σ) ls σ Q := rn_row rfl ls st σ Q
theorem r_165_123 (ls : a_LS) (st : List Value) (σ : a_HP) (Q : Option Value → a_HP → Prop) : Rn 165 123 ls st σ Q = acR 165 (o_pi (nI 3) 124 ls st σ) ls σ Q := rn_row rfl ls st σ Q
theorem r_165_124 (ls : a_LS) (st : List Value) (σ : a_HP) (Q : Option Value → a_HP → Prop) : Rn 165 124 ls st σ Q = acR 165 (o_ial 125 ls st σ) ls σ Q := rn_row rfl ls st σ Q
theorem r_165_125 (ls : a_LS) (st : List Value) (σ : a_HP) (Q : Option Value → a_HP → Prop) : Rn 165 125 ls st σ Q = acR 165 (o_ivs 151 4 128 ls st σ) ls σ Q := rn_row rfl ls st σ Q
theorem r_165_128 (ls : a_LS) (st : List Value) (σ : a_HP) (Q : Option Value → a_HP → Prop) : Rn 165 128 ls st σ Q = acR 165 (o_sti 4 130 ls st σ) ls σ Q := rn_row rfl ls st σ Q
theorem r_165_130 (ls : a_LS) (st : List Value) (σ : a_HP) (Q : Option Value → a_HP → Prop) : Rn 165 130 ls st σ Q = acR 165 (o_lda 0 131 ls st σ) ls σ Q := rn_row rfl ls st σ Q
theorem r_165_131 (ls : a_LS) (st : List Value) (σ : a_HP) (Q : Option Value → a_HP → Prop) : Rn 165 131 ls st σ Q = acR 165 (o_ldi 4 133 ls st σ) ls σ Q := rn_row rfl ls st σ Q
theorem r_165_133 (ls : a_LS) (st : List Value) (σ : a_HP) (Q : Option Value → a_HP → Prop) : Rn 165 133 ls st σ Q = acR 165 (o_ldi 1 134 ls st σ) ls σ Q := rn_row rfl ls st σ Q
theorem r_165_134 (ls : a_LS) (st : List Value) (σ : a_HP) (Q : Option Value → a_HP → Prop) : Rn 165 134 ls st σ Q = acR 165 (o_ivv 8 164 2 137 ls st σ) ls σ Q := rn_row rfl ls st σ Q
theorem r_165_137 (ls : a_LS) (st : List Value) (σ : a_HP) (Q : Option Value → a_HP → Prop) : Rn 165 137 ls st σ Q = acR 165 (o_ldi 4 139 ls st σ) ls σ Q := rn_row rfl ls st σ Q
theorem r_165_139 (ls : a_LS) (st : List Value) (σ : a_HP) (Q : Option Value → a_HP → Prop) : Rn 165 139 ls st σ Q = acR 165 (o_eq 173 142 ls st σ) ls σ Q := rn_row rfl ls st σ Q
theorem r_165_142 (ls : a_LS) (st : List Value) (σ : a_HP) (Q : Option Value → a_HP → Prop) : Rn 165 142 ls st σ Q = acR 165 (o_lda 0 143 ls st σ) ls σ Q := rn_row rfl ls st σ Q
theorem r_165_143 (ls : a_LS) (st : List Value) (σ : a_HP) (Q : Option Value → a_HP → Prop) : Rn 165 143 ls st σ Q = acR 165 (o_get 8 1 146 ls st σ) ls σ Q := rn_row rfl ls st σ Q
theorem r_165_146 (ls : a_LS) (st : List Value) (σ : a_HP) (Q : Option Value → a_HP → Prop) : Rn 165 146 ls st σ Q = acR 165 (o_lda 0 147 ls st σ) ls σ Q := rn_row rfl ls st σ Q
theorem r_165_147 (ls : a_LS) (st : List Value) (σ : a_HP) (Q : Option Value → a_HP → Prop) : Rn 165 147 ls st σ Q = acR 165 (o_get 8 15 150 ls st σ) ls σ Q := rn_row rfl ls st σ Q
theorem r_165_150 (ls : a_LS) (st : List Value) (σ : a_HP) (Q : Option Value → a_HP → Prop) : Rn 165 150 ls st σ Q = acR 165 (o_pi (nI 0) 151 ls st σ) ls σ Q := rn_row rfl ls st σ Q
theorem r_165_151 (ls : a_LS) (st : List Value) (σ : a_HP) (Q : Option Value → a_HP → Prop) : Rn 165 151 ls st σ Q = acR 165 (o_ial 152 ls st σ) ls σ Q := rn_row rfl ls st σ Q
theorem r_165_152 (ls : a_LS) (st : List Value) (σ : a_HP) (Q : Option Value → a_HP → Prop) : Rn 165 152 ls st σ Q = acR 165 (o_lda 0 153 ls st σ) ls σ Q := rn_row rfl ls st σ Q
theorem r_165_153 (ls : a_LS) (st : List Value) (σ : a_HP) (Q : Option Value → a_HP → Prop) : Rn 165 153 ls st σ Q = acR 165 (o_get 8 15 156 ls st σ) ls σ Q := rn_row rfl ls st σ Q
theorem r_165_156 (ls : a_LS) (st : List Value) (σ : a_HP) (Q : Option Value → a_HP → Prop) : Rn 165 156 ls st σ Q = acR 165 (o_pi (nI 1) 157 ls st σ) ls σ Q := rn_row rfl ls st σ Q
theorem r_165_157 (ls : a_LS) (st : List Value) (σ : a_HP) (Q : Option Value → a_HP → Prop) : Rn 165 157 ls st σ Q = acR 165 (o_ial 158 ls st σ) ls σ Q := rn_row rfl ls st σ Q
theorem r_165_158 (ls : a_LS) (st : List Value) (σ : a_HP) (Q : Option Value → a_HP → Prop) : Rn 165 158 ls st σ Q = acR 165 (o_lda 0 159 ls st σ) ls σ Q := rn_row rfl ls st σ Q
theorem r_165_159 (ls : a_LS) (st : List Value) (σ : a_HP) (Q : Option Value → a_HP → Prop) : Rn 165 159 ls st σ Q = acR 165 (o_get 8 15 162 ls st σ) ls σ Q := rn_row rfl ls st σ Q
theorem r_165_162 (ls : a_LS) (st : List Value) (σ : a_HP) (Q : Option Value → a_HP → Prop) : Rn 165 162 ls st σ Q = acR 165 (o_pi (nI 2) 163 ls st σ) ls σ Q := rn_row rfl ls st σ Q
theorem r_165_163 (ls : a_LS) (st : List Value) (σ : a_HP) (Q : Option Value → a_HP → Prop) : Rn 165 163 ls st σ Q = acR 165 (o_ial 164 ls st σ) ls σ Q := rn_row rfl ls st σ Q
theorem r_165_164 (ls : a_LS) (st : List Value) (σ : a_HP) (Q : Option Value → a_HP → Prop) : Rn 165 164 ls st σ Q = acR 165 (o_lda 0 165 ls st σ) ls σ Q := rn_row rfl ls st σ Q
theorem r_165_165 (ls : a_LS) (st : List Value) (σ : a_HP) (Q : Option Value → a_HP → Prop) : Rn 165 165 ls st σ Q = acR 165 (o_get 8 15 168 ls st σ) ls σ Q := rn_row rfl ls st σ Q
theorem r_165_168 (ls : a_LS) (st : List Value) (σ : a_HP) (Q : Option Value → a_HP → Prop) : Rn 165 168 ls st σ Q = acR 165 (o_pi (nI 3) 169 ls st σ) ls σ Q := rn_row rfl ls st σ Q
theorem r_165_169 (ls : a_LS) (st : List Value) (σ : a_HP) (Q : Option Value → a_HP → Prop) : Rn 165 169 ls st σ Q = acR 165 (o_ial 170 ls st σ) ls σ Q := rn_row rfl ls st σ Q
theorem r_165_170 (ls : a_LS) (st : List Value) (σ : a_HP) (Q : Option Value → a_HP → Prop) : Rn 165 170 ls st σ Q = acR 165 (o_ivs 152 5 173 ls st σ) ls σ Q := rn_row rfl ls st σ Q
theorem r_165_173 (ls : a_LS) (st : List Value) (σ : a_HP) (Q : Option Value → a_HP → Prop) : Rn 165 173 ls st σ Q = acR 165 (o_pi (nI 1) 174 ls st σ) ls σ Q := rn_row rfl ls st σ Q
theorem r_165_174 (ls : a_LS) (st : List Value) (σ : a_HP) (Q : Option Value → a_HP → Prop) : Rn 165 174 ls st σ Q = acR 165 (o_rz ls st σ) ls σ Q := rn_row rfl ls st σ Q
theorem r_165_175 (ls : a_LS) (st : List Value) (σ : a_HP) (Q : Option Value → a_HP → Prop) : Rn 165 175 ls st σ Q = acR 165 (o_ldl 2 176 ls st σ) ls σ Q := rn_row rfl ls st σ Q
theorem r_165_176 (ls : a_LS) (st : List Value) (σ : a_HP) (Q : Option Value → a_HP → Prop) : Rn 165 176 ls st σ Q = acR 165 (o_pl (lN 2003395685) 179 ls st σ) ls σ Q := rn_row rfl ls st σ Q
theorem r_165_179 (ls : a_LS) (st : List Value) (σ : a_HP) (Q : Option Value → a_HP → Prop) : Rn 165 179 ls st σ Q = acR 165 (o_lcmp 180 ls st σ) ls σ Q := rn_row rfl ls st σ Q
theorem r_165_180 (ls : a_LS) (st : List Value) (σ : a_HP) (Q : Option Value → a_HP → Prop) : Rn 165 180 ls st σ Q = acR 165 (o_ne 191 183 ls st σ) ls σ Q := rn_row rfl ls st σ Q
theorem r_165_183 (ls : a_LS) (st : List Value) (σ : a_HP) (Q : Option Value → a_HP → Prop) : Rn 165 183 ls st σ Q = acR 165 (o_lda 0 184 ls st σ) ls σ Q := rn_row rfl ls st σ Q
theorem r_165_184 (ls : a_LS) (st : List Value) (σ : a_HP) (Q : Option Value → a_HP → Prop) : Rn 165 184 ls st σ Q = acR 165 (o_pi (nI 2) 185 ls st σ) ls σ Q := rn_row rfl ls st σ Q
theorem r_165_185 (ls : a_LS) (st : List Value) (σ : a_HP) (Q : Option Value → a_HP → Prop) : Rn 165 185 ls st σ Q = acR 165 (o_ivv 8 163 1 188 ls st σ) ls σ Q := rn_row rfl ls st σ Q
theorem r_165_188 (ls : a_LS) (st : List Value) (σ : a_HP) (Q : Option Value → a_HP → Prop) : Rn 165 188 ls st σ Q = acR 165 (o_ne 193 191 ls st σ) ls σ Q := rn_row rfl ls st σ Q
theorem r_165_191 (ls : a_LS) (st : List Value) (σ : a_HP) (Q : Option Value → a_HP → Prop) : Rn 165 191 ls st σ Q = acR 165 (o_pi (nI 0) 192 ls st σ) ls σ Q := rn_row rfl ls st σ Q
theorem r_165_192 (ls : a_LS) (st : List Value) (σ : a_HP) (Q : Option Value → a_HP → Prop) : Rn 165 192 ls st σ Q = acR 165 (o_rz ls st σ) ls σ Q := rn_row rfl ls st σ Q
theorem r_165_193 (ls : a_LS) (st : List Value) (σ : a_HP) (Q : Option Value → a_HP → Prop) : Rn 165 193 ls st σ Q = acR 165 (o_lda 0 194 ls st σ) ls σ Q := rn_row rfl ls st σ Q
theorem r_165_194 (ls : a_LS) (st : List Value) (σ : a_HP) (Q : Option Value → a_HP → Prop) : Rn 165 194 ls st σ Q = acR 165 (o_get 8 15 197 ls st σ) ls σ Q := rn_row rfl ls st σ Q
theorem r_165_197 (ls : a_LS) (st : List Value) (σ : a_HP) (Q : Option Value → a_HP → Prop) : Rn 165 197 ls st σ Q = acR 165 (o_pi (nI 0) 198 ls st σ) ls σ Q := rn_row rfl ls st σ Q
theorem r_165_198 (ls : a_LS) (st : List Value) (σ : a_HP) (Q : Option Value → a_HP → Prop) : Rn 165 198 ls st σ Q = acR 165 (o_ial 199 ls st σ) ls σ Q := rn_row rfl ls st σ Q
theorem r_165_199 (ls : a_LS) (st : List Value) (σ : a_HP) (Q : Option Value → a_HP → Prop) : Rn 165 199 ls st σ Q = acR 165 (o_ivs 142 1 202 ls st σ) ls σ Q := rn_row rfl ls st σ Q
theorem r_165_202 (ls : a_LS) (st : List Value) (σ : a_HP) (Q : Option Value → a_HP → Prop) : Rn 165 202 ls st σ Q = acR 165 (o_eq 226 205 ls st σ) ls σ Q := rn_row rfl ls st σ Q
theorem r_165_205 (ls : a_LS) (st : List Value) (σ : a_HP) (Q : Option Value → a_HP → Prop) : Rn 165 205 ls st σ Q = acR 165 (o_lda 0 206 ls st σ) ls σ Q := rn_row rfl ls st σ Q
theorem r_165_206 (ls : a_LS) (st : List Value) (σ : a_HP) (Q : Option Value → a_HP → Prop) : Rn 165 206 ls st σ Q = acR 165 (o_get 8 15 209 ls st σ) ls σ Q := rn_row rfl ls st σ Q
theorem r_165_209 (ls : a_LS) (st : List Value) (σ : a_HP) (Q : Option Value → a_HP → Prop) : Rn 165 209 ls st σ Q = acR 165 (o_pi (nI 1) 210 ls st σ) ls σ Q := rn_row rfl ls st σ Q
theorem r_165_210 (ls : a_LS) (st : List Value) (σ : a_HP) (Q : Option Value → a_HP → Prop) : Rn 165 210 ls st σ Q = acR 165 (o_ial 211 ls st σ) ls σ Q := rn_row rfl ls st σ Q
theorem r_165_211 (ls : a_LS) (st : List Value) (σ : a_HP) (Q : Option Value → a_HP → Prop) : Rn 165 211 ls st σ Q = acR 165 (o_i2l 212 ls st σ) ls σ Q := rn_row rfl ls st σ Q
theorem r_165_212 (ls : a_LS) (st : List Value) (σ : a_HP) (Q : Option Value → a_HP → Prop) : Rn 165 212 ls st σ Q = acR 165 (o_pl (lN 0) 213 ls st σ) ls σ Q := rn_row rfl ls st σ Q
theorem r_165_213 (ls : a_LS) (st : List Value) (σ : a_HP) (Q : Option Value → a_HP → Prop) : Rn 165 213 ls st σ Q = acR 165 (o_pl (lN 30) 216 ls st σ) ls σ Q := rn_row rfl ls st σ Q
theorem r_165_216 (ls : a_LS) (st : List Value) (σ : a_HP) (Q : Option Value → a_HP → Prop) : Rn 165 216 ls st σ Q = acR 165 (o_ivs 122 3 219 ls st σ) ls σ Q := rn_row rfl ls st σ Q
theorem r_165_219 (ls : a_LS) (st : List Value) (σ : a_HP) (Q : Option Value → a_HP → Prop) : Rn 165 219 ls st σ Q = acR 165 (o_eq 226 222 ls st σ) ls σ Q := rn_row rfl ls st σ Q
theorem r_165_222 (ls : a_LS) (st : List Value) (σ : a_HP) (Q : Option Value → a_HP → Prop) : Rn 165 222 ls st σ Q = acR 165 (o_pi (nI 1) 223 ls st σ) ls σ Q := rn_row rfl ls st σ Q
theorem r_165_223 (ls : a_LS) (st : List Value) (σ : a_HP) (Q : Option Value → a_HP → Prop) : Rn 165 223 ls st σ Q = acR 165 (o_go 227 ls st σ) ls σ Q := rn_row rfl ls st σ Q
theorem r_165_226 (ls : a_LS) (st : List Value) (σ : a_HP) (Q : Option Value → a_HP → Prop) : Rn 165 226 ls st σ Q = acR 165 (o_pi (nI 0) 227 ls st σ) ls σ Q := rn_row rfl ls st σ Q
theorem r_165_227 (ls : a_LS) (st : List Value) (σ : a_HP) (Q : Option Value → a_HP → Prop) : Rn 165 227 ls st σ Q = acR 165 (o_sti 4 229 ls st σ) ls σ Q := rn_row rfl ls st σ Q
theorem r_165_229 (ls : a_LS) (st : List Value) (σ : a_HP) (Q : Option Value → a_HP → Prop) : Rn 165 229 ls st σ Q = acR 165 (o_lda 0 230 ls st σ) ls σ Q := rn_row rfl ls st σ Q
theorem r_165_230 (ls : a_LS) (st : List Value) (σ : a_HP) (Q : Option Value → a_HP → Prop) : Rn 165 230 ls st σ Q = acR 165 (o_ldi 4 232 ls st σ) ls σ Q := rn_row rfl ls st σ Q
theorem r_165_232 (ls : a_LS) (st : List Value) (σ : a_HP) (Q : Option Value → a_HP → Prop) : Rn 165 232 ls st σ Q = acR 165 (o_ldi 1 233 ls st σ) ls σ Q := rn_row rfl ls st σ Q
theorem r_165_233 (ls : a_LS) (st : List Value) (σ : a_HP) (Q : Option Value → a_HP → Prop) : Rn 165 233 ls st σ Q = acR 165 (o_ivv 8 164 2 236 ls st σ) ls σ Q := rn_row rfl ls st σ Q
theorem r_165_236 (ls : a_LS) (st : List Value) (σ : a_HP) (Q : Option Value → a_HP → Prop) : Rn 165 236 ls st σ Q = acR 165 (o_ldi 4 238 ls st σ) ls σ Q := rn_row rfl ls st σ Q
theorem r_165_238 (ls : a_LS) (st : List Value) (σ : a_HP) (Q : Option Value → a_HP → Prop) : Rn 165 238 ls st σ Q = acR 165 (o_eq 261 241 ls st σ) ls σ Q := rn_row rfl ls st σ Q
theorem r_165_241 (ls : a_LS) (st : List Value) (σ : a_HP) (Q : Option Value → a_HP → Prop) : Rn 165 241 ls st σ Q = acR 165 (o_lda 0 242 ls st σ) ls σ Q := rn_row rfl ls st σ Q
theorem r_165_242 (ls : a_LS) (st : List Value) (σ : a_HP) (Q : Option Value → a_HP → Prop) : Rn 165 242 ls st σ Q = acR 165 (o_get 8 1 245 ls st σ) ls σ Q := rn_row rfl ls st σ Q
theorem r_165_245 (ls : a_LS) (st : List Value) (σ : a_HP) (Q : Option Value → a_HP → Prop) : Rn 165 245 ls st σ Q = acR 165 (o_pi (nI 52) 247 ls st σ) ls σ Q := rn_row rfl ls st σ Q
theorem r_165_247 (ls : a_LS) (st : List Value) (σ : a_HP) (Q : Option Value → a_HP → Prop) : Rn 165 247 ls st σ Q = acR 165 (o_lda 0 248 ls st σ) ls σ Q := rn_row rfl ls st σ Q
theorem r_165_248 (ls : a_LS) (st : List Value) (σ : a_HP) (Q : Option Value → a_HP → Prop) : Rn 165 248 ls st σ Q = acR 165 (o_get 8 15 251 ls st σ) ls σ Q := rn_row rfl ls st σ Q
theorem r_165_251 (ls : a_LS) (st : List Value) (σ : a_HP) (Q : Option Value → a_HP → Prop) : Rn 165 251 ls st σ Q = acR 165 (o_pi (nI 0) 252 ls st σ) ls σ Q := rn_row rfl ls st σ Q
theorem r_165_252 (ls : a_LS) (st : List Value) (σ : a_HP) (Q : Option Value → a_HP → Prop) : Rn 165 252 ls st σ Q = acR 165 (o_ial 253 ls st σ) ls σ Q := rn_row rfl ls st σ Q
theorem r_165_253 (ls : a_LS) (st : List Value) (σ : a_HP) (Q : Option Value → a_HP → Prop) : Rn 165 253 ls st σ Q = acR 165 (o_bi f_add 254 ls st σ) ls σ Q := rn_row rfl ls st σ Q
theorem r_165_254 (ls : a_LS) (st : List Value) (σ : a_HP) (Q : Option Value → a_HP → Prop) : Rn 165 254 ls st σ Q = acR 165 (o_lda 0 255 ls st σ) ls σ Q := rn_row rfl ls st σ Q
theorem r_165_255 (ls : a_LS) (st : List Value) (σ : a_HP) (Q : Option Value → a_HP → Prop) : Rn 165 255 ls st σ Q = acR 165 (o_get 8 15 258 ls st σ) ls σ Q := rn_row rfl ls st σ Q
theorem r_165_258 (ls : a_LS) (st : List Value) (σ : a_HP) (Q : Option Value → a_HP → Prop) : Rn 165 258 ls st σ Q = acR 165 (o_pi (nI 1) 259 ls st σ) ls σ Q := rn_row rfl ls st σ Q
theorem r_165_259 (ls : a_LS) (st : List Value) (σ : a_HP) (Q : Option Value → a_HP → Prop) : Rn 165 259 ls st σ Q = acR 165 (o_ial 260 ls st σ) ls σ Q := rn_row rfl ls st σ Q
theorem r_165_260 (ls : a_LS) (st : List Value) (σ : a_HP) (Q : Option Value → a_HP → Prop) : Rn 165 260 ls st σ Q = acR 165 (o_ias 261 ls st σ) ls σ Q := rn_row rfl ls st σ Q
theorem r_165_261 (ls : a_LS) (st : List Value) (σ : a_HP) (Q : Option Value → a_HP → Prop) : Rn 165 261 ls st σ Q = acR 165 (o_pi (nI 1) 262 ls st σ) ls σ Q := rn_row rfl ls st σ Q
theorem r_165_262 (ls : a_LS) (st : List Value) (σ : a_HP) (Q : Option Value → a_HP → Prop) : Rn 165 262 ls st σ Q = acR 165 (o_rz ls st σ) ls σ Q := rn_row rfl ls st σ Q
/-! 166: NetLawModel.read()I -/
theorem cl_166 (x0 : Nat) (σ : a_HP) (Q : Option Value → a_HP → Prop) : Cl 166 [.ref x0] σ Q = Rn 166 0 [some (.ref x0), none] [] σ Q := cl_of (Nat.le_of_ble_eq_true rfl) rfl σ Q
theorem r_166_0 (ls : a_LS) (st : List Value) (σ : a_HP) (Q : Option Value → a_HP → Prop) : Rn 166 0 ls st σ Q = acR 166 (o_lda 0 1 ls st σ) ls σ Q := rn_row rfl ls st σ Q
theorem r_166_1 (ls : a_LS) (st : List Value) (σ : a_HP) (Q : Option Value → a_HP → Prop) : Rn 166 1 ls st σ Q = acR 166 (o_get 8 1 4 ls st σ) ls σ Q := rn_row rfl ls st σ Q
theorem r_166_4 (ls : a_LS) (st : List Value) (σ : a_HP) (Q : Option Value → a_HP → Prop) : Rn 166 4 ls st σ Q = acR 166 (o_pi (nI 0) 5 ls st σ) ls σ Q := rn_row rfl ls st σ Q
theorem r_166_5 (ls : a_LS) (st : List Value) (σ : a_HP) (Q : Option Value → a_HP → Prop) : Rn 166 5 ls st σ Q = acR 166 (o_pi (nI 0) 6 ls st σ) ls σ Q := rn_row rfl ls st σ Q
theorem r_166_6 (ls : a_LS) (st : List Value) (σ : a_HP) (Q : Option Value → a_HP → Prop) : Rn 166 6 ls st σ Q = acR 166 (o_ivs 129 3 9 ls st σ) ls σ Q := rn_row rfl ls st σ Q
theorem r_166_9 (ls : a_LS) (st : List Value) (σ : a_HP) (Q : Option Value → a_HP → Prop) : Rn 166 9 ls st σ Q = acR 166 (o_lda 0 10 ls st σ) ls σ Q := rn_row rfl ls st σ Q
theorem r_166_10 (ls : a_LS) (st : List Value) (σ : a_HP) (Q : Option Value → a_HP → Prop) : Rn 166 10 ls st σ Q = acR 166 (o_pi (nI 0) 11 ls st σ) ls σ Q := rn_row rfl ls st σ Q
theorem r_166_11 (ls : a_LS) (st : List Value) (σ : a_HP) (Q : Option Value → a_HP → Prop) : Rn 166 11 ls st σ Q = acR 166 (o_put 8 10 14 ls st σ) ls σ Q := rn_row rfl ls st σ Q
theorem r_166_14 (ls : a_LS) (st : List Value) (σ : a_HP) (Q : Option Value → a_HP → Prop) : Rn 166 14 ls st σ Q = acR 166 (o_lda 0 15 ls st σ) ls σ Q := rn_row rfl ls st σ Q
theorem r_166_15 (ls : a_LS) (st : List Value) (σ : a_HP) (Q : Option Value → a_HP → Prop) : Rn 166 15 ls st σ Q = acR 166 (o_pi (-1) 16 ls st σ) ls σ Q := rn_row rfl ls st σ Q
theorem r_166_16 (ls : a_LS) (st : List Value) (σ : a_HP) (Q : Option Value → a_HP → Prop) : Rn 166 16 ls st σ Q = acR 166 (o_put 8 16 19 ls st σ) ls σ Q := rn_row rfl ls st σ Q
theorem r_166_19 (ls : a_LS) (st : List Value) (σ : a_HP) (Q : Option Value → a_HP → Prop) : Rn 166 19 ls st σ Q = acR 166 (o_pi (nI 0) 20 ls st σ) ls σ Q := rn_row rfl ls st σ Q
theorem r_166_20 (ls : a_LS) (st : List Value) (σ : a_HP) (Q : Option Value → a_HP → Prop) : Rn 166 20 ls st σ Q = acR 166 (o_sti 1 21 ls st σ) ls σ Q := rn_row rfl ls st σ Q
theorem r_166_21 (ls : a_LS) (st : List Value) (σ : a_HP) (Q : Option Value → a_HP → Prop) : Rn 166 21 ls st σ Q = acR 166 (o_lda 0 22 ls st σ) ls σ Q := rn_row rfl ls st σ Q
theorem r_166_22 (ls : a_LS) (st : List Value) (σ : a_HP) (Q : Option Value → a_HP → Prop) : Rn 166 22 ls st σ Q = acR 166 (o_ivv 8 162 0 25 ls st σ) ls σ Q := rn_row rfl ls st σ Q
theorem r_166_25 (ls : a_LS) (st : List Value) (σ : a_HP) (Q : Option Value → a_HP → Prop) : Rn 166 25 ls st σ Q = acR 166 (o_lda 0 26 ls st σ) ls σ Q := rn_row rfl ls st σ Q
theorem r_166_26 (ls : a_LS) (st : List Value) (σ : a_HP) (Q : Option Value → a_HP → Prop) : Rn 166 26 ls st σ Q = acR 166 (o_get 8 12 29 ls st σ) ls σ Q := rn_row rfl ls st σ Q
theorem r_166_29 (ls : a_LS) (st : List Value) (σ : a_HP) (Q : Option Value → a_HP → Prop) : Rn 166 29 ls st σ Q = acR 166 (o_eq 58 32 ls st σ) ls σ Q := rn_row rfl ls st σ Q
theorem r_166_32 (ls : a_LS) (st : List Value) (σ : a_HP) (Q : Option Value → a_HP → Prop) : Rn 166 32 ls st σ Q = acR 166 (o_lda 0 33 ls st σ) ls σ Q := rn_row rfl ls st σ Q
theorem r_166_33 (ls : a_LS) (st : List Value) (σ : a_HP) (Q : Option Value → a_HP → Prop) : Rn 166 33 ls st σ Q = acR 166 (o_ldi 1 34 ls st σ) ls σ Q := rn_row rfl ls st σ Q
theorem r_166_34 (ls : a_LS) (st : List Value) (σ : a_HP) (Q : Option Value → a_HP → Prop) : Rn 166 34 ls st σ Q = acR 166 (o_ivv 8 165 1 37 ls st σ) ls σ Q := rn_row rfl ls st σ Q
theorem r_166_37 (ls : a_LS) (st : List Value) (σ : a_HP) (Q : Option Value → a_HP → Prop) : Rn 166 37 ls st σ Q = acR 166 (o_ne 48 40 ls st σ) ls σ Q := rn_row rfl ls st σ Q
theorem r_166_40 (ls : a_LS) (st : List Value) (σ : a_HP) (Q : Option Value → a_HP → Prop) : Rn 166 40 ls st σ Q = acR 166 (o_pi (-10) 42 ls st σ) ls σ Q := rn_row rfl ls st σ Q
theorem r_166_42 (ls : a_LS) (st : List Value) (σ : a_HP) (Q : Option Value → a_HP → Prop) : Rn 166 42 ls st σ Q = acR 166 (o_lda 0 43 ls st σ) ls σ Q := rn_row rfl ls st σ Q
theorem r_166_43 (ls : a_LS) (st : List Value) (σ : a_HP) (Q : Option Value → a_HP → Prop) : Rn 166 43 ls st σ Q = acR 166 (o_get 8 11 46 ls st σ) ls σ Q := rn_row rfl ls st σ Q
theorem r_166_46 (ls : a_LS) (st : List Value) (σ : a_HP) (Q : Option Value → a_HP → Prop) : Rn 166 46 ls st σ Q = acR 166 (o_bi f_sub 47 ls st σ) ls σ Q := rn_row rfl ls st σ Q
theorem r_166_47 (ls : a_LS) (st : List Value) (σ : a_HP) (Q : Option Value → a_HP → Prop) : Rn 166 47 ls st σ Q = acR 166 (o_ri ls st σ) ls σ Q := rn_row rfl ls st σ Q
theorem r_166_48 (ls : a_LS) (st : List Value) (σ : a_HP) (Q : Option Value → a_HP → Prop) : Rn 166 48 ls st σ Q = acR 166 (o_inc 1 (nI 1) 51 ls st σ) ls σ Q := rn_row rfl ls st σ Q
theorem r_166_51 (ls : a_LS) (st : List Value) (σ : a_HP) (Q : Option Value → a_HP → Prop) : Rn 166 51 ls st σ Q = acR 166 (o_lda 0 52 ls st σ) ls σ Q := rn_row rfl ls st σ Q
theorem r_166_52 (ls : a_LS) (st : List Value) (σ : a_HP) (Q : Option Value → a_HP → Prop) : Rn 166 52 ls st σ Q = acR 166 (o_ivv 8 162 0 55 ls st σ) ls σ Q := rn_row rfl ls st σ Q
theorem r_166_55 (ls : a_LS) (st : List Value) (σ : a_HP) (Q : Option Value → a_HP → Prop) : Rn 166 55 ls st σ Q = acR 166 (o_go 25 ls st σ) ls σ Q := rn_row rfl ls st σ Q
theorem r_166_58 (ls : a_LS) (st : List Value) (σ : a_HP) (Q : Option Value → a_HP → Prop) : Rn 166 58 ls st σ Q = acR 166 (o_ldi 1 59 ls st σ) ls σ Q := rn_row rfl ls st σ Q
theorem r_166_59 (ls : a_LS) (st : List Value) (σ : a_HP) (Q : Option Value → a_HP → Prop) : Rn 166 59 ls st σ Q = acR 166 (o_ne 70 62 ls st σ) ls σ Q := rn_row rfl ls st σ Q
theorem r_166_62 (ls : a_LS) (st : List Value) (σ : a_HP) (Q : Option Value → a_HP → Prop) : Rn 166 62 ls st σ Q = acR 166 (o_pi (-10) 64 ls st σ) ls σ Q := rn_row rfl ls st σ Q
theorem r_166_64 (ls : a_LS) (st : List Value) (σ : a_HP) (Q : Option Value → a_HP → Prop) : Rn 166 64 ls st σ Q = acR 166 (o_lda 0 65 ls st σ) ls σ Q := rn_row rfl ls st σ Q
theorem r_166_65 (ls : a_LS) (st : List Value) (σ : a_HP) (Q : Option Value → a_HP → Prop) : Rn 166 65 ls st σ Q = acR 166 (o_get 8 11 68 ls st σ) ls σ Q := rn_row rfl ls st σ Q
theorem r_166_68 (ls : a_LS) (st : List Value) (σ : a_HP) (Q : Option Value → a_HP → Prop) : Rn 166 68 ls st σ Q = acR 166 (o_bi f_sub 69 ls st σ) ls σ Q := rn_row rfl ls st σ Q
theorem r_166_69 (ls : a_LS) (st : List Value) (σ : a_HP) (Q : Option Value → a_HP → Prop) : Rn 166 69 ls st σ Q = acR 166 (o_ri ls st σ) ls σ Q := rn_row rfl ls st σ Q
theorem r_166_70 (ls : a_LS) (st : List Value) (σ : a_HP) (Q : Option Value → a_HP → Prop) : Rn 166 70 ls st σ Q = acR 166 (o_lda 0 71 ls st σ) ls σ Q := rn_row rfl ls st σ Q
theorem r_166_71 (ls : a_LS) (st : List Value) (σ : a_HP) (Q : Option Value → a_HP → Prop) : Rn 166 71 ls st σ Q = acR 166 (o_get 8 16 74 ls st σ) ls σ Q := rn_row rfl ls st σ Q
theorem r_166_74 (ls : a_LS) (st : List Value) (σ : a_HP) (Q : Option Value → a_HP → Prop) : Rn 166 74 ls st σ Q = acR 166 (o_pi (-1) 75 ls st σ) ls σ Q := rn_row rfl ls st σ Q
theorem r_166_75 (ls : a_LS) (st : List Value) (σ : a_HP) (Q : Option Value → a_HP → Prop) : Rn 166 75 ls st σ Q = acR 166 (o_ceq 87 78 ls st σ) ls σ Q := rn_row rfl ls st σ Q
theorem r_166_78 (ls : a_LS) (st : List Value) (σ : a_HP) (Q : Option Value → a_HP → Prop) : Rn 166 78 ls st σ Q = acR 166 (o_pi (-1000) 81 ls st σ) ls σ Q := rn_row rfl ls st σ Q
theorem r_166_81 (ls : a_LS) (st : List Value) (σ : a_HP) (Q : Option Value → a_HP → Prop) : Rn 166 81 ls st σ Q = acR 166 (o_lda 0 82 ls st σ) ls σ Q := rn_row rfl ls st σ Q
theorem r_166_82 (ls : a_LS) (st : List Value) (σ : a_HP) (Q : Option Value → a_HP → Prop) : Rn 166 82 ls st σ Q = acR 166 (o_get 8 16 85 ls st σ) ls σ Q := rn_row rfl ls st σ Q
theorem r_166_85 (ls : a_LS) (st : List Value) (σ : a_HP) (Q : Option Value → a_HP → Prop) : Rn 166 85 ls st σ Q = acR 166 (o_bi f_sub 86 ls st σ) ls σ Q := rn_row rfl ls st σ Q
theorem r_166_86 (ls : a_LS) (st : List Value) (σ : a_HP) (Q : Option Value → a_HP → Prop) : Rn 166 86 ls st σ Q = acR 166 (o_ri ls st σ) ls σ Q := rn_row rfl ls st σ Q
theorem r_166_87 (ls : a_LS) (st : List Value) (σ : a_HP) (Q : Option Value → a_HP → Prop) : Rn 166 87 ls st σ Q = acR 166 (o_lda 0 88 ls st σ) ls σ Q := rn_row rfl ls st σ Q
theorem r_166_88 (ls : a_LS) (st : List Value) (σ : a_HP) (Q : Option Value → a_HP → Prop) : Rn 166 88 ls st σ Q = acR 166 (o_get 8 1 91 ls st σ) ls σ Q := rn_row rfl ls st σ Q
theorem r_166_91 (ls : a_LS) (st : List Value) (σ : a_HP) (Q : Option Value → a_HP → Prop) : Rn 166 91 ls st σ Q = acR 166 (o_pi (nI 0) 92 ls st σ) ls σ Q := rn_row rfl ls st σ Q
theorem r_166_92 (ls : a_LS) (st : List Value) (σ : a_HP) (Q : Option Value → a_HP → Prop) : Rn 166 92 ls st σ Q = acR 166 (o_lda 0 93 ls st σ) ls σ Q := rn_row rfl ls st σ Q
theorem r_166_93 (ls : a_LS) (st : List Value) (σ : a_HP) (Q : Option Value → a_HP → Prop) : Rn 166 93 ls st σ Q = acR 166 (o_get 8 0 96 ls st σ) ls σ Q := rn_row rfl ls st σ Q
theorem r_166_96 (ls : a_LS) (st : List Value) (σ : a_HP) (Q : Option Value → a_HP → Prop) : Rn 166 96 ls st σ Q = acR 166 (o_pi (nI 0) 97 ls st σ) ls σ Q := rn_row rfl ls st σ Q
theorem r_166_97 (ls : a_LS) (st : List Value) (σ : a_HP) (Q : Option Value → a_HP → Prop) : Rn 166 97 ls st σ Q = acR 166 (o_pi (nI 481) 100 ls st σ) ls σ Q := rn_row rfl ls st σ Q
theorem r_166_100 (ls : a_LS) (st : List Value) (σ : a_HP) (Q : Option Value → a_HP → Prop) : Rn 166 100 ls st σ Q = acR 166 (o_ivs 130 5 103 ls st σ) ls σ Q := rn_row rfl ls st σ Q
theorem r_166_103 (ls : a_LS) (st : List Value) (σ : a_HP) (Q : Option Value → a_HP → Prop) : Rn 166 103 ls st σ Q = acR 166 (o_ldi 1 104 ls st σ) ls σ Q := rn_row rfl ls st σ Q
theorem r_166_104 (ls : a_LS) (st : List Value) (σ : a_HP) (Q : Option Value → a_HP → Prop) : Rn 166 104 ls st σ Q = acR 166 (o_ri ls st σ) ls σ Q := rn_row rfl ls st σ Q
/-! 167: NetLawModel.of(II)I -/
theorem cl_167 (x0 : Nat) (x1 : Int32) (x2 : Int32) (σ : a_HP) (Q : Option Value → a_HP → Prop) : Cl 167 [.ref x0, .int x1, .int x2] σ Q = Rn 167 0 [some (.ref x0), some (.int x1), some (.int x2), none] [] σ Q := cl_of (Nat.le_of_ble_eq_true rfl) rfl σ Q
theorem r_167_0 (ls : a_LS) (st : List Value) (σ : a_HP) (Q : Option Value → a_HP → Prop) : Rn 167 0 ls st σ Q = acR 167 (o_ldi 1 1 ls st σ) ls σ Q := rn_row rfl ls st σ Q
theorem r_167_1 (ls : a_LS) (st : List Value) (σ : a_HP) (Q : Option Value → a_HP → Prop) : Rn 167 1 ls st σ Q = acR 167 (o_ivs 141 1 4 ls st σ) ls σ Q := rn_row rfl ls st σ Q
theorem r_167_4 (ls : a_LS) (st : List Value) (σ : a_HP) (Q : Option Value → a_HP → Prop) : Rn 167 4 ls st σ Q = acR 167 (o_eq 19 7 ls st σ) ls σ Q := rn_row rfl ls st σ Q
theorem r_167_7 (ls : a_LS) (st : List Value) (σ : a_HP) (Q : Option Value → a_HP → Prop) : Rn 167 7 ls st σ Q = acR 167 (o_ldi 2 8 ls st σ) ls σ Q := rn_row rfl ls st σ Q
theorem r_167_8 (ls : a_LS) (st : List Value) (σ : a_HP) (Q : Option Value → a_HP → Prop) : Rn 167 8 ls st σ Q = acR 167 (o_i2l 9 ls st σ) ls σ Q := rn_row rfl ls st σ Q
theorem r_167_9 (ls : a_LS) (st : List Value) (σ : a_HP) (Q : Option Value → a_HP → Prop) : Rn 167 9 ls st σ Q = acR 167 (o_pl (lN 0) 10 ls st σ) ls σ Q := rn_row rfl ls st σ Q
theorem r_167_10 (ls : a_LS) (st : List Value) (σ : a_HP) (Q : Option Value → a_HP → Prop) : Rn 167 10 ls st σ Q = acR 167 (o_pl (lN 4) 13 ls st σ) ls σ Q := rn_row rfl ls st σ Q
theorem r_167_13 (ls : a_LS) (st : List Value) (σ : a_HP) (Q : Option Value → a_HP → Prop) : Rn 167 13 ls st σ Q = acR 167 (o_ivs 122 3 16 ls st σ) ls σ Q := rn_row rfl ls st σ Q
theorem r_167_16 (ls : a_LS) (st : List Value) (σ : a_HP) (Q : Option Value → a_HP → Prop) : Rn 167 16 ls st σ Q = acR 167 (o_ne 24 19 ls st σ) ls σ Q := rn_row rfl ls st σ Q
theorem r_167_19 (ls : a_LS) (st : List Value) (σ : a_HP) (Q : Option Value → a_HP → Prop) : Rn 167 19 ls st σ Q = acR 167 (o_lda 0 20 ls st σ) ls σ Q := rn_row rfl ls st σ Q
theorem r_167_20 (ls : a_LS) (st : List Value) (σ : a_HP) (Q : Option Value → a_HP → Prop) : Rn 167 20 ls st σ Q = acR 167 (o_ivv 8 125 0 23 ls st σ) ls σ Q := rn_row rfl ls st σ Q
theorem r_167_23 (ls : a_LS) (st : List Value) (σ : a_HP) (Q : Option Value → a_HP → Prop) : Rn 167 23 ls st σ Q = acR 167 (o_ri ls st σ) ls σ Q := rn_row rfl ls st σ Q
theorem r_167_24 (ls : a_LS) (st : List Value) (σ : a_HP) (Q : Option Value → a_HP → Prop) : Rn 167 24 ls st σ Q = acR 167 (o_lda 0 25 ls st σ) ls σ Q := rn_row rfl ls st σ Q
theorem r_167_25 (ls : a_LS) (st : List Value) (σ : a_HP) (Q : Option Value → a_HP → Prop) : Rn 167 25 ls st σ Q = acR 167 (o_get 8 0 28 ls st σ) ls σ Q := rn_row rfl ls st σ Q
theorem r_167_28 (ls : a_LS) (st : List Value) (σ : a_HP) (Q : Option Value → a_HP → Prop) : Rn 167 28 ls st σ Q = acR 167 (o_pi (nI 20) 30 ls st σ) ls σ Q := rn_row rfl ls st σ Q
theorem r_167_30 (ls : a_LS) (st : List Value) (σ : a_HP) (Q : Option Value → a_HP → Prop) : Rn 167 30 ls st σ Q = acR 167 (o_ldi 1 31 ls st σ) ls σ Q := rn_row rfl ls st σ Q
theorem r_167_31 (ls : a_LS) (st : List Value) (σ : a_HP) (Q : Option Value → a_HP → Prop) : Rn 167 31 ls st σ Q = acR 167 (o_bi f_add 32 ls st σ) ls σ Q := rn_row rfl ls st σ Q
theorem r_167_32 (ls : a_LS) (st : List Value) (σ : a_HP) (Q : Option Value → a_HP → Prop) : Rn 167 32 ls st σ Q = acR 167 (o_ial 33 ls st σ) ls σ Q := rn_row rfl ls st σ Q
theorem r_167_33 (ls : a_LS) (st : List Value) (σ : a_HP) (Q : Option Value → a_HP → Prop) : Rn 167 33 ls st σ Q = acR 167 (o_sti 3 34 ls st σ) ls σ Q := rn_row rfl ls st σ Q
theorem r_167_34 (ls : a_LS) (st : List Value) (σ : a_HP) (Q : Option Value → a_HP → Prop) : Rn 167 34 ls st σ Q = acR 167 (o_ldi 2 35 ls st σ) ls σ Q := rn_row rfl ls st σ Q
theorem r_167_35 (ls : a_LS) (st : List Value) (σ : a_HP) (Q : Option Value → a_HP → Prop) : Rn 167 35 ls st σ Q = acR 167 (o_pi (nI 3) 36 ls st σ) ls σ Q := rn_row rfl ls st σ Q
theorem r_167_36 (ls : a_LS) (st : List Value) (σ : a_HP) (Q : Option Value → a_HP → Prop) : Rn 167 36 ls st σ Q = acR 167 (o_cge 55 39 ls st σ) ls σ Q := rn_row rfl ls st σ Q
theorem r_167_39 (ls : a_LS) (st : List Value) (σ : a_HP) (Q : Option Value → a_HP → Prop) : Rn 167 39 ls st σ Q = acR 167 (o_lda 0 40 ls st σ) ls σ Q := rn_row rfl ls st σ Q
theorem r_167_40 (ls : a_LS) (st : List Value) (σ : a_HP) (Q : Option Value → a_HP → Prop) : Rn 167 40 ls st σ Q = acR 167 (o_get 8 0 43 ls st σ) ls σ Q := rn_row rfl ls st σ Q
theorem r_167_43 (ls : a_LS) (st : List Value) (σ : a_HP) (Q : Option Value → a_HP → Prop) : Rn 167 43 ls st σ Q = acR 167 (o_pi (nI 4) 44 ls st σ) ls σ Q := rn_row rfl ls st σ Q
theorem r_167_44 (ls : a_LS) (st : List Value) (σ : a_HP) (Q : Option Value → a_HP → Prop) : Rn 167 44 ls st σ Q = acR 167 (o_pi (nI 16) 46 ls st σ) ls σ Q := rn_row rfl ls st σ Q
theorem r_167_46 (ls : a_LS) (st : List Value) (σ : a_HP) (Q : Option Value → a_HP → Prop) : Rn 167 46 ls st σ Q = acR 167 (o_ldi 2 47 ls st σ) ls σ Q := rn_row rfl ls st σ Q
theorem r_167_47 (ls : a_LS) (st : List Value) (σ : a_HP) (Q : Option Value → a_HP → Prop) : Rn 167 47 ls st σ Q = acR 167 (o_bi f_mul 48 ls st σ) ls σ Q := rn_row rfl ls st σ Q
theorem r_167_48 (ls : a_LS) (st : List Value) (σ : a_HP) (Q : Option Value → a_HP → Prop) : Rn 167 48 ls st σ Q = acR 167 (o_bi f_add 49 ls st σ) ls σ Q := rn_row rfl ls st σ Q
theorem r_167_49 (ls : a_LS) (st : List Value) (σ : a_HP) (Q : Option Value → a_HP → Prop) : Rn 167 49 ls st σ Q = acR 167 (o_ldi 1 50 ls st σ) ls σ Q := rn_row rfl ls st σ Q
theorem r_167_50 (ls : a_LS) (st : List Value) (σ : a_HP) (Q : Option Value → a_HP → Prop) : Rn 167 50 ls st σ Q = acR 167 (o_bi f_add 51 ls st σ) ls σ Q := rn_row rfl ls st σ Q
theorem r_167_51 (ls : a_LS) (st : List Value) (σ : a_HP) (Q : Option Value → a_HP → Prop) : Rn 167 51 ls st σ Q = acR 167 (o_ial 52 ls st σ) ls σ Q := rn_row rfl ls st σ Q
theorem r_167_52 (ls : a_LS) (st : List Value) (σ : a_HP) (Q : Option Value → a_HP → Prop) : Rn 167 52 ls st σ Q = acR 167 (o_go 96 ls st σ) ls σ Q := rn_row rfl ls st σ Q
theorem r_167_55 (ls : a_LS) (st : List Value) (σ : a_HP) (Q : Option Value → a_HP → Prop) : Rn 167 55 ls st σ Q = acR 167 (o_ldi 2 56 ls st σ) ls σ Q := rn_row rfl ls st σ Q
theorem r_167_56 (ls : a_LS) (st : List Value) (σ : a_HP) (Q : Option Value → a_HP → Prop) : Rn 167 56 ls st σ Q = acR 167 (o_pi (nI 3) 57 ls st σ) ls σ Q := rn_row rfl ls st σ Q
theorem r_167_57 (ls : a_LS) (st : List Value) (σ : a_HP) (Q : Option Value → a_HP → Prop) : Rn 167 57 ls st σ Q = acR 167 (o_cne 71 60 ls st σ) ls σ Q := rn_row rfl ls st σ Q
theorem r_167_60 (ls : a_LS) (st : List Value) (σ : a_HP) (Q : Option Value → a_HP → Prop) : Rn 167 60 ls st σ Q = acR 167 (o_lda 0 61 ls st σ) ls σ Q := rn_row rfl ls st σ Q
theorem r_167_61 (ls : a_LS) (st : List Value) (σ : a_HP) (Q : Option Value → a_HP → Prop) : Rn 167 61 ls st σ Q = acR 167 (o_get 8 0 64 ls st σ) ls σ Q := rn_row rfl ls st σ Q
theorem r_167_64 (ls : a_LS) (st : List Value) (σ : a_HP) (Q : Option Value → a_HP → Prop) : Rn 167 64 ls st σ Q = acR 167 (o_ldi 1 65 ls st σ) ls σ Q := rn_row rfl ls st σ Q
theorem r_167_65 (ls : a_LS) (st : List Value) (σ : a_HP) (Q : Option Value → a_HP → Prop) : Rn 167 65 ls st σ Q = acR 167 (o_ivs 134 2 68 ls st σ) ls σ Q := rn_row rfl ls st σ Q
theorem r_167_68 (ls : a_LS) (st : List Value) (σ : a_HP) (Q : Option Value → a_HP → Prop) : Rn 167 68 ls st σ Q = acR 167 (o_go 96 ls st σ) ls σ Q := rn_row rfl ls st σ Q
theorem r_167_71 (ls : a_LS) (st : List Value) (σ : a_HP) (Q : Option Value → a_HP → Prop) : Rn 167 71 ls st σ Q = acR 167 (o_ldi 3 72 ls st σ) ls σ Q := rn_row rfl ls st σ Q
theorem r_167_72 (ls : a_LS) (st : List Value) (σ : a_HP) (Q : Option Value → a_HP → Prop) : Rn 167 72 ls st σ Q = acR 167 (o_ne 79 75 ls st σ) ls σ Q := rn_row rfl ls st σ Q
theorem r_167_75 (ls : a_LS) (st : List Value) (σ : a_HP) (Q : Option Value → a_HP → Prop) : Rn 167 75 ls st σ Q = acR 167 (o_pi (nI 0) 76 ls st σ) ls σ Q := rn_row rfl ls st σ Q
theorem r_167_76 (ls : a_LS) (st : List Value) (σ : a_HP) (Q : Option Value → a_HP → Prop) : Rn 167 76 ls st σ Q = acR 167 (o_go 96 ls st σ) ls σ Q := rn_row rfl ls st σ Q
theorem r_167_79 (ls : a_LS) (st : List Value) (σ : a_HP) (Q : Option Value → a_HP → Prop) : Rn 167 79 ls st σ Q = acR 167 (o_lda 0 80 ls st σ) ls σ Q := rn_row rfl ls st σ Q
theorem r_167_80 (ls : a_LS) (st : List Value) (σ : a_HP) (Q : Option Value → a_HP → Prop) : Rn 167 80 ls st σ Q = acR 167 (o_get 8 0 83 ls st σ) ls σ Q := rn_row rfl ls st σ Q
theorem r_167_83 (ls : a_LS) (st : List Value) (σ : a_HP) (Q : Option Value → a_HP → Prop) : Rn 167 83 ls st σ Q = acR 167 (o_pi (nI 4) 84 ls st σ) ls σ Q := rn_row rfl ls st σ Q
theorem r_167_84 (ls : a_LS) (st : List Value) (σ : a_HP) (Q : Option Value → a_HP → Prop) : Rn 167 84 ls st σ Q = acR 167 (o_ldi 1 85 ls st σ) ls σ Q := rn_row rfl ls st σ Q
theorem r_167_85 (ls : a_LS) (st : List Value) (σ : a_HP) (Q : Option Value → a_HP → Prop) : Rn 167 85 ls st σ Q = acR 167 (o_bi f_add 86 ls st σ) ls σ Q := rn_row rfl ls st σ Q
theorem r_167_86 (ls : a_LS) (st : List Value) (σ : a_HP) (Q : Option Value → a_HP → Prop) : Rn 167 86 ls st σ Q = acR 167 (o_ial 87 ls st σ) ls σ Q := rn_row rfl ls st σ Q
theorem r_167_87 (ls : a_LS) (st : List Value) (σ : a_HP) (Q : Option Value → a_HP → Prop) : Rn 167 87 ls st σ Q = acR 167 (o_lda 0 88 ls st σ) ls σ Q := rn_row rfl ls st σ Q
theorem r_167_88 (ls : a_LS) (st : List Value) (σ : a_HP) (Q : Option Value → a_HP → Prop) : Rn 167 88 ls st σ Q = acR 167 (o_get 8 0 91 ls st σ) ls σ Q := rn_row rfl ls st σ Q
theorem r_167_91 (ls : a_LS) (st : List Value) (σ : a_HP) (Q : Option Value → a_HP → Prop) : Rn 167 91 ls st σ Q = acR 167 (o_pi (nI 3) 92 ls st σ) ls σ Q := rn_row rfl ls st σ Q
theorem r_167_92 (ls : a_LS) (st : List Value) (σ : a_HP) (Q : Option Value → a_HP → Prop) : Rn 167 92 ls st σ Q = acR 167 (o_ial 93 ls st σ) ls σ Q := rn_row rfl ls st σ Q
theorem r_167_93 (ls : a_LS) (st : List Value) (σ : a_HP) (Q : Option Value → a_HP → Prop) : Rn 167 93 ls st σ Q = acR 167 (o_ivs 135 2 96 ls st σ) ls σ Q := rn_row rfl ls st σ Q
theorem r_167_96 (ls : a_LS) (st : List Value) (σ : a_HP) (Q : Option Value → a_HP → Prop) : Rn 167 96 ls st σ Q = acR 167 (o_ri ls st σ) ls σ Q := rn_row rfl ls st σ Q
/-! 168: NetLawModel.clause(II)I -/
theorem cl_168 (x0 : Nat) (x1 : Int32) (x2 : Int32) (σ : a_HP) (Q : Option Value → a_HP → Prop) : Cl 168 [.ref x0, .int x1, .int x2] σ Q = Rn 168 0 [some (.ref x0), some (.int x1), some (.int x2)] [] σ Q := cl_of (Nat.le_of_ble_eq_true rfl) rfl σ Q
theorem r_168_0 (ls : a_LS) (st : List Value) (σ : a_HP) (Q : Option Value → a_HP → Prop) : Rn 168 0 ls st σ Q = acR 168 (o_ldi 1 1 ls st σ) ls σ Q := rn_row rfl ls st σ Q
theorem r_168_1 (ls : a_LS) (st : List Value) (σ : a_HP) (Q : Option Value → a_HP → Prop) : Rn 168 1 ls st σ Q = acR 168 (o_ivs 142 1 4 ls st σ) ls σ Q := rn_row rfl ls st σ Q
theorem r_168_4 (ls : a_LS) (st : List Value) (σ : a_HP) (Q : Option Value → a_HP → Prop) : Rn 168 4 ls st σ Q = acR 168 (o_eq 19 7 ls st σ) ls σ Q := rn_row rfl ls st σ Q
theorem r_168_7 (ls : a_LS) (st : List Value) (σ : a_HP) (Q : Option Value → a_HP → Prop) : Rn 168 7 ls st σ Q = acR 168 (o_ldi 2 8 ls st σ) ls σ Q := rn_row rfl ls st σ Q
theorem r_168_8 (ls : a_LS) (st : List Value) (σ : a_HP) (Q : Option Value → a_HP → Prop) : Rn 168 8 ls st σ Q = acR 168 (o_i2l 9 ls st σ) ls σ Q := rn_row rfl ls st σ Q
theorem r_168_9 (ls : a_LS) (st : List Value) (σ : a_HP) (Q : Option Value → a_HP → Prop) : Rn 168 9 ls st σ Q = acR 168 (o_pl (lN 0) 10 ls st σ) ls σ Q := rn_row rfl ls st σ Q
theorem r_168_10 (ls : a_LS) (st : List Value) (σ : a_HP) (Q : Option Value → a_HP → Prop) : Rn 168 10 ls st σ Q = acR 168 (o_pl (lN 2) 13 ls st σ) ls σ Q := rn_row rfl ls st σ Q
theorem r_168_13 (ls : a_LS) (st : List Value) (σ : a_HP) (Q : Option Value → a_HP → Prop) : Rn 168 13 ls st σ Q = acR 168 (o_ivs 122 3 16 ls st σ) ls σ Q := rn_row rfl ls st σ Q
theorem r_168_16 (ls : a_LS) (st : List Value) (σ : a_HP) (Q : Option Value → a_HP → Prop) : Rn 168 16 ls st σ Q = acR 168 (o_ne 24 19 ls st σ) ls σ Q := rn_row rfl ls st σ Q
theorem r_168_19 (ls : a_LS) (st : List Value) (σ : a_HP) (Q : Option Value → a_HP → Prop) : Rn 168 19 ls st σ Q = acR 168 (o_lda 0 20 ls st σ) ls σ Q := rn_row rfl ls st σ Q
theorem r_168_20 (ls : a_LS) (st : List Value) (σ : a_HP) (Q : Option Value → a_HP → Prop) : Rn 168 20 ls st σ Q = acR 168 (o_ivv 8 125 0 23 ls st σ) ls σ Q := rn_row rfl ls st σ Q
theorem r_168_23 (ls : a_LS) (st : List Value) (σ : a_HP) (Q : Option Value → a_HP → Prop) : Rn 168 23 ls st σ Q = acR 168 (o_ri ls st σ) ls σ Q := rn_row rfl ls st σ Q
theorem r_168_24 (ls : a_LS) (st : List Value) (σ : a_HP) (Q : Option Value → a_HP → Prop) : Rn 168 24 ls st σ Q = acR 168 (o_ldi 2 25 ls st σ) ls σ Q := rn_row rfl ls st σ Q
theorem r_168_25 (ls : a_LS) (st : List Value) (σ : a_HP) (Q : Option Value → a_HP → Prop) : Rn 168 25 ls st σ Q = acR 168 (o_ne 40 28 ls st σ) ls σ Q := rn_row rfl ls st σ Q
theorem r_168_28 (ls : a_LS) (st : List Value) (σ : a_HP) (Q : Option Value → a_HP → Prop) : Rn 168 28 ls st σ Q = acR 168 (o_lda 0 29 ls st σ) ls σ Q := rn_row rfl ls st σ Q
theorem r_168_29 (ls : a_LS) (st : List Value) (σ : a_HP) (Q : Option Value → a_HP → Prop) : Rn 168 29 ls st σ Q = acR 168 (o_get 8 0 32 ls st σ) ls σ Q := rn_row rfl ls st σ Q
theorem r_168_32 (ls : a_LS) (st : List Value) (σ : a_HP) (Q : Option Value → a_HP → Prop) : Rn 168 32 ls st σ Q = acR 168 (o_pi (nI 52) 34 ls st σ) ls σ Q := rn_row rfl ls st σ Q
theorem r_168_34 (ls : a_LS) (st : List Value) (σ : a_HP) (Q : Option Value → a_HP → Prop) : Rn 168 34 ls st σ Q = acR 168 (o_ldi 1 35 ls st σ) ls σ Q := rn_row rfl ls st σ Q
theorem r_168_35 (ls : a_LS) (st : List Value) (σ : a_HP) (Q : Option Value → a_HP → Prop) : Rn 168 35 ls st σ Q = acR 168 (o_bi f_add 36 ls st σ) ls σ Q := rn_row rfl ls st σ Q
theorem r_168_36 (ls : a_LS) (st : List Value) (σ : a_HP) (Q : Option Value → a_HP → Prop) : Rn 168 36 ls st σ Q = acR 168 (o_ial 37 ls st σ) ls σ Q := rn_row rfl ls st σ Q
theorem r_168_37 (ls : a_LS) (st : List Value) (σ : a_HP) (Q : Option Value → a_HP → Prop) : Rn 168 37 ls st σ Q = acR 168 (o_go 72 ls st σ) ls σ Q := rn_row rfl ls st σ Q
theorem r_168_40 (ls : a_LS) (st : List Value) (σ : a_HP) (Q : Option Value → a_HP → Prop) : Rn 168 40 ls st σ Q = acR 168 (o_ldi 2 41 ls st σ) ls σ Q := rn_row rfl ls st σ Q
theorem r_168_41 (ls : a_LS) (st : List Value) (σ : a_HP) (Q : Option Value → a_HP → Prop) : Rn 168 41 ls st σ Q = acR 168 (o_pi (nI 1) 42 ls st σ) ls σ Q := rn_row rfl ls st σ Q
theorem r_168_42 (ls : a_LS) (st : List Value) (σ : a_HP) (Q : Option Value → a_HP → Prop) : Rn 168 42 ls st σ Q = acR 168 (o_cne 56 45 ls st σ) ls σ Q := rn_row rfl ls st σ Q
theorem r_168_45 (ls : a_LS) (st : List Value) (σ : a_HP) (Q : Option Value → a_HP → Prop) : Rn 168 45 ls st σ Q = acR 168 (o_lda 0 46 ls st σ) ls σ Q := rn_row rfl ls st σ Q
theorem r_168_46 (ls : a_LS) (st : List Value) (σ : a_HP) (Q : Option Value → a_HP → Prop) : Rn 168 46 ls st σ Q = acR 168 (o_get 8 0 49 ls st σ) ls σ Q := rn_row rfl ls st σ Q
theorem r_168_49 (ls : a_LS) (st : List Value) (σ : a_HP) (Q : Option Value → a_HP → Prop) : Rn 168 49 ls st σ Q = acR 168 (o_ldi 1 50 ls st σ) ls σ Q := rn_row rfl ls st σ Q
theorem r_168_50 (ls : a_LS) (st : List Value) (σ : a_HP) (Q : Option Value → a_HP → Prop) : Rn 168 50 ls st σ Q = acR 168 (o_ivs 138 2 53 ls st σ) ls σ Q := rn_row rfl ls st σ Q
theorem r_168_53 (ls : a_LS) (st : List Value) (σ : a_HP) (Q : Option Value → a_HP → Prop) : Rn 168 53 ls st σ Q = acR 168 (o_go 72 ls st σ) ls σ Q := rn_row rfl ls st σ Q
theorem r_168_56 (ls : a_LS) (st : List Value) (σ : a_HP) (Q : Option Value → a_HP → Prop) : Rn 168 56 ls st σ Q = acR 168 (o_lda 0 57 ls st σ) ls σ Q := rn_row rfl ls st σ Q
theorem r_168_57 (ls : a_LS) (st : List Value) (σ : a_HP) (Q : Option Value → a_HP → Prop) : Rn 168 57 ls st σ Q = acR 168 (o_get 8 0 60 ls st σ) ls σ Q := rn_row rfl ls st σ Q
theorem r_168_60 (ls : a_LS) (st : List Value) (σ : a_HP) (Q : Option Value → a_HP → Prop) : Rn 168 60 ls st σ Q = acR 168 (o_ldi 1 61 ls st σ) ls σ Q := rn_row rfl ls st σ Q
theorem r_168_61 (ls : a_LS) (st : List Value) (σ : a_HP) (Q : Option Value → a_HP → Prop) : Rn 168 61 ls st σ Q = acR 168 (o_ivs 139 2 64 ls st σ) ls σ Q := rn_row rfl ls st σ Q
theorem r_168_64 (ls : a_LS) (st : List Value) (σ : a_HP) (Q : Option Value → a_HP → Prop) : Rn 168 64 ls st σ Q = acR 168 (o_eq 71 67 ls st σ) ls σ Q := rn_row rfl ls st σ Q
theorem r_168_67 (ls : a_LS) (st : List Value) (σ : a_HP) (Q : Option Value → a_HP → Prop) : Rn 168 67 ls st σ Q = acR 168 (o_pi (nI 1) 68 ls st σ) ls σ Q := rn_row rfl ls st σ Q
theorem r_168_68 (ls : a_LS) (st : List Value) (σ : a_HP) (Q : Option Value → a_HP → Prop) : Rn 168 68 ls st σ Q = acR 168 (o_go 72 ls st σ) ls σ Q := rn_row rfl ls st σ Q
theorem r_168_71 (ls : a_LS) (st : List Value) (σ : a_HP) (Q : Option Value → a_HP → Prop) : Rn 168 71 ls st σ Q = acR 168 (o_pi (nI 0) 72 ls st σ) ls σ Q := rn_row rfl ls st σ Q
theorem r_168_72 (ls : a_LS) (st : List Value) (σ : a_HP) (Q : Option Value → a_HP → Prop) : Rn 168 72 ls st σ Q = acR 168 (o_ri ls st σ) ls σ Q := rn_row rfl ls st σ Q
/-! 169: NetLawModel.laws()I -/
theorem cl_169 (x0 : Nat) (σ : a_HP) (Q : Option Value → a_HP → Prop) : Cl 169 [.ref x0] σ Q = Rn 169 0 [some (.ref x0)] [] σ Q := cl_of (Nat.le_of_ble_eq_true rfl) rfl σ Q
theorem r_169_0 (ls : a_LS) (st : List Value) (σ : a_HP) (Q : Option Value → a_HP → Prop) : Rn 169 0 ls st σ Q = acR 169 (o_lda 0 1 ls st σ) ls σ Q := rn_row rfl ls st σ Q
theorem r_169_1 (ls : a_LS) (st : List Value) (σ : a_HP) (Q : Option Value → a_HP → Prop) : Rn 169 1 ls st σ Q = acR 169 (o_get 8 0 4 ls st σ) ls σ Q := rn_row rfl ls st σ Q
theorem r_169_4 (ls : a_LS) (st : List Value) (σ : a_HP) (Q : Option Value → a_HP → Prop) : Rn 169 4 ls st σ Q = acR 169 (o_ivs 140 1 7 ls st σ) ls σ Q := rn_row rfl ls st σ Q
theorem r_169_7 (ls : a_LS) (st : List Value) (σ : a_HP) (Q : Option Value → a_HP → Prop) : Rn 169 7 ls st σ Q = acR 169 (o_ri ls st σ) ls σ Q := rn_row rfl ls st σ Q
/-! 170: NetLawModel.layAside()V -/
theorem cl_170 (x0 : Nat) (σ : a_HP) (Q : Option Value → a_HP → Prop) : Cl 170 [.ref x0] σ Q = Rn 170 0 [some (.ref x0)] [] σ Q := cl_of (Nat.le_of_ble_eq_true rfl) rfl σ Q
theorem r_170_0 (ls : a_LS) (st : List Value) (σ : a_HP) (Q : Option Value → a_HP → Prop) : Rn 170 0 ls st σ Q = acR 170 (o_lda 0 1 ls st σ) ls σ Q := rn_row rfl ls st σ Q
theorem r_170_1 (ls : a_LS) (st : List Value) (σ : a_HP) (Q : Option Value → a_HP → Prop) : Rn 170 1 ls st σ Q = acR 170 (o_get 8 0 4 ls st σ) ls σ Q := rn_row rfl ls st σ Q
theorem r_170_4 (ls : a_LS) (st : List Value) (σ : a_HP) (Q : Option Value → a_HP → Prop) : Rn 170 4 ls st σ Q = acR 170 (o_pi (nI 0) 5 ls st σ) ls σ Q := rn_row rfl ls st σ Q
theorem r_170_5 (ls : a_LS) (st : List Value) (σ : a_HP) (Q : Option Value → a_HP → Prop) : Rn 170 5 ls st σ Q = acR 170 (o_lda 0 6 ls st σ) ls σ Q := rn_row rfl ls st σ Q
theorem r_170_6 (ls : a_LS) (st : List Value) (σ : a_HP) (Q : Option Value → a_HP → Prop) : Rn 170 6 ls st σ Q = acR 170 (o_get 8 2 9 ls st σ) ls σ Q := rn_row rfl ls st σ Q
theorem r_170_9 (ls : a_LS) (st : List Value) (σ : a_HP) (Q : Option Value → a_HP → Prop) : Rn 170 9 ls st σ Q = acR 170 (o_pi (nI 0) 10 ls st σ) ls σ Q := rn_row rfl ls st σ Q
theorem r_170_10 (ls : a_LS) (st : List Value) (σ : a_HP) (Q : Option Value → a_HP → Prop) : Rn 170 10 ls st σ Q = acR 170 (o_pi (nI 61) 12 ls st σ) ls σ Q := rn_row rfl ls st σ Q
theorem r_170_12 (ls : a_LS) (st : List Value) (σ : a_HP) (Q : Option Value → a_HP → Prop) : Rn 170 12 ls st σ Q = acR 170 (o_ivs 130 5 15 ls st σ) ls σ Q := rn_row rfl ls st σ Q
theorem r_170_15 (ls : a_LS) (st : List Value) (σ : a_HP) (Q : Option Value → a_HP → Prop) : Rn 170 15 ls st σ Q = acR 170 (o_rv ls st σ) ls σ Q := rn_row rfl ls st σ Q
/-! 171: NetLawModel.holdsAll(I)I -/
theorem cl_171 (x0 : Nat) (x1 : Int32) (σ : a_HP) (Q : Option Value → a_HP → Prop) : Cl 171 [.ref x0, .int x1] σ Q = Rn 171 0 [some (.ref x0), some (.int x1), none, none, none, none, none] [] σ Q := cl_of (Nat.le_of_ble_eq_true rfl) rfl σ Q
theorem r_171_0 (ls : a_LS) (st : List Value) (σ : a_HP) (Q : Option Value → a_HP → Prop) : Rn 171 0 ls st σ Q = acR 171 (o_ldi 1 1 ls st σ) ls σ Q := rn_row rfl ls st σ Q
theorem r_171_1 (ls : a_LS) (st : List Value) (σ : a_HP) (Q : Option Value → a_HP → Prop) : Rn 171 1 ls st σ Q = acR 171 (o_ivs 143 1 4 ls st σ) ls σ Q := rn_row rfl ls st σ Q
theorem r_171_4 (ls : a_LS) (st : List Value) (σ : a_HP) (Q : Option Value → a_HP → Prop) : Rn 171 4 ls st σ Q = acR 171 (o_ne 12 7 ls st σ) ls σ Q := rn_row rfl ls st σ Q
theorem r_171_7 (ls : a_LS) (st : List Value) (σ : a_HP) (Q : Option Value → a_HP → Prop) : Rn 171 7 ls st σ Q = acR 171 (o_lda 0 8 ls st σ) ls σ Q := rn_row rfl ls st σ Q
theorem r_171_8 (ls : a_LS) (st : List Value) (σ : a_HP) (Q : Option Value → a_HP → Prop) : Rn 171 8 ls st σ Q = acR 171 (o_ivv 8 125 0 11 ls st σ) ls σ Q := rn_row rfl ls st σ Q
theorem r_171_11 (ls : a_LS) (st : List Value) (σ : a_HP) (Q : Option Value → a_HP → Prop) : Rn 171 11 ls st σ Q = acR 171 (o_ri ls st σ) ls σ Q := rn_row rfl ls st σ Q
theorem r_171_12 (ls : a_LS) (st : List Value) (σ : a_HP) (Q : Option Value → a_HP → Prop) : Rn 171 12 ls st σ Q = acR 171 (o_lda 0 13 ls st σ) ls σ Q := rn_row rfl ls st σ Q
theorem r_171_13 (ls : a_LS) (st : List Value) (σ : a_HP) (Q : Option Value → a_HP → Prop) : Rn 171 13 ls st σ Q = acR 171 (o_get 8 0 16 ls st σ) ls σ Q := rn_row rfl ls st σ Q
theorem r_171_16 (ls : a_LS) (st : List Value) (σ : a_HP) (Q : Option Value → a_HP → Prop) : Rn 171 16 ls st σ Q = acR 171 (o_ivs 140 1 19 ls st σ) ls σ Q := rn_row rfl ls st σ Q
theorem r_171_19 (ls : a_LS) (st : List Value) (σ : a_HP) (Q : Option Value → a_HP → Prop) : Rn 171 19 ls st σ Q = acR 171 (o_sti 2 20 ls st σ) ls σ Q := rn_row rfl ls st σ Q
theorem r_171_20 (ls : a_LS) (st : List Value) (σ : a_HP) (Q : Option Value → a_HP → Prop) : Rn 171 20 ls st σ Q = acR 171 (o_pi (-1) 21 ls st σ) ls σ Q := rn_row rfl ls st σ Q
theorem r_171_21 (ls : a_LS) (st : List Value) (σ : a_HP) (Q : Option Value → a_HP → Prop) : Rn 171 21 ls st σ Q = acR 171 (o_sti 3 22 ls st σ) ls σ Q := rn_row rfl ls st σ Q
theorem r_171_22 (ls : a_LS) (st : List Value) (σ : a_HP) (Q : Option Value → a_HP → Prop) : Rn 171 22 ls st σ Q = acR 171 (o_pi (-1) 23 ls st σ) ls σ Q := rn_row rfl ls st σ Q
theorem r_171_23 (ls : a_LS) (st : List Value) (σ : a_HP) (Q : Option Value → a_HP → Prop) : Rn 171 23 ls st σ Q = acR 171 (o_sti 4 25 ls st σ) ls σ Q := rn_row rfl ls st σ Q
theorem r_171_25 (ls : a_LS) (st : List Value) (σ : a_HP) (Q : Option Value → a_HP → Prop) : Rn 171 25 ls st σ Q = acR 171 (o_pi (nI 0) 26 ls st σ) ls σ Q := rn_row rfl ls st σ Q
theorem r_171_26 (ls : a_LS) (st : List Value) (σ : a_HP) (Q : Option Value → a_HP → Prop) : Rn 171 26 ls st σ Q = acR 171 (o_sti 5 28 ls st σ) ls σ Q := rn_row rfl ls st σ Q
theorem r_171_28 (ls : a_LS) (st : List Value) (σ : a_HP) (Q : Option Value → a_HP → Prop) : Rn 171 28 ls st σ Q = acR 171 (o_ldi 5 30 ls st σ) ls σ Q := rn_row rfl ls st σ Q
theorem r_171_30 (ls : a_LS) (st : List Value) (σ : a_HP) (Q : Option Value → a_HP → Prop) : Rn 171 30 ls st σ Q = acR 171 (o_pi (nI 16) 32 ls st σ) ls σ Q := rn_row rfl ls st σ Q
theorem r_171_32 (ls : a_LS) (st : List Value) (σ : a_HP) (Q : Option Value → a_HP → Prop) : Rn 171 32 ls st σ Q = acR 171 (o_cge 115 35 ls st σ) ls σ Q := rn_row rfl ls st σ Q
theorem r_171_35 (ls : a_LS) (st : List Value) (σ : a_HP) (Q : Option Value → a_HP → Prop) : Rn 171 35 ls st σ Q = acR 171 (o_lda 0 36 ls st σ) ls σ Q := rn_row rfl ls st σ Q
theorem r_171_36 (ls : a_LS) (st : List Value) (σ : a_HP) (Q : Option Value → a_HP → Prop) : Rn 171 36 ls st σ Q = acR 171 (o_get 8 0 39 ls st σ) ls σ Q := rn_row rfl ls st σ Q
theorem r_171_39 (ls : a_LS) (st : List Value) (σ : a_HP) (Q : Option Value → a_HP → Prop) : Rn 171 39 ls st σ Q = acR 171 (o_pi (nI 20) 41 ls st σ) ls σ Q := rn_row rfl ls st σ Q
theorem r_171_41 (ls : a_LS) (st : List Value) (σ : a_HP) (Q : Option Value → a_HP → Prop) : Rn 171 41 ls st σ Q = acR 171 (o_ldi 5 43 ls st σ) ls σ Q := rn_row rfl ls st σ Q
theorem r_171_43 (ls : a_LS) (st : List Value) (σ : a_HP) (Q : Option Value → a_HP → Prop) : Rn 171 43 ls st σ Q = acR 171 (o_bi f_add 44 ls st σ) ls σ Q := rn_row rfl ls st σ Q
theorem r_171_44 (ls : a_LS) (st : List Value) (σ : a_HP) (Q : Option Value → a_HP → Prop) : Rn 171 44 ls st σ Q = acR 171 (o_ial 45 ls st σ) ls σ Q := rn_row rfl ls st σ Q
theorem r_171_45 (ls : a_LS) (st : List Value) (σ : a_HP) (Q : Option Value → a_HP → Prop) : Rn 171 45 ls st σ Q = acR 171 (o_le 109 48 ls st σ) ls σ Q := rn_row rfl ls st σ Q
theorem r_171_48 (ls : a_LS) (st : List Value) (σ : a_HP) (Q : Option Value → a_HP → Prop) : Rn 171 48 ls st σ Q = acR 171 (o_lda 0 49 ls st σ) ls σ Q := rn_row rfl ls st σ Q
theorem r_171_49 (ls : a_LS) (st : List Value) (σ : a_HP) (Q : Option Value → a_HP → Prop) : Rn 171 49 ls st σ Q = acR 171 (o_ivv 8 170 0 52 ls st σ) ls σ Q := rn_row rfl ls st σ Q
theorem r_171_52 (ls : a_LS) (st : List Value) (σ : a_HP) (Q : Option Value → a_HP → Prop) : Rn 171 52 ls st σ Q = acR 171 (o_lda 0 53 ls st σ) ls σ Q := rn_row rfl ls st σ Q
theorem r_171_53 (ls : a_LS) (st : List Value) (σ : a_HP) (Q : Option Value → a_HP → Prop) : Rn 171 53 ls st σ Q = acR 171 (o_get 8 2 56 ls st σ) ls σ Q := rn_row rfl ls st σ Q
theorem r_171_56 (ls : a_LS) (st : List Value) (σ : a_HP) (Q : Option Value → a_HP → Prop) : Rn 171 56 ls st σ Q = acR 171 (o_pi (nI 20) 58 ls st σ) ls σ Q := rn_row rfl ls st σ Q
theorem r_171_58 (ls : a_LS) (st : List Value) (σ : a_HP) (Q : Option Value → a_HP → Prop) : Rn 171 58 ls st σ Q = acR 171 (o_ldi 5 60 ls st σ) ls σ Q := rn_row rfl ls st σ Q
theorem r_171_60 (ls : a_LS) (st : List Value) (σ : a_HP) (Q : Option Value → a_HP → Prop) : Rn 171 60 ls st σ Q = acR 171 (o_bi f_add 61 ls st σ) ls σ Q := rn_row rfl ls st σ Q
theorem r_171_61 (ls : a_LS) (st : List Value) (σ : a_HP) (Q : Option Value → a_HP → Prop) : Rn 171 61 ls st σ Q = acR 171 (o_pi (nI 0) 62 ls st σ) ls σ Q := rn_row rfl ls st σ Q
theorem r_171_62 (ls : a_LS) (st : List Value) (σ : a_HP) (Q : Option Value → a_HP → Prop) : Rn 171 62 ls st σ Q = acR 171 (o_ias 63 ls st σ) ls σ Q := rn_row rfl ls st σ Q
theorem r_171_63 (ls : a_LS) (st : List Value) (σ : a_HP) (Q : Option Value → a_HP → Prop) : Rn 171 63 ls st σ Q = acR 171 (o_ldi 2 64 ls st σ) ls σ Q := rn_row rfl ls st σ Q
theorem r_171_64 (ls : a_LS) (st : List Value) (σ : a_HP) (Q : Option Value → a_HP → Prop) : Rn 171 64 ls st σ Q = acR 171 (o_lda 0 65 ls st σ) ls σ Q := rn_row rfl ls st σ Q
theorem r_171_65 (ls : a_LS) (st : List Value) (σ : a_HP) (Q : Option Value → a_HP → Prop) : Rn 171 65 ls st σ Q = acR 171 (o_get 8 2 68 ls st σ) ls σ Q := rn_row rfl ls st σ Q
theorem r_171_68 (ls : a_LS) (st : List Value) (σ : a_HP) (Q : Option Value → a_HP → Prop) : Rn 171 68 ls st σ Q = acR 171 (o_ivs 140 1 71 ls st σ) ls σ Q := rn_row rfl ls st σ Q
theorem r_171_71 (ls : a_LS) (st : List Value) (σ : a_HP) (Q : Option Value → a_HP → Prop) : Rn 171 71 ls st σ Q = acR 171 (o_pi (-1) 72 ls st σ) ls σ Q := rn_row rfl ls st σ Q
theorem r_171_72 (ls : a_LS) (st : List Value) (σ : a_HP) (Q : Option Value → a_HP → Prop) : Rn 171 72 ls st σ Q = acR 171 (o_bi f_xor 73 ls st σ) ls σ Q := rn_row rfl ls st σ Q
theorem r_171_73 (ls : a_LS) (st : List Value) (σ : a_HP) (Q : Option Value → a_HP → Prop) : Rn 171 73 ls st σ Q = acR 171 (o_bi f_and 74 ls st σ) ls σ Q := rn_row rfl ls st σ Q
theorem r_171_74 (ls : a_LS) (st : List Value) (σ : a_HP) (Q : Option Value → a_HP → Prop) : Rn 171 74 ls st σ Q = acR 171 (o_ivs 124 1 77 ls st σ) ls σ Q := rn_row rfl ls st σ Q
theorem r_171_77 (ls : a_LS) (st : List Value) (σ : a_HP) (Q : Option Value → a_HP → Prop) : Rn 171 77 ls st σ Q = acR 171 (o_sti 6 79 ls st σ) ls σ Q := rn_row rfl ls st σ Q
theorem r_171_79 (ls : a_LS) (st : List Value) (σ : a_HP) (Q : Option Value → a_HP → Prop) : Rn 171 79 ls st σ Q = acR 171 (o_ldi 6 81 ls st σ) ls σ Q := rn_row rfl ls st σ Q
theorem r_171_81 (ls : a_LS) (st : List Value) (σ : a_HP) (Q : Option Value → a_HP → Prop) : Rn 171 81 ls st σ Q = acR 171 (o_ldi 4 83 ls st σ) ls σ Q := rn_row rfl ls st σ Q
theorem r_171_83 (ls : a_LS) (st : List Value) (σ : a_HP) (Q : Option Value → a_HP → Prop) : Rn 171 83 ls st σ Q = acR 171 (o_cle 91 86 ls st σ) ls σ Q := rn_row rfl ls st σ Q
theorem r_171_86 (ls : a_LS) (st : List Value) (σ : a_HP) (Q : Option Value → a_HP → Prop) : Rn 171 86 ls st σ Q = acR 171 (o_ldi 5 88 ls st σ) ls σ Q := rn_row rfl ls st σ Q
theorem r_171_88 (ls : a_LS) (st : List Value) (σ : a_HP) (Q : Option Value → a_HP → Prop) : Rn 171 88 ls st σ Q = acR 171 (o_go 92 ls st σ) ls σ Q := rn_row rfl ls st σ Q
theorem r_171_91 (ls : a_LS) (st : List Value) (σ : a_HP) (Q : Option Value → a_HP → Prop) : Rn 171 91 ls st σ Q = acR 171 (o_ldi 3 92 ls st σ) ls σ Q := rn_row rfl ls st σ Q
theorem r_171_92 (ls : a_LS) (st : List Value) (σ : a_HP) (Q : Option Value → a_HP → Prop) : Rn 171 92 ls st σ Q = acR 171 (o_sti 3 93 ls st σ) ls σ Q := rn_row rfl ls st σ Q
theorem r_171_93 (ls : a_LS) (st : List Value) (σ : a_HP) (Q : Option Value → a_HP → Prop) : Rn 171 93 ls st σ Q = acR 171 (o_ldi 6 95 ls st σ) ls σ Q := rn_row rfl ls st σ Q
theorem r_171_95 (ls : a_LS) (st : List Value) (σ : a_HP) (Q : Option Value → a_HP → Prop) : Rn 171 95 ls st σ Q = acR 171 (o_ldi 4 97 ls st σ) ls σ Q := rn_row rfl ls st σ Q
theorem r_171_97 (ls : a_LS) (st : List Value) (σ : a_HP) (Q : Option Value → a_HP → Prop) : Rn 171 97 ls st σ Q = acR 171 (o_cle 105 100 ls st σ) ls σ Q := rn_row rfl ls st σ Q
theorem r_171_100 (ls : a_LS) (st : List Value) (σ : a_HP) (Q : Option Value → a_HP → Prop) : Rn 171 100 ls st σ Q = acR 171 (o_ldi 6 102 ls st σ) ls σ Q := rn_row rfl ls st σ Q
theorem r_171_102 (ls : a_LS) (st : List Value) (σ : a_HP) (Q : Option Value → a_HP → Prop) : Rn 171 102 ls st σ Q = acR 171 (o_go 107 ls st σ) ls σ Q := rn_row rfl ls st σ Q
theorem r_171_105 (ls : a_LS) (st : List Value) (σ : a_HP) (Q : Option Value → a_HP → Prop) : Rn 171 105 ls st σ Q = acR 171 (o_ldi 4 107 ls st σ) ls σ Q := rn_row rfl ls st σ Q
theorem r_171_107 (ls : a_LS) (st : List Value) (σ : a_HP) (Q : Option Value → a_HP → Prop) : Rn 171 107 ls st σ Q = acR 171 (o_sti 4 109 ls st σ) ls σ Q := rn_row rfl ls st σ Q
theorem r_171_109 (ls : a_LS) (st : List Value) (σ : a_HP) (Q : Option Value → a_HP → Prop) : Rn 171 109 ls st σ Q = acR 171 (o_inc 5 (nI 1) 112 ls st σ) ls σ Q := rn_row rfl ls st σ Q
theorem r_171_112 (ls : a_LS) (st : List Value) (σ : a_HP) (Q : Option Value → a_HP → Prop) : Rn 171 112 ls st σ Q = acR 171 (o_go 28 ls st σ) ls σ Q := rn_row rfl ls st σ Q
theorem r_171_115 (ls : a_LS) (st : List Value) (σ : a_HP) (Q : Option Value → a_HP → Prop) : Rn 171 115 ls st σ Q = acR 171 (o_ldi 3 116 ls st σ) ls σ Q := rn_row rfl ls st σ Q
theorem r_171_116 (ls : a_LS) (st : List Value) (σ : a_HP) (Q : Option Value → a_HP → Prop) : Rn 171 116 ls st σ Q = acR 171 (o_pi (-1) 117 ls st σ) ls σ Q := rn_row rfl ls st σ Q
theorem r_171_117 (ls : a_LS) (st : List Value) (σ : a_HP) (Q : Option Value → a_HP → Prop) : Rn 171 117 ls st σ Q = acR 171 (o_cne 124 120 ls st σ) ls σ Q := rn_row rfl ls st σ Q
theorem r_171_120 (ls : a_LS) (st : List Value) (σ : a_HP) (Q : Option Value → a_HP → Prop) : Rn 171 120 ls st σ Q = acR 171 (o_pi (-1) 121 ls st σ) ls σ Q := rn_row rfl ls st σ Q
theorem r_171_121 (ls : a_LS) (st : List Value) (σ : a_HP) (Q : Option Value → a_HP → Prop) : Rn 171 121 ls st σ Q = acR 171 (o_go 134 ls st σ) ls σ Q := rn_row rfl ls st σ Q
theorem r_171_124 (ls : a_LS) (st : List Value) (σ : a_HP) (Q : Option Value → a_HP → Prop) : Rn 171 124 ls st σ Q = acR 171 (o_ldi 1 125 ls st σ) ls σ Q := rn_row rfl ls st σ Q
theorem r_171_125 (ls : a_LS) (st : List Value) (σ : a_HP) (Q : Option Value → a_HP → Prop) : Rn 171 125 ls st σ Q = acR 171 (o_ne 132 128 ls st σ) ls σ Q := rn_row rfl ls st σ Q
theorem r_171_128 (ls : a_LS) (st : List Value) (σ : a_HP) (Q : Option Value → a_HP → Prop) : Rn 171 128 ls st σ Q = acR 171 (o_ldi 3 129 ls st σ) ls σ Q := rn_row rfl ls st σ Q
theorem r_171_129 (ls : a_LS) (st : List Value) (σ : a_HP) (Q : Option Value → a_HP → Prop) : Rn 171 129 ls st σ Q = acR 171 (o_go 134 ls st σ) ls σ Q := rn_row rfl ls st σ Q
theorem r_171_132 (ls : a_LS) (st : List Value) (σ : a_HP) (Q : Option Value → a_HP → Prop) : Rn 171 132 ls st σ Q = acR 171 (o_ldi 4 134 ls st σ) ls σ Q := rn_row rfl ls st σ Q
theorem r_171_134 (ls : a_LS) (st : List Value) (σ : a_HP) (Q : Option Value → a_HP → Prop) : Rn 171 134 ls st σ Q = acR 171 (o_ri ls st σ) ls σ Q := rn_row rfl ls st σ Q
/-! 172: NetLawModel.dropped(I)I -/
theorem cl_172 (x0 : Nat) (x1 : Int32) (σ : a_HP) (Q : Option Value → a_HP → Prop) : Cl 172 [.ref x0, .int x1] σ Q = Rn 172 0 [some (.ref x0), some (.int x1), none, none, none, none, none, none] [] σ Q := cl_of (Nat.le_of_ble_eq_true rfl) rfl σ Q
theorem r_172_0 (ls : a_LS) (st : List Value) (σ : a_HP) (Q : Option Value → a_HP → Prop) : Rn 172 0 ls st σ Q = acR 172 (o_ldi 1 1 ls st σ) ls σ Q := rn_row rfl ls st σ Q
theorem r_172_1 (ls : a_LS) (st : List Value) (σ : a_HP) (Q : Option Value → a_HP → Prop) : Rn 172 1 ls st σ Q = acR 172 (o_ivs 142 1 4 ls st σ) ls σ Q := rn_row rfl ls st σ Q
theorem r_172_4 (ls : a_LS) (st : List Value) (σ : a_HP) (Q : Option Value → a_HP → Prop) : Rn 172 4 ls st σ Q = acR 172 (o_ne 12 7 ls st σ) ls σ Q := rn_row rfl ls st σ Q
theorem r_172_7 (ls : a_LS) (st : List Value) (σ : a_HP) (Q : Option Value → a_HP → Prop) : Rn 172 7 ls st σ Q = acR 172 (o_lda 0 8 ls st σ) ls σ Q := rn_row rfl ls st σ Q
theorem r_172_8 (ls : a_LS) (st : List Value) (σ : a_HP) (Q : Option Value → a_HP → Prop) : Rn 172 8 ls st σ Q = acR 172 (o_ivv 8 125 0 11 ls st σ) ls σ Q := rn_row rfl ls st σ Q
theorem r_172_11 (ls : a_LS) (st : List Value) (σ : a_HP) (Q : Option Value → a_HP → Prop) : Rn 172 11 ls st σ Q = acR 172 (o_ri ls st σ) ls σ Q := rn_row rfl ls st σ Q
theorem r_172_12 (ls : a_LS) (st : List Value) (σ : a_HP) (Q : Option Value → a_HP → Prop) : Rn 172 12 ls st σ Q = acR 172 (o_lda 0 13 ls st σ) ls σ Q := rn_row rfl ls st σ Q
theorem r_172_13 (ls : a_LS) (st : List Value) (σ : a_HP) (Q : Option Value → a_HP → Prop) : Rn 172 13 ls st σ Q = acR 172 (o_get 8 0 16 ls st σ) ls σ Q := rn_row rfl ls st σ Q
theorem r_172_16 (ls : a_LS) (st : List Value) (σ : a_HP) (Q : Option Value → a_HP → Prop) : Rn 172 16 ls st σ Q = acR 172 (o_ldi 1 17 ls st σ) ls σ Q := rn_row rfl ls st σ Q
theorem r_172_17 (ls : a_LS) (st : List Value) (σ : a_HP) (Q : Option Value → a_HP → Prop) : Rn 172 17 ls st σ Q = acR 172 (o_ivs 139 2 20 ls st σ) ls σ Q := rn_row rfl ls st σ Q
theorem r_172_20 (ls : a_LS) (st : List Value) (σ : a_HP) (Q : Option Value → a_HP → Prop) : Rn 172 20 ls st σ Q = acR 172 (o_ne 25 23 ls st σ) ls σ Q := rn_row rfl ls st σ Q
theorem r_172_23 (ls : a_LS) (st : List Value) (σ : a_HP) (Q : Option Value → a_HP → Prop) : Rn 172 23 ls st σ Q = acR 172 (o_pi (-1) 24 ls st σ) ls σ Q := rn_row rfl ls st σ Q
theorem r_172_24 (ls : a_LS) (st : List Value) (σ : a_HP) (Q : Option Value → a_HP → Prop) : Rn 172 24 ls st σ Q = acR 172 (o_ri ls st σ) ls σ Q := rn_row rfl ls st σ Q
theorem r_172_25 (ls : a_LS) (st : List Value) (σ : a_HP) (Q : Option Value → a_HP → Prop) : Rn 172 25 ls st σ Q = acR 172 (o_pi (-1) 26 ls st σ) ls σ Q := rn_row rfl ls st σ Q
theorem r_172_26 (ls : a_LS) (st : List Value) (σ : a_HP) (Q : Option Value → a_HP → Prop) : Rn 172 26 ls st σ Q = acR 172 (o_sti 2 27 ls st σ) ls σ Q := rn_row rfl ls st σ Q
theorem r_172_27 (ls : a_LS) (st : List Value) (σ : a_HP) (Q : Option Value → a_HP → Prop) : Rn 172 27 ls st σ Q = acR 172 (o_pi (nI 1) 28 ls st σ) ls σ Q := rn_row rfl ls st σ Q
theorem r_172_28 (ls : a_LS) (st : List Value) (σ : a_HP) (Q : Option Value → a_HP → Prop) : Rn 172 28 ls st σ Q = acR 172 (o_sti 3 29 ls st σ) ls σ Q := rn_row rfl ls st σ Q
theorem r_172_29 (ls : a_LS) (st : List Value) (σ : a_HP) (Q : Option Value → a_HP → Prop) : Rn 172 29 ls st σ Q = acR 172 (o_ldi 3 30 ls st σ) ls σ Q := rn_row rfl ls st σ Q
theorem r_172_30 (ls : a_LS) (st : List Value) (σ : a_HP) (Q : Option Value → a_HP → Prop) : Rn 172 30 ls st σ Q = acR 172 (o_pi (nI 16) 32 ls st σ) ls σ Q := rn_row rfl ls st σ Q
theorem r_172_32 (ls : a_LS) (st : List Value) (σ : a_HP) (Q : Option Value → a_HP → Prop) : Rn 172 32 ls st σ Q = acR 172 (o_cge 198 35 ls st σ) ls σ Q := rn_row rfl ls st σ Q
theorem r_172_35 (ls : a_LS) (st : List Value) (σ : a_HP) (Q : Option Value → a_HP → Prop) : Rn 172 35 ls st σ Q = acR 172 (o_lda 0 36 ls st σ) ls σ Q := rn_row rfl ls st σ Q
theorem r_172_36 (ls : a_LS) (st : List Value) (σ : a_HP) (Q : Option Value → a_HP → Prop) : Rn 172 36 ls st σ Q = acR 172 (o_ivv 8 170 0 39 ls st σ) ls σ Q := rn_row rfl ls st σ Q
theorem r_172_39 (ls : a_LS) (st : List Value) (σ : a_HP) (Q : Option Value → a_HP → Prop) : Rn 172 39 ls st σ Q = acR 172 (o_pi (nI 0) 40 ls st σ) ls σ Q := rn_row rfl ls st σ Q
theorem r_172_40 (ls : a_LS) (st : List Value) (σ : a_HP) (Q : Option Value → a_HP → Prop) : Rn 172 40 ls st σ Q = acR 172 (o_sti 4 42 ls st σ) ls σ Q := rn_row rfl ls st σ Q
theorem r_172_42 (ls : a_LS) (st : List Value) (σ : a_HP) (Q : Option Value → a_HP → Prop) : Rn 172 42 ls st σ Q = acR 172 (o_pi (nI 1) 43 ls st σ) ls σ Q := rn_row rfl ls st σ Q
theorem r_172_43 (ls : a_LS) (st : List Value) (σ : a_HP) (Q : Option Value → a_HP → Prop) : Rn 172 43 ls st σ Q = acR 172 (o_sti 5 45 ls st σ) ls σ Q := rn_row rfl ls st σ Q
theorem r_172_45 (ls : a_LS) (st : List Value) (σ : a_HP) (Q : Option Value → a_HP → Prop) : Rn 172 45 ls st σ Q = acR 172 (o_pi (nI 0) 46 ls st σ) ls σ Q := rn_row rfl ls st σ Q
theorem r_172_46 (ls : a_LS) (st : List Value) (σ : a_HP) (Q : Option Value → a_HP → Prop) : Rn 172 46 ls st σ Q = acR 172 (o_sti 6 48 ls st σ) ls σ Q := rn_row rfl ls st σ Q
theorem r_172_48 (ls : a_LS) (st : List Value) (σ : a_HP) (Q : Option Value → a_HP → Prop) : Rn 172 48 ls st σ Q = acR 172 (o_ldi 6 50 ls st σ) ls σ Q := rn_row rfl ls st σ Q
theorem r_172_50 (ls : a_LS) (st : List Value) (σ : a_HP) (Q : Option Value → a_HP → Prop) : Rn 172 50 ls st σ Q = acR 172 (o_pi (nI 4) 51 ls st σ) ls σ Q := rn_row rfl ls st σ Q
theorem r_172_51 (ls : a_LS) (st : List Value) (σ : a_HP) (Q : Option Value → a_HP → Prop) : Rn 172 51 ls st σ Q = acR 172 (o_cge 122 54 ls st σ) ls σ Q := rn_row rfl ls st σ Q
theorem r_172_54 (ls : a_LS) (st : List Value) (σ : a_HP) (Q : Option Value → a_HP → Prop) : Rn 172 54 ls st σ Q = acR 172 (o_ldi 1 55 ls st σ) ls σ Q := rn_row rfl ls st σ Q
theorem r_172_55 (ls : a_LS) (st : List Value) (σ : a_HP) (Q : Option Value → a_HP → Prop) : Rn 172 55 ls st σ Q = acR 172 (o_ldi 6 57 ls st σ) ls σ Q := rn_row rfl ls st σ Q
theorem r_172_57 (ls : a_LS) (st : List Value) (σ : a_HP) (Q : Option Value → a_HP → Prop) : Rn 172 57 ls st σ Q = acR 172 (o_ivs 136 2 60 ls st σ) ls σ Q := rn_row rfl ls st σ Q
theorem r_172_60 (ls : a_LS) (st : List Value) (σ : a_HP) (Q : Option Value → a_HP → Prop) : Rn 172 60 ls st σ Q = acR 172 (o_sti 7 62 ls st σ) ls σ Q := rn_row rfl ls st σ Q
theorem r_172_62 (ls : a_LS) (st : List Value) (σ : a_HP) (Q : Option Value → a_HP → Prop) : Rn 172 62 ls st σ Q = acR 172 (o_ldi 3 63 ls st σ) ls σ Q := rn_row rfl ls st σ Q
theorem r_172_63 (ls : a_LS) (st : List Value) (σ : a_HP) (Q : Option Value → a_HP → Prop) : Rn 172 63 ls st σ Q = acR 172 (o_ldi 6 65 ls st σ) ls σ Q := rn_row rfl ls st σ Q
theorem r_172_65 (ls : a_LS) (st : List Value) (σ : a_HP) (Q : Option Value → a_HP → Prop) : Rn 172 65 ls st σ Q = acR 172 (o_ivs 123 2 68 ls st σ) ls σ Q := rn_row rfl ls st σ Q
theorem r_172_68 (ls : a_LS) (st : List Value) (σ : a_HP) (Q : Option Value → a_HP → Prop) : Rn 172 68 ls st σ Q = acR 172 (o_eq 116 71 ls st σ) ls σ Q := rn_row rfl ls st σ Q
theorem r_172_71 (ls : a_LS) (st : List Value) (σ : a_HP) (Q : Option Value → a_HP → Prop) : Rn 172 71 ls st σ Q = acR 172 (o_ldi 5 73 ls st σ) ls σ Q := rn_row rfl ls st σ Q
theorem r_172_73 (ls : a_LS) (st : List Value) (σ : a_HP) (Q : Option Value → a_HP → Prop) : Rn 172 73 ls st σ Q = acR 172 (o_eq 93 76 ls st σ) ls σ Q := rn_row rfl ls st σ Q
theorem r_172_76 (ls : a_LS) (st : List Value) (σ : a_HP) (Q : Option Value → a_HP → Prop) : Rn 172 76 ls st σ Q = acR 172 (o_lda 0 77 ls st σ) ls σ Q := rn_row rfl ls st σ Q
theorem r_172_77 (ls : a_LS) (st : List Value) (σ : a_HP) (Q : Option Value → a_HP → Prop) : Rn 172 77 ls st σ Q = acR 172 (o_get 8 0 80 ls st σ) ls σ Q := rn_row rfl ls st σ Q
theorem r_172_80 (ls : a_LS) (st : List Value) (σ : a_HP) (Q : Option Value → a_HP → Prop) : Rn 172 80 ls st σ Q = acR 172 (o_pi (nI 20) 82 ls st σ) ls σ Q := rn_row rfl ls st σ Q
theorem r_172_82 (ls : a_LS) (st : List Value) (σ : a_HP) (Q : Option Value → a_HP → Prop) : Rn 172 82 ls st σ Q = acR 172 (o_ldi 7 84 ls st σ) ls σ Q := rn_row rfl ls st σ Q
theorem r_172_84 (ls : a_LS) (st : List Value) (σ : a_HP) (Q : Option Value → a_HP → Prop) : Rn 172 84 ls st σ Q = acR 172 (o_bi f_add 85 ls st σ) ls σ Q := rn_row rfl ls st σ Q
theorem r_172_85 (ls : a_LS) (st : List Value) (σ : a_HP) (Q : Option Value → a_HP → Prop) : Rn 172 85 ls st σ Q = acR 172 (o_ial 86 ls st σ) ls σ Q := rn_row rfl ls st σ Q
theorem r_172_86 (ls : a_LS) (st : List Value) (σ : a_HP) (Q : Option Value → a_HP → Prop) : Rn 172 86 ls st σ Q = acR 172 (o_le 93 89 ls st σ) ls σ Q := rn_row rfl ls st σ Q
theorem r_172_89 (ls : a_LS) (st : List Value) (σ : a_HP) (Q : Option Value → a_HP → Prop) : Rn 172 89 ls st σ Q = acR 172 (o_pi (nI 1) 90 ls st σ) ls σ Q := rn_row rfl ls st σ Q
theorem r_172_90 (ls : a_LS) (st : List Value) (σ : a_HP) (Q : Option Value → a_HP → Prop) : Rn 172 90 ls st σ Q = acR 172 (o_go 94 ls st σ) ls σ Q := rn_row rfl ls st σ Q
theorem r_172_93 (ls : a_LS) (st : List Value) (σ : a_HP) (Q : Option Value → a_HP → Prop) : Rn 172 93 ls st σ Q = acR 172 (o_pi (nI 0) 94 ls st σ) ls σ Q := rn_row rfl ls st σ Q
theorem r_172_94 (ls : a_LS) (st : List Value) (σ : a_HP) (Q : Option Value → a_HP → Prop) : Rn 172 94 ls st σ Q = acR 172 (o_sti 5 96 ls st σ) ls σ Q := rn_row rfl ls st σ Q
theorem r_172_96 (ls : a_LS) (st : List Value) (σ : a_HP) (Q : Option Value → a_HP → Prop) : Rn 172 96 ls st σ Q = acR 172 (o_ldi 4 98 ls st σ) ls σ Q := rn_row rfl ls st σ Q
theorem r_172_98 (ls : a_LS) (st : List Value) (σ : a_HP) (Q : Option Value → a_HP → Prop) : Rn 172 98 ls st σ Q = acR 172 (o_pi (nI 1) 99 ls st σ) ls σ Q := rn_row rfl ls st σ Q
theorem r_172_99 (ls : a_LS) (st : List Value) (σ : a_HP) (Q : Option Value → a_HP → Prop) : Rn 172 99 ls st σ Q = acR 172 (o_ldi 7 101 ls st σ) ls σ Q := rn_row rfl ls st σ Q
theorem r_172_101 (ls : a_LS) (st : List Value) (σ : a_HP) (Q : Option Value → a_HP → Prop) : Rn 172 101 ls st σ Q = acR 172 (o_bi f_shl 102 ls st σ) ls σ Q := rn_row rfl ls st σ Q
theorem r_172_102 (ls : a_LS) (st : List Value) (σ : a_HP) (Q : Option Value → a_HP → Prop) : Rn 172 102 ls st σ Q = acR 172 (o_bi f_or 103 ls st σ) ls σ Q := rn_row rfl ls st σ Q
theorem r_172_103 (ls : a_LS) (st : List Value) (σ : a_HP) (Q : Option Value → a_HP → Prop) : Rn 172 103 ls st σ Q = acR 172 (o_sti 4 105 ls st σ) ls σ Q := rn_row rfl ls st σ Q
theorem r_172_105 (ls : a_LS) (st : List Value) (σ : a_HP) (Q : Option Value → a_HP → Prop) : Rn 172 105 ls st σ Q = acR 172 (o_lda 0 106 ls st σ) ls σ Q := rn_row rfl ls st σ Q
theorem r_172_106 (ls : a_LS) (st : List Value) (σ : a_HP) (Q : Option Value → a_HP → Prop) : Rn 172 106 ls st σ Q = acR 172 (o_get 8 2 109 ls st σ) ls σ Q := rn_row rfl ls st σ Q
theorem r_172_109 (ls : a_LS) (st : List Value) (σ : a_HP) (Q : Option Value → a_HP → Prop) : Rn 172 109 ls st σ Q = acR 172 (o_pi (nI 20) 111 ls st σ) ls σ Q := rn_row rfl ls st σ Q
theorem r_172_111 (ls : a_LS) (st : List Value) (σ : a_HP) (Q : Option Value → a_HP → Prop) : Rn 172 111 ls st σ Q = acR 172 (o_ldi 7 113 ls st σ) ls σ Q := rn_row rfl ls st σ Q
theorem r_172_113 (ls : a_LS) (st : List Value) (σ : a_HP) (Q : Option Value → a_HP → Prop) : Rn 172 113 ls st σ Q = acR 172 (o_bi f_add 114 ls st σ) ls σ Q := rn_row rfl ls st σ Q
theorem r_172_114 (ls : a_LS) (st : List Value) (σ : a_HP) (Q : Option Value → a_HP → Prop) : Rn 172 114 ls st σ Q = acR 172 (o_pi (nI 0) 115 ls st σ) ls σ Q := rn_row rfl ls st σ Q
theorem r_172_115 (ls : a_LS) (st : List Value) (σ : a_HP) (Q : Option Value → a_HP → Prop) : Rn 172 115 ls st σ Q = acR 172 (o_ias 116 ls st σ) ls σ Q := rn_row rfl ls st σ Q
theorem r_172_116 (ls : a_LS) (st : List Value) (σ : a_HP) (Q : Option Value → a_HP → Prop) : Rn 172 116 ls st σ Q = acR 172 (o_inc 6 (nI 1) 119 ls st σ) ls σ Q := rn_row rfl ls st σ Q
theorem r_172_119 (ls : a_LS) (st : List Value) (σ : a_HP) (Q : Option Value → a_HP → Prop) : Rn 172 119 ls st σ Q = acR 172 (o_go 48 ls st σ) ls σ Q := rn_row rfl ls st σ Q
theorem r_172_122 (ls : a_LS) (st : List Value) (σ : a_HP) (Q : Option Value → a_HP → Prop) : Rn 172 122 ls st σ Q = acR 172 (o_ldi 2 123 ls st σ) ls σ Q := rn_row rfl ls st σ Q
theorem r_172_123 (ls : a_LS) (st : List Value) (σ : a_HP) (Q : Option Value → a_HP → Prop) : Rn 172 123 ls st σ Q = acR 172 (o_pi (-1) 124 ls st σ) ls σ Q := rn_row rfl ls st σ Q
theorem r_172_124 (ls : a_LS) (st : List Value) (σ : a_HP) (Q : Option Value → a_HP → Prop) : Rn 172 124 ls st σ Q = acR 172 (o_ceq 157 127 ls st σ) ls σ Q := rn_row rfl ls st σ Q
theorem r_172_127 (ls : a_LS) (st : List Value) (σ : a_HP) (Q : Option Value → a_HP → Prop) : Rn 172 127 ls st σ Q = acR 172 (o_ldi 4 129 ls st σ) ls σ Q := rn_row rfl ls st σ Q
theorem r_172_129 (ls : a_LS) (st : List Value) (σ : a_HP) (Q : Option Value → a_HP → Prop) : Rn 172 129 ls st σ Q = acR 172 (o_ivs 124 1 132 ls st σ) ls σ Q := rn_row rfl ls st σ Q
theorem r_172_132 (ls : a_LS) (st : List Value) (σ : a_HP) (Q : Option Value → a_HP → Prop) : Rn 172 132 ls st σ Q = acR 172 (o_ldi 2 133 ls st σ) ls σ Q := rn_row rfl ls st σ Q
theorem r_172_133 (ls : a_LS) (st : List Value) (σ : a_HP) (Q : Option Value → a_HP → Prop) : Rn 172 133 ls st σ Q = acR 172 (o_ivs 124 1 136 ls st σ) ls σ Q := rn_row rfl ls st σ Q
theorem r_172_136 (ls : a_LS) (st : List Value) (σ : a_HP) (Q : Option Value → a_HP → Prop) : Rn 172 136 ls st σ Q = acR 172 (o_clt 157 139 ls st σ) ls σ Q := rn_row rfl ls st σ Q
theorem r_172_139 (ls : a_LS) (st : List Value) (σ : a_HP) (Q : Option Value → a_HP → Prop) : Rn 172 139 ls st σ Q = acR 172 (o_ldi 4 141 ls st σ) ls σ Q := rn_row rfl ls st σ Q
theorem r_172_141 (ls : a_LS) (st : List Value) (σ : a_HP) (Q : Option Value → a_HP → Prop) : Rn 172 141 ls st σ Q = acR 172 (o_ivs 124 1 144 ls st σ) ls σ Q := rn_row rfl ls st σ Q
theorem r_172_144 (ls : a_LS) (st : List Value) (σ : a_HP) (Q : Option Value → a_HP → Prop) : Rn 172 144 ls st σ Q = acR 172 (o_ldi 2 145 ls st σ) ls σ Q := rn_row rfl ls st σ Q
theorem r_172_145 (ls : a_LS) (st : List Value) (σ : a_HP) (Q : Option Value → a_HP → Prop) : Rn 172 145 ls st σ Q = acR 172 (o_ivs 124 1 148 ls st σ) ls σ Q := rn_row rfl ls st σ Q
theorem r_172_148 (ls : a_LS) (st : List Value) (σ : a_HP) (Q : Option Value → a_HP → Prop) : Rn 172 148 ls st σ Q = acR 172 (o_cne 161 151 ls st σ) ls σ Q := rn_row rfl ls st σ Q
theorem r_172_151 (ls : a_LS) (st : List Value) (σ : a_HP) (Q : Option Value → a_HP → Prop) : Rn 172 151 ls st σ Q = acR 172 (o_ldi 4 153 ls st σ) ls σ Q := rn_row rfl ls st σ Q
theorem r_172_153 (ls : a_LS) (st : List Value) (σ : a_HP) (Q : Option Value → a_HP → Prop) : Rn 172 153 ls st σ Q = acR 172 (o_ldi 2 154 ls st σ) ls σ Q := rn_row rfl ls st σ Q
theorem r_172_154 (ls : a_LS) (st : List Value) (σ : a_HP) (Q : Option Value → a_HP → Prop) : Rn 172 154 ls st σ Q = acR 172 (o_cge 161 157 ls st σ) ls σ Q := rn_row rfl ls st σ Q
theorem r_172_157 (ls : a_LS) (st : List Value) (σ : a_HP) (Q : Option Value → a_HP → Prop) : Rn 172 157 ls st σ Q = acR 172 (o_pi (nI 1) 158 ls st σ) ls σ Q := rn_row rfl ls st σ Q
theorem r_172_158 (ls : a_LS) (st : List Value) (σ : a_HP) (Q : Option Value → a_HP → Prop) : Rn 172 158 ls st σ Q = acR 172 (o_go 162 ls st σ) ls σ Q := rn_row rfl ls st σ Q
theorem r_172_161 (ls : a_LS) (st : List Value) (σ : a_HP) (Q : Option Value → a_HP → Prop) : Rn 172 161 ls st σ Q = acR 172 (o_pi (nI 0) 162 ls st σ) ls σ Q := rn_row rfl ls st σ Q
theorem r_172_162 (ls : a_LS) (st : List Value) (σ : a_HP) (Q : Option Value → a_HP → Prop) : Rn 172 162 ls st σ Q = acR 172 (o_sti 6 164 ls st σ) ls σ Q := rn_row rfl ls st σ Q
theorem r_172_164 (ls : a_LS) (st : List Value) (σ : a_HP) (Q : Option Value → a_HP → Prop) : Rn 172 164 ls st σ Q = acR 172 (o_ldi 5 166 ls st σ) ls σ Q := rn_row rfl ls st σ Q
theorem r_172_166 (ls : a_LS) (st : List Value) (σ : a_HP) (Q : Option Value → a_HP → Prop) : Rn 172 166 ls st σ Q = acR 172 (o_eq 190 169 ls st σ) ls σ Q := rn_row rfl ls st σ Q
theorem r_172_169 (ls : a_LS) (st : List Value) (σ : a_HP) (Q : Option Value → a_HP → Prop) : Rn 172 169 ls st σ Q = acR 172 (o_ldi 6 171 ls st σ) ls σ Q := rn_row rfl ls st σ Q
theorem r_172_171 (ls : a_LS) (st : List Value) (σ : a_HP) (Q : Option Value → a_HP → Prop) : Rn 172 171 ls st σ Q = acR 172 (o_eq 190 174 ls st σ) ls σ Q := rn_row rfl ls st σ Q
theorem r_172_174 (ls : a_LS) (st : List Value) (σ : a_HP) (Q : Option Value → a_HP → Prop) : Rn 172 174 ls st σ Q = acR 172 (o_lda 0 175 ls st σ) ls σ Q := rn_row rfl ls st σ Q
theorem r_172_175 (ls : a_LS) (st : List Value) (σ : a_HP) (Q : Option Value → a_HP → Prop) : Rn 172 175 ls st σ Q = acR 172 (o_get 8 2 178 ls st σ) ls σ Q := rn_row rfl ls st σ Q
theorem r_172_178 (ls : a_LS) (st : List Value) (σ : a_HP) (Q : Option Value → a_HP → Prop) : Rn 172 178 ls st σ Q = acR 172 (o_ldi 1 179 ls st σ) ls σ Q := rn_row rfl ls st σ Q
theorem r_172_179 (ls : a_LS) (st : List Value) (σ : a_HP) (Q : Option Value → a_HP → Prop) : Rn 172 179 ls st σ Q = acR 172 (o_ivs 139 2 182 ls st σ) ls σ Q := rn_row rfl ls st σ Q
theorem r_172_182 (ls : a_LS) (st : List Value) (σ : a_HP) (Q : Option Value → a_HP → Prop) : Rn 172 182 ls st σ Q = acR 172 (o_ne 190 185 ls st σ) ls σ Q := rn_row rfl ls st σ Q
theorem r_172_185 (ls : a_LS) (st : List Value) (σ : a_HP) (Q : Option Value → a_HP → Prop) : Rn 172 185 ls st σ Q = acR 172 (o_ldi 4 187 ls st σ) ls σ Q := rn_row rfl ls st σ Q
theorem r_172_187 (ls : a_LS) (st : List Value) (σ : a_HP) (Q : Option Value → a_HP → Prop) : Rn 172 187 ls st σ Q = acR 172 (o_go 191 ls st σ) ls σ Q := rn_row rfl ls st σ Q
theorem r_172_190 (ls : a_LS) (st : List Value) (σ : a_HP) (Q : Option Value → a_HP → Prop) : Rn 172 190 ls st σ Q = acR 172 (o_ldi 2 191 ls st σ) ls σ Q := rn_row rfl ls st σ Q
theorem r_172_191 (ls : a_LS) (st : List Value) (σ : a_HP) (Q : Option Value → a_HP → Prop) : Rn 172 191 ls st σ Q = acR 172 (o_sti 2 192 ls st σ) ls σ Q := rn_row rfl ls st σ Q
theorem r_172_192 (ls : a_LS) (st : List Value) (σ : a_HP) (Q : Option Value → a_HP → Prop) : Rn 172 192 ls st σ Q = acR 172 (o_inc 3 (nI 1) 195 ls st σ) ls σ Q := rn_row rfl ls st σ Q
theorem r_172_195 (ls : a_LS) (st : List Value) (σ : a_HP) (Q : Option Value → a_HP → Prop) : Rn 172 195 ls st σ Q = acR 172 (o_go 29 ls st σ) ls σ Q := rn_row rfl ls st σ Q
theorem r_172_198 (ls : a_LS) (st : List Value) (σ : a_HP) (Q : Option Value → a_HP → Prop) : Rn 172 198 ls st σ Q = acR 172 (o_ldi 2 199 ls st σ) ls σ Q := rn_row rfl ls st σ Q
theorem r_172_199 (ls : a_LS) (st : List Value) (σ : a_HP) (Q : Option Value → a_HP → Prop) : Rn 172 199 ls st σ Q = acR 172 (o_ri ls st σ) ls σ Q := rn_row rfl ls st σ Q
/-! 173: NetLawModel.place(III)I -/
theorem cl_173 (x0 : Int32) (x1 : Int32) (x2 : Int32) (σ : a_HP) (Q : Option Value → a_HP → Prop) : Cl 173 [.int x0, .int x1, .int x2] σ Q = Rn 173 0 [some (.int x0), some (.int x1), some (.int x2)] [] σ Q := cl_of (Nat.le_of_ble_eq_true rfl) rfl σ Q
theorem r_173_0 (ls : a_LS) (st : List Value) (σ : a_HP) (Q : Option Value → a_HP → Prop) : Rn 173 0 ls st σ Q = acR 173 (o_pi (nI 961) 3 ls st σ) ls σ Q := rn_row rfl ls st σ Q
theorem r_173_3 (ls : a_LS) (st : List Value) (σ : a_HP) (Q : Option Value → a_HP → Prop) : Rn 173 3 ls st σ Q = acR 173 (o_ldi 0 4 ls st σ) ls σ Q := rn_row rfl ls st σ Q
theorem r_173_4 (ls : a_LS) (st : List Value) (σ : a_HP) (Q : Option Value → a_HP → Prop) : Rn 173 4 ls st σ Q = acR 173 (o_bi f_mul 5 ls st σ) ls σ Q := rn_row rfl ls st σ Q
theorem r_173_5 (ls : a_LS) (st : List Value) (σ : a_HP) (Q : Option Value → a_HP → Prop) : Rn 173 5 ls st σ Q = acR 173 (o_pi (nI 31) 7 ls st σ) ls σ Q := rn_row rfl ls st σ Q
theorem r_173_7 (ls : a_LS) (st : List Value) (σ : a_HP) (Q : Option Value → a_HP → Prop) : Rn 173 7 ls st σ Q = acR 173 (o_ldi 1 8 ls st σ) ls σ Q := rn_row rfl ls st σ Q
theorem r_173_8 (ls : a_LS) (st : List Value) (σ : a_HP) (Q : Option Value → a_HP → Prop) : Rn 173 8 ls st σ Q = acR 173 (o_bi f_mul 9 ls st σ) ls σ Q := rn_row rfl ls st σ Q
theorem r_173_9 (ls : a_LS) (st : List Value) (σ : a_HP) (Q : Option Value → a_HP → Prop) : Rn 173 9 ls st σ Q = acR 173 (o_bi f_add 10 ls st σ) ls σ Q := rn_row rfl ls st σ Q
theorem r_173_10 (ls : a_LS) (st : List Value) (σ : a_HP) (Q : Option Value → a_HP → Prop) : Rn 173 10 ls st σ Q = acR 173 (o_ldi 2 11 ls st σ) ls σ Q := rn_row rfl ls st σ Q
theorem r_173_11 (ls : a_LS) (st : List Value) (σ : a_HP) (Q : Option Value → a_HP → Prop) : Rn 173 11 ls st σ Q = acR 173 (o_bi f_add 12 ls st σ) ls σ Q := rn_row rfl ls st σ Q
theorem r_173_12 (ls : a_LS) (st : List Value) (σ : a_HP) (Q : Option Value → a_HP → Prop) : Rn 173 12 ls st σ Q = acR 173 (o_ri ls st σ) ls σ Q := rn_row rfl ls st σ Q
/-! 174: NetLawModel.less(II)I -/
theorem cl_174 (x0 : Int32) (x1 : Int32) (σ : a_HP) (Q : Option Value → a_HP → Prop) : Cl 174 [.int x0, .int x1] σ Q = Rn 174 0 [some (.int x0), some (.int x1)] [] σ Q := cl_of (Nat.le_of_ble_eq_true rfl) rfl σ Q
theorem r_174_0 (ls : a_LS) (st : List Value) (σ : a_HP) (Q : Option Value → a_HP → Prop) : Rn 174 0 ls st σ Q = acR 174 (o_ldi 0 1 ls st σ) ls σ Q := rn_row rfl ls st σ Q
theorem r_174_1 (ls : a_LS) (st : List Value) (σ : a_HP) (Q : Option Value → a_HP → Prop) : Rn 174 1 ls st σ Q = acR 174 (o_ldi 1 2 ls st σ) ls σ Q := rn_row rfl ls st σ Q
theorem r_174_2 (ls : a_LS) (st : List Value) (σ : a_HP) (Q : Option Value → a_HP → Prop) : Rn 174 2 ls st σ Q = acR 174 (o_cle 11 5 ls st σ) ls σ Q := rn_row rfl ls st σ Q
theorem r_174_5 (ls : a_LS) (st : List Value) (σ : a_HP) (Q : Option Value → a_HP → Prop) : Rn 174 5 ls st σ Q = acR 174 (o_ldi 0 6 ls st σ) ls σ Q := rn_row rfl ls st σ Q
theorem r_174_6 (ls : a_LS) (st : List Value) (σ : a_HP) (Q : Option Value → a_HP → Prop) : Rn 174 6 ls st σ Q = acR 174 (o_ldi 1 7 ls st σ) ls σ Q := rn_row rfl ls st σ Q
theorem r_174_7 (ls : a_LS) (st : List Value) (σ : a_HP) (Q : Option Value → a_HP → Prop) : Rn 174 7 ls st σ Q = acR 174 (o_bi f_sub 8 ls st σ) ls σ Q := rn_row rfl ls st σ Q
theorem r_174_8 (ls : a_LS) (st : List Value) (σ : a_HP) (Q : Option Value → a_HP → Prop) : Rn 174 8 ls st σ Q = acR 174 (o_go 12 ls st σ) ls σ Q := rn_row rfl ls st σ Q
theorem r_174_11 (ls : a_LS) (st : List Value) (σ : a_HP) (Q : Option Value → a_HP → Prop) : Rn 174 11 ls st σ Q = acR 174 (o_pi (nI 0) 12 ls st σ) ls σ Q := rn_row rfl ls st σ Q
theorem r_174_12 (ls : a_LS) (st : List Value) (σ : a_HP) (Q : Option Value → a_HP → Prop) : Rn 174 12 ls st σ Q = acR 174 (o_ri ls st σ) ls σ Q := rn_row rfl ls st σ Q
/-! 175: NetLawModel.layKnots(II)I -/
theorem cl_175 (x0 : Nat) (x1 : Int32) (x2 : Int32) (σ : a_HP) (Q : Option Value → a_HP → Prop) : Cl 175 [.ref x0, .int x1, .int x2] σ Q = Rn 175 0 [some (.ref x0), some (.int x1), some (.int x2), none, none] [] σ Q := cl_of (Nat.le_of_ble_eq_true rfl) rfl σ Q
theorem r_175_0 (ls : a_LS) (st : List Value) (σ : a_HP) (Q : Option Value → a_HP → Prop) : Rn 175 0 ls st σ Q = acR 175 (o_pi (nI 0) 1 ls st σ) ls σ Q := rn_row rfl ls st σ Q
theorem r_175_1 (ls : a_LS) (st : List Value) (σ : a_HP) (Q : Option Value → a_HP → Prop) : Rn 175 1 ls st σ Q = acR 175 (o_sti 3 2 ls st σ) ls σ Q := rn_row rfl ls st σ Q
theorem r_175_2 (ls : a_LS) (st : List Value) (σ : a_HP) (Q : Option Value → a_HP → Prop) : Rn 175 2 ls st σ Q = acR 175 (o_pi (nI 0) 3 ls st σ) ls σ Q := rn_row rfl ls st σ Q
theorem r_175_3 (ls : a_LS) (st : List Value) (σ : a_HP) (Q : Option Value → a_HP → Prop) : Rn 175 3 ls st σ Q = acR 175 (o_sti 4 5 ls st σ) ls σ Q := rn_row rfl ls st σ Q
theorem r_175_5 (ls : a_LS) (st : List Value) (σ : a_HP) (Q : Option Value → a_HP → Prop) : Rn 175 5 ls st σ Q = acR 175 (o_ldi 4 7 ls st σ) ls σ Q := rn_row rfl ls st σ Q
theorem r_175_7 (ls : a_LS) (st : List Value) (σ : a_HP) (Q : Option Value → a_HP → Prop) : Rn 175 7 ls st σ Q = acR 175 (o_pi (nI 16) 9 ls st σ) ls σ Q := rn_row rfl ls st σ Q
theorem r_175_9 (ls : a_LS) (st : List Value) (σ : a_HP) (Q : Option Value → a_HP → Prop) : Rn 175 9 ls st σ Q = acR 175 (o_cge 47 12 ls st σ) ls σ Q := rn_row rfl ls st σ Q
theorem r_175_12 (ls : a_LS) (st : List Value) (σ : a_HP) (Q : Option Value → a_HP → Prop) : Rn 175 12 ls st σ Q = acR 175 (o_ldi 1 13 ls st σ) ls σ Q := rn_row rfl ls st σ Q
theorem r_175_13 (ls : a_LS) (st : List Value) (σ : a_HP) (Q : Option Value → a_HP → Prop) : Rn 175 13 ls st σ Q = acR 175 (o_ldi 4 15 ls st σ) ls σ Q := rn_row rfl ls st σ Q
theorem r_175_15 (ls : a_LS) (st : List Value) (σ : a_HP) (Q : Option Value → a_HP → Prop) : Rn 175 15 ls st σ Q = acR 175 (o_ivs 137 2 18 ls st σ) ls σ Q := rn_row rfl ls st σ Q
theorem r_175_18 (ls : a_LS) (st : List Value) (σ : a_HP) (Q : Option Value → a_HP → Prop) : Rn 175 18 ls st σ Q = acR 175 (o_ne 30 21 ls st σ) ls σ Q := rn_row rfl ls st σ Q
theorem r_175_21 (ls : a_LS) (st : List Value) (σ : a_HP) (Q : Option Value → a_HP → Prop) : Rn 175 21 ls st σ Q = acR 175 (o_ldi 2 22 ls st σ) ls σ Q := rn_row rfl ls st σ Q
theorem r_175_22 (ls : a_LS) (st : List Value) (σ : a_HP) (Q : Option Value → a_HP → Prop) : Rn 175 22 ls st σ Q = acR 175 (o_ldi 4 24 ls st σ) ls σ Q := rn_row rfl ls st σ Q
theorem r_175_24 (ls : a_LS) (st : List Value) (σ : a_HP) (Q : Option Value → a_HP → Prop) : Rn 175 24 ls st σ Q = acR 175 (o_ivs 137 2 27 ls st σ) ls σ Q := rn_row rfl ls st σ Q
theorem r_175_27 (ls : a_LS) (st : List Value) (σ : a_HP) (Q : Option Value → a_HP → Prop) : Rn 175 27 ls st σ Q = acR 175 (o_eq 41 30 ls st σ) ls σ Q := rn_row rfl ls st σ Q
theorem r_175_30 (ls : a_LS) (st : List Value) (σ : a_HP) (Q : Option Value → a_HP → Prop) : Rn 175 30 ls st σ Q = acR 175 (o_lda 0 31 ls st σ) ls σ Q := rn_row rfl ls st σ Q
theorem r_175_31 (ls : a_LS) (st : List Value) (σ : a_HP) (Q : Option Value → a_HP → Prop) : Rn 175 31 ls st σ Q = acR 175 (o_get 8 17 34 ls st σ) ls σ Q := rn_row rfl ls st σ Q
theorem r_175_34 (ls : a_LS) (st : List Value) (σ : a_HP) (Q : Option Value → a_HP → Prop) : Rn 175 34 ls st σ Q = acR 175 (o_ldi 3 35 ls st σ) ls σ Q := rn_row rfl ls st σ Q
theorem r_175_35 (ls : a_LS) (st : List Value) (σ : a_HP) (Q : Option Value → a_HP → Prop) : Rn 175 35 ls st σ Q = acR 175 (o_ldi 4 37 ls st σ) ls σ Q := rn_row rfl ls st σ Q
theorem r_175_37 (ls : a_LS) (st : List Value) (σ : a_HP) (Q : Option Value → a_HP → Prop) : Rn 175 37 ls st σ Q = acR 175 (o_ias 38 ls st σ) ls σ Q := rn_row rfl ls st σ Q
theorem r_175_38 (ls : a_LS) (st : List Value) (σ : a_HP) (Q : Option Value → a_HP → Prop) : Rn 175 38 ls st σ Q = acR 175 (o_inc 3 (nI 1) 41 ls st σ) ls σ Q := rn_row rfl ls st σ Q
theorem r_175_41 (ls : a_LS) (st : List Value) (σ : a_HP) (Q : Option Value → a_HP → Prop) : Rn 175 41 ls st σ Q = acR 175 (o_inc 4 (nI 1) 44 ls st σ) ls σ Q := rn_row rfl ls st σ Q
theorem r_175_44 (ls : a_LS) (st : List Value) (σ : a_HP) (Q : Option Value → a_HP → Prop) : Rn 175 44 ls st σ Q = acR 175 (o_go 5 ls st σ) ls σ Q := rn_row rfl ls st σ Q
theorem r_175_47 (ls : a_LS) (st : List Value) (σ : a_HP) (Q : Option Value → a_HP → Prop) : Rn 175 47 ls st σ Q = acR 175 (o_ldi 3 48 ls st σ) ls σ Q := rn_row rfl ls st σ Q
theorem r_175_48 (ls : a_LS) (st : List Value) (σ : a_HP) (Q : Option Value → a_HP → Prop) : Rn 175 48 ls st σ Q = acR 175 (o_ri ls st σ) ls σ Q := rn_row rfl ls st σ Q
/-! 176: NetLawModel.mostFor(I)I -/
theorem cl_176 (x0 : Nat) (x1 : Int32) (σ : a_HP) (Q : Option Value → a_HP → Prop) : Cl 176 [.ref x0, .int x1] σ Q = Rn 176 0 [some (.ref x0), some (.int x1)] [] σ Q := cl_of (Nat.le_of_ble_eq_true rfl) rfl σ Q
theorem r_176_0 (ls : a_LS) (st : List Value) (σ : a_HP) (Q : Option Value → a_HP → Prop) : Rn 176 0 ls st σ Q = acR 176 (o_lda 0 1 ls st σ) ls σ Q := rn_row rfl ls st σ Q
theorem r_176_1 (ls : a_LS) (st : List Value) (σ : a_HP) (Q : Option Value → a_HP → Prop) : Rn 176 1 ls st σ Q = acR 176 (o_get 8 0 4 ls st σ) ls σ Q := rn_row rfl ls st σ Q
theorem r_176_4 (ls : a_LS) (st : List Value) (σ : a_HP) (Q : Option Value → a_HP → Prop) : Rn 176 4 ls st σ Q = acR 176 (o_pi (nI 20) 6 ls st σ) ls σ Q := rn_row rfl ls st σ Q
theorem r_176_6 (ls : a_LS) (st : List Value) (σ : a_HP) (Q : Option Value → a_HP → Prop) : Rn 176 6 ls st σ Q = acR 176 (o_ldi 1 7 ls st σ) ls σ Q := rn_row rfl ls st σ Q
theorem r_176_7 (ls : a_LS) (st : List Value) (σ : a_HP) (Q : Option Value → a_HP → Prop) : Rn 176 7 ls st σ Q = acR 176 (o_bi f_add 8 ls st σ) ls σ Q := rn_row rfl ls st σ Q
theorem r_176_8 (ls : a_LS) (st : List Value) (σ : a_HP) (Q : Option Value → a_HP → Prop) : Rn 176 8 ls st σ Q = acR 176 (o_ial 9 ls st σ) ls σ Q := rn_row rfl ls st σ Q
theorem r_176_9 (ls : a_LS) (st : List Value) (σ : a_HP) (Q : Option Value → a_HP → Prop) : Rn 176 9 ls st σ Q = acR 176 (o_ne 16 12 ls st σ) ls σ Q := rn_row rfl ls st σ Q
theorem r_176_12 (ls : a_LS) (st : List Value) (σ : a_HP) (Q : Option Value → a_HP → Prop) : Rn 176 12 ls st σ Q = acR 176 (o_pi (nI 0) 13 ls st σ) ls σ Q := rn_row rfl ls st σ Q
theorem r_176_13 (ls : a_LS) (st : List Value) (σ : a_HP) (Q : Option Value → a_HP → Prop) : Rn 176 13 ls st σ Q = acR 176 (o_go 28 ls st σ) ls σ Q := rn_row rfl ls st σ Q
theorem r_176_16 (ls : a_LS) (st : List Value) (σ : a_HP) (Q : Option Value → a_HP → Prop) : Rn 176 16 ls st σ Q = acR 176 (o_pi (nI 9) 18 ls st σ) ls σ Q := rn_row rfl ls st σ Q
theorem r_176_18 (ls : a_LS) (st : List Value) (σ : a_HP) (Q : Option Value → a_HP → Prop) : Rn 176 18 ls st σ Q = acR 176 (o_lda 0 19 ls st σ) ls σ Q := rn_row rfl ls st σ Q
theorem r_176_19 (ls : a_LS) (st : List Value) (σ : a_HP) (Q : Option Value → a_HP → Prop) : Rn 176 19 ls st σ Q = acR 176 (o_get 8 0 22 ls st σ) ls σ Q := rn_row rfl ls st σ Q
theorem r_176_22 (ls : a_LS) (st : List Value) (σ : a_HP) (Q : Option Value → a_HP → Prop) : Rn 176 22 ls st σ Q = acR 176 (o_pi (nI 20) 24 ls st σ) ls σ Q := rn_row rfl ls st σ Q
theorem r_176_24 (ls : a_LS) (st : List Value) (σ : a_HP) (Q : Option Value → a_HP → Prop) : Rn 176 24 ls st σ Q = acR 176 (o_ldi 1 25 ls st σ) ls σ Q := rn_row rfl ls st σ Q
theorem r_176_25 (ls : a_LS) (st : List Value) (σ : a_HP) (Q : Option Value → a_HP → Prop) : Rn 176 25 ls st σ Q = acR 176 (o_bi f_add 26 ls st σ) ls σ Q := rn_row rfl ls st σ Q
theorem r_176_26 (ls : a_LS) (st : List Value) (σ : a_HP) (Q : Option Value → a_HP → Prop) : Rn 176 26 ls st σ Q = acR 176 (o_ial 27 ls st σ) ls σ Q := rn_row rfl ls st σ Q
theorem r_176_27 (ls : a_LS) (st : List Value) (σ : a_HP) (Q : Option Value → a_HP → Prop) : Rn 176 27 ls st σ Q = acR 176 (o_bi f_sub 28 ls st σ) ls σ Q := rn_row rfl ls st σ Q
theorem r_176_28 (ls : a_LS) (st : List Value) (σ : a_HP) (Q : Option Value → a_HP → Prop) : Rn 176 28 ls st σ Q = acR 176 (o_ri ls st σ) ls σ Q := rn_row rfl ls st σ Q
/-! 177: NetLawModel.leastBy(IIIIII)I -/
theorem cl_177 (x0 : Nat) (x1 : Int32) (x2 : Int32) (x3 : Int32) (x4 : Int32) (x5 : Int32) (x6 : Int32) (σ : a_HP) (Q : Option Value → a_HP → Prop) : Cl 177 [.ref x0, .int x1, .int x2, .int x3, .int x4, .int x5, .int x6] σ Q = Rn 177 0 [some (.ref x0), some (.int x1), some (.int x2), some (.int x3), some (.int x4), some (.int x5), some (.int x6), none, none, none] [] σ Q := cl_of (Nat.le_of_ble_eq_true rfl) rfl σ Q
theorem r_177_0 (ls : a_LS) (st : List Value) (σ : a_HP) (Q : Option Value → a_HP → Prop) : Rn 177 0 ls st σ Q = acR 177 (o_lda 0 1 ls st σ) ls σ Q := rn_row rfl ls st σ Q
theorem r_177_1 (ls : a_LS) (st : List Value) (σ : a_HP) (Q : Option Value → a_HP → Prop) : Rn 177 1 ls st σ Q = acR 177 (o_get 8 17 4 ls st σ) ls σ Q := rn_row rfl ls st σ Q
theorem r_177_4 (ls : a_LS) (st : List Value) (σ : a_HP) (Q : Option Value → a_HP → Prop) : Rn 177 4 ls st σ Q = acR 177 (o_ldi 3 5 ls st σ) ls σ Q := rn_row rfl ls st σ Q
theorem r_177_5 (ls : a_LS) (st : List Value) (σ : a_HP) (Q : Option Value → a_HP → Prop) : Rn 177 5 ls st σ Q = acR 177 (o_ial 6 ls st σ) ls σ Q := rn_row rfl ls st σ Q
theorem r_177_6 (ls : a_LS) (st : List Value) (σ : a_HP) (Q : Option Value → a_HP → Prop) : Rn 177 6 ls st σ Q = acR 177 (o_sti 7 8 ls st σ) ls σ Q := rn_row rfl ls st σ Q
theorem r_177_8 (ls : a_LS) (st : List Value) (σ : a_HP) (Q : Option Value → a_HP → Prop) : Rn 177 8 ls st σ Q = acR 177 (o_lda 0 9 ls st σ) ls σ Q := rn_row rfl ls st σ Q
theorem r_177_9 (ls : a_LS) (st : List Value) (σ : a_HP) (Q : Option Value → a_HP → Prop) : Rn 177 9 ls st σ Q = acR 177 (o_get 8 0 12 ls st σ) ls σ Q := rn_row rfl ls st σ Q
theorem r_177_12 (ls : a_LS) (st : List Value) (σ : a_HP) (Q : Option Value → a_HP → Prop) : Rn 177 12 ls st σ Q = acR 177 (o_pi (nI 20) 14 ls st σ) ls σ Q := rn_row rfl ls st σ Q
theorem r_177_14 (ls : a_LS) (st : List Value) (σ : a_HP) (Q : Option Value → a_HP → Prop) : Rn 177 14 ls st σ Q = acR 177 (o_ldi 7 16 ls st σ) ls σ Q := rn_row rfl ls st σ Q
theorem r_177_16 (ls : a_LS) (st : List Value) (σ : a_HP) (Q : Option Value → a_HP → Prop) : Rn 177 16 ls st σ Q = acR 177 (o_bi f_add 17 ls st σ) ls σ Q := rn_row rfl ls st σ Q
theorem r_177_17 (ls : a_LS) (st : List Value) (σ : a_HP) (Q : Option Value → a_HP → Prop) : Rn 177 17 ls st σ Q = acR 177 (o_ial 18 ls st σ) ls σ Q := rn_row rfl ls st σ Q
theorem r_177_18 (ls : a_LS) (st : List Value) (σ : a_HP) (Q : Option Value → a_HP → Prop) : Rn 177 18 ls st σ Q = acR 177 (o_sti 8 20 ls st σ) ls σ Q := rn_row rfl ls st σ Q
theorem r_177_20 (ls : a_LS) (st : List Value) (σ : a_HP) (Q : Option Value → a_HP → Prop) : Rn 177 20 ls st σ Q = acR 177 (o_lda 0 21 ls st σ) ls σ Q := rn_row rfl ls st σ Q
theorem r_177_21 (ls : a_LS) (st : List Value) (σ : a_HP) (Q : Option Value → a_HP → Prop) : Rn 177 21 ls st σ Q = acR 177 (o_get 8 0 24 ls st σ) ls σ Q := rn_row rfl ls st σ Q
theorem r_177_24 (ls : a_LS) (st : List Value) (σ : a_HP) (Q : Option Value → a_HP → Prop) : Rn 177 24 ls st σ Q = acR 177 (o_pi (nI 4) 25 ls st σ) ls σ Q := rn_row rfl ls st σ Q
theorem r_177_25 (ls : a_LS) (st : List Value) (σ : a_HP) (Q : Option Value → a_HP → Prop) : Rn 177 25 ls st σ Q = acR 177 (o_ldi 7 27 ls st σ) ls σ Q := rn_row rfl ls st σ Q
theorem r_177_27 (ls : a_LS) (st : List Value) (σ : a_HP) (Q : Option Value → a_HP → Prop) : Rn 177 27 ls st σ Q = acR 177 (o_bi f_add 28 ls st σ) ls σ Q := rn_row rfl ls st σ Q
theorem r_177_28 (ls : a_LS) (st : List Value) (σ : a_HP) (Q : Option Value → a_HP → Prop) : Rn 177 28 ls st σ Q = acR 177 (o_ial 29 ls st σ) ls σ Q := rn_row rfl ls st σ Q
theorem r_177_29 (ls : a_LS) (st : List Value) (σ : a_HP) (Q : Option Value → a_HP → Prop) : Rn 177 29 ls st σ Q = acR 177 (o_ldi 8 31 ls st σ) ls σ Q := rn_row rfl ls st σ Q
theorem r_177_31 (ls : a_LS) (st : List Value) (σ : a_HP) (Q : Option Value → a_HP → Prop) : Rn 177 31 ls st σ Q = acR 177 (o_ne 38 34 ls st σ) ls σ Q := rn_row rfl ls st σ Q
theorem r_177_34 (ls : a_LS) (st : List Value) (σ : a_HP) (Q : Option Value → a_HP → Prop) : Rn 177 34 ls st σ Q = acR 177 (o_pi (nI 0) 35 ls st σ) ls σ Q := rn_row rfl ls st σ Q
theorem r_177_35 (ls : a_LS) (st : List Value) (σ : a_HP) (Q : Option Value → a_HP → Prop) : Rn 177 35 ls st σ Q = acR 177 (o_go 43 ls st σ) ls σ Q := rn_row rfl ls st σ Q
theorem r_177_38 (ls : a_LS) (st : List Value) (σ : a_HP) (Q : Option Value → a_HP → Prop) : Rn 177 38 ls st σ Q = acR 177 (o_ldi 8 40 ls st σ) ls σ Q := rn_row rfl ls st σ Q
theorem r_177_40 (ls : a_LS) (st : List Value) (σ : a_HP) (Q : Option Value → a_HP → Prop) : Rn 177 40 ls st σ Q = acR 177 (o_ldi 6 42 ls st σ) ls σ Q := rn_row rfl ls st σ Q
theorem r_177_42 (ls : a_LS) (st : List Value) (σ : a_HP) (Q : Option Value → a_HP → Prop) : Rn 177 42 ls st σ Q = acR 177 (o_bi f_add 43 ls st σ) ls σ Q := rn_row rfl ls st σ Q
theorem r_177_43 (ls : a_LS) (st : List Value) (σ : a_HP) (Q : Option Value → a_HP → Prop) : Rn 177 43 ls st σ Q = acR 177 (o_lda 0 44 ls st σ) ls σ Q := rn_row rfl ls st σ Q
theorem r_177_44 (ls : a_LS) (st : List Value) (σ : a_HP) (Q : Option Value → a_HP → Prop) : Rn 177 44 ls st σ Q = acR 177 (o_get 8 0 47 ls st σ) ls σ Q := rn_row rfl ls st σ Q
theorem r_177_47 (ls : a_LS) (st : List Value) (σ : a_HP) (Q : Option Value → a_HP → Prop) : Rn 177 47 ls st σ Q = acR 177 (o_pi (nI 0) 48 ls st σ) ls σ Q := rn_row rfl ls st σ Q
theorem r_177_48 (ls : a_LS) (st : List Value) (σ : a_HP) (Q : Option Value → a_HP → Prop) : Rn 177 48 ls st σ Q = acR 177 (o_ial 49 ls st σ) ls σ Q := rn_row rfl ls st σ Q
theorem r_177_49 (ls : a_LS) (st : List Value) (σ : a_HP) (Q : Option Value → a_HP → Prop) : Rn 177 49 ls st σ Q = acR 177 (o_lda 0 50 ls st σ) ls σ Q := rn_row rfl ls st σ Q
theorem r_177_50 (ls : a_LS) (st : List Value) (σ : a_HP) (Q : Option Value → a_HP → Prop) : Rn 177 50 ls st σ Q = acR 177 (o_get 8 0 53 ls st σ) ls σ Q := rn_row rfl ls st σ Q
theorem r_177_53 (ls : a_LS) (st : List Value) (σ : a_HP) (Q : Option Value → a_HP → Prop) : Rn 177 53 ls st σ Q = acR 177 (o_ldi 7 55 ls st σ) ls σ Q := rn_row rfl ls st σ Q
theorem r_177_55 (ls : a_LS) (st : List Value) (σ : a_HP) (Q : Option Value → a_HP → Prop) : Rn 177 55 ls st σ Q = acR 177 (o_ivs 132 2 58 ls st σ) ls σ Q := rn_row rfl ls st σ Q
theorem r_177_58 (ls : a_LS) (st : List Value) (σ : a_HP) (Q : Option Value → a_HP → Prop) : Rn 177 58 ls st σ Q = acR 177 (o_ivs 133 4 61 ls st σ) ls σ Q := rn_row rfl ls st σ Q
theorem r_177_61 (ls : a_LS) (st : List Value) (σ : a_HP) (Q : Option Value → a_HP → Prop) : Rn 177 61 ls st σ Q = acR 177 (o_sti 9 63 ls st σ) ls σ Q := rn_row rfl ls st σ Q
theorem r_177_63 (ls : a_LS) (st : List Value) (σ : a_HP) (Q : Option Value → a_HP → Prop) : Rn 177 63 ls st σ Q = acR 177 (o_ldi 6 65 ls st σ) ls σ Q := rn_row rfl ls st σ Q
theorem r_177_65 (ls : a_LS) (st : List Value) (σ : a_HP) (Q : Option Value → a_HP → Prop) : Rn 177 65 ls st σ Q = acR 177 (o_lda 0 66 ls st σ) ls σ Q := rn_row rfl ls st σ Q
theorem r_177_66 (ls : a_LS) (st : List Value) (σ : a_HP) (Q : Option Value → a_HP → Prop) : Rn 177 66 ls st σ Q = acR 177 (o_get 8 18 69 ls st σ) ls σ Q := rn_row rfl ls st σ Q
theorem r_177_69 (ls : a_LS) (st : List Value) (σ : a_HP) (Q : Option Value → a_HP → Prop) : Rn 177 69 ls st σ Q = acR 177 (o_ldi 3 70 ls st σ) ls σ Q := rn_row rfl ls st σ Q
theorem r_177_70 (ls : a_LS) (st : List Value) (σ : a_HP) (Q : Option Value → a_HP → Prop) : Rn 177 70 ls st σ Q = acR 177 (o_pi (nI 1) 71 ls st σ) ls σ Q := rn_row rfl ls st σ Q
theorem r_177_71 (ls : a_LS) (st : List Value) (σ : a_HP) (Q : Option Value → a_HP → Prop) : Rn 177 71 ls st σ Q = acR 177 (o_bi f_add 72 ls st σ) ls σ Q := rn_row rfl ls st σ Q
theorem r_177_72 (ls : a_LS) (st : List Value) (σ : a_HP) (Q : Option Value → a_HP → Prop) : Rn 177 72 ls st σ Q = acR 177 (o_ldi 1 73 ls st σ) ls σ Q := rn_row rfl ls st σ Q
theorem r_177_73 (ls : a_LS) (st : List Value) (σ : a_HP) (Q : Option Value → a_HP → Prop) : Rn 177 73 ls st σ Q = acR 177 (o_ldi 7 75 ls st σ) ls σ Q := rn_row rfl ls st σ Q
theorem r_177_75 (ls : a_LS) (st : List Value) (σ : a_HP) (Q : Option Value → a_HP → Prop) : Rn 177 75 ls st σ Q = acR 177 (o_ivs 137 2 78 ls st σ) ls σ Q := rn_row rfl ls st σ Q
theorem r_177_78 (ls : a_LS) (st : List Value) (σ : a_HP) (Q : Option Value → a_HP → Prop) : Rn 177 78 ls st σ Q = acR 177 (o_eq 91 81 ls st σ) ls σ Q := rn_row rfl ls st σ Q
theorem r_177_81 (ls : a_LS) (st : List Value) (σ : a_HP) (Q : Option Value → a_HP → Prop) : Rn 177 81 ls st σ Q = acR 177 (o_ldi 4 83 ls st σ) ls σ Q := rn_row rfl ls st σ Q
theorem r_177_83 (ls : a_LS) (st : List Value) (σ : a_HP) (Q : Option Value → a_HP → Prop) : Rn 177 83 ls st σ Q = acR 177 (o_ldi 9 85 ls st σ) ls σ Q := rn_row rfl ls st σ Q
theorem r_177_85 (ls : a_LS) (st : List Value) (σ : a_HP) (Q : Option Value → a_HP → Prop) : Rn 177 85 ls st σ Q = acR 177 (o_ivs 174 2 88 ls st σ) ls σ Q := rn_row rfl ls st σ Q
theorem r_177_88 (ls : a_LS) (st : List Value) (σ : a_HP) (Q : Option Value → a_HP → Prop) : Rn 177 88 ls st σ Q = acR 177 (o_go 93 ls st σ) ls σ Q := rn_row rfl ls st σ Q
theorem r_177_91 (ls : a_LS) (st : List Value) (σ : a_HP) (Q : Option Value → a_HP → Prop) : Rn 177 91 ls st σ Q = acR 177 (o_ldi 4 93 ls st σ) ls σ Q := rn_row rfl ls st σ Q
theorem r_177_93 (ls : a_LS) (st : List Value) (σ : a_HP) (Q : Option Value → a_HP → Prop) : Rn 177 93 ls st σ Q = acR 177 (o_ldi 2 94 ls st σ) ls σ Q := rn_row rfl ls st σ Q
theorem r_177_94 (ls : a_LS) (st : List Value) (σ : a_HP) (Q : Option Value → a_HP → Prop) : Rn 177 94 ls st σ Q = acR 177 (o_ldi 7 96 ls st σ) ls σ Q := rn_row rfl ls st σ Q
theorem r_177_96 (ls : a_LS) (st : List Value) (σ : a_HP) (Q : Option Value → a_HP → Prop) : Rn 177 96 ls st σ Q = acR 177 (o_ivs 137 2 99 ls st σ) ls σ Q := rn_row rfl ls st σ Q
theorem r_177_99 (ls : a_LS) (st : List Value) (σ : a_HP) (Q : Option Value → a_HP → Prop) : Rn 177 99 ls st σ Q = acR 177 (o_eq 112 102 ls st σ) ls σ Q := rn_row rfl ls st σ Q
theorem r_177_102 (ls : a_LS) (st : List Value) (σ : a_HP) (Q : Option Value → a_HP → Prop) : Rn 177 102 ls st σ Q = acR 177 (o_ldi 5 104 ls st σ) ls σ Q := rn_row rfl ls st σ Q
theorem r_177_104 (ls : a_LS) (st : List Value) (σ : a_HP) (Q : Option Value → a_HP → Prop) : Rn 177 104 ls st σ Q = acR 177 (o_ldi 9 106 ls st σ) ls σ Q := rn_row rfl ls st σ Q
theorem r_177_106 (ls : a_LS) (st : List Value) (σ : a_HP) (Q : Option Value → a_HP → Prop) : Rn 177 106 ls st σ Q = acR 177 (o_ivs 174 2 109 ls st σ) ls σ Q := rn_row rfl ls st σ Q
theorem r_177_109 (ls : a_LS) (st : List Value) (σ : a_HP) (Q : Option Value → a_HP → Prop) : Rn 177 109 ls st σ Q = acR 177 (o_go 114 ls st σ) ls σ Q := rn_row rfl ls st σ Q
theorem r_177_112 (ls : a_LS) (st : List Value) (σ : a_HP) (Q : Option Value → a_HP → Prop) : Rn 177 112 ls st σ Q = acR 177 (o_ldi 5 114 ls st σ) ls σ Q := rn_row rfl ls st σ Q
theorem r_177_114 (ls : a_LS) (st : List Value) (σ : a_HP) (Q : Option Value → a_HP → Prop) : Rn 177 114 ls st σ Q = acR 177 (o_ivs 173 3 117 ls st σ) ls σ Q := rn_row rfl ls st σ Q
theorem r_177_117 (ls : a_LS) (st : List Value) (σ : a_HP) (Q : Option Value → a_HP → Prop) : Rn 177 117 ls st σ Q = acR 177 (o_ial 118 ls st σ) ls σ Q := rn_row rfl ls st σ Q
theorem r_177_118 (ls : a_LS) (st : List Value) (σ : a_HP) (Q : Option Value → a_HP → Prop) : Rn 177 118 ls st σ Q = acR 177 (o_bi f_add 119 ls st σ) ls σ Q := rn_row rfl ls st σ Q
theorem r_177_119 (ls : a_LS) (st : List Value) (σ : a_HP) (Q : Option Value → a_HP → Prop) : Rn 177 119 ls st σ Q = acR 177 (o_ri ls st σ) ls σ Q := rn_row rfl ls st σ Q
/-! 178: NetLawModel.layTable(III)V -/
theorem cl_178 (x0 : Nat) (x1 : Int32) (x2 : Int32) (x3 : Int32) (σ : a_HP) (Q : Option Value → a_HP → Prop) : Cl 178 [.ref x0, .int x1, .int x2, .int x3] σ Q = Rn 178 0 [some (.ref x0), some (.int x1), some (.int x2), some (.int x3), none, none, none, none, none, none] [] σ Q := cl_of (Nat.le_of_ble_eq_true rfl) rfl σ Q
theorem r_178_0 (ls : a_LS) (st : List Value) (σ : a_HP) (Q : Option Value → a_HP → Prop) : Rn 178 0 ls st σ Q = acR 178 (o_ldi 3 1 ls st σ) ls σ Q := rn_row rfl ls st σ Q
theorem r_178_1 (ls : a_LS) (st : List Value) (σ : a_HP) (Q : Option Value → a_HP → Prop) : Rn 178 1 ls st σ Q = acR 178 (o_sti 4 3 ls st σ) ls σ Q := rn_row rfl ls st σ Q
theorem r_178_3 (ls : a_LS) (st : List Value) (σ : a_HP) (Q : Option Value → a_HP → Prop) : Rn 178 3 ls st σ Q = acR 178 (o_ldi 4 5 ls st σ) ls σ Q := rn_row rfl ls st σ Q
theorem r_178_5 (ls : a_LS) (st : List Value) (σ : a_HP) (Q : Option Value → a_HP → Prop) : Rn 178 5 ls st σ Q = acR 178 (o_lt 147 8 ls st σ) ls σ Q := rn_row rfl ls st σ Q
theorem r_178_8 (ls : a_LS) (st : List Value) (σ : a_HP) (Q : Option Value → a_HP → Prop) : Rn 178 8 ls st σ Q = acR 178 (o_pi (nI 0) 9 ls st σ) ls σ Q := rn_row rfl ls st σ Q
theorem r_178_9 (ls : a_LS) (st : List Value) (σ : a_HP) (Q : Option Value → a_HP → Prop) : Rn 178 9 ls st σ Q = acR 178 (o_sti 5 11 ls st σ) ls σ Q := rn_row rfl ls st σ Q
theorem r_178_11 (ls : a_LS) (st : List Value) (σ : a_HP) (Q : Option Value → a_HP → Prop) : Rn 178 11 ls st σ Q = acR 178 (o_ldi 5 13 ls st σ) ls σ Q := rn_row rfl ls st σ Q
theorem r_178_13 (ls : a_LS) (st : List Value) (σ : a_HP) (Q : Option Value → a_HP → Prop) : Rn 178 13 ls st σ Q = acR 178 (o_pi (nI 31) 15 ls st σ) ls σ Q := rn_row rfl ls st σ Q
theorem r_178_15 (ls : a_LS) (st : List Value) (σ : a_HP) (Q : Option Value → a_HP → Prop) : Rn 178 15 ls st σ Q = acR 178 (o_cge 141 18 ls st σ) ls σ Q := rn_row rfl ls st σ Q
theorem r_178_18 (ls : a_LS) (st : List Value) (σ : a_HP) (Q : Option Value → a_HP → Prop) : Rn 178 18 ls st σ Q = acR 178 (o_pi (nI 0) 19 ls st σ) ls σ Q := rn_row rfl ls st σ Q
theorem r_178_19 (ls : a_LS) (st : List Value) (σ : a_HP) (Q : Option Value → a_HP → Prop) : Rn 178 19 ls st σ Q = acR 178 (o_sti 6 21 ls st σ) ls σ Q := rn_row rfl ls st σ Q
theorem r_178_21 (ls : a_LS) (st : List Value) (σ : a_HP) (Q : Option Value → a_HP → Prop) : Rn 178 21 ls st σ Q = acR 178 (o_ldi 6 23 ls st σ) ls σ Q := rn_row rfl ls st σ Q
theorem r_178_23 (ls : a_LS) (st : List Value) (σ : a_HP) (Q : Option Value → a_HP → Prop) : Rn 178 23 ls st σ Q = acR 178 (o_pi (nI 31) 25 ls st σ) ls σ Q := rn_row rfl ls st σ Q
theorem r_178_25 (ls : a_LS) (st : List Value) (σ : a_HP) (Q : Option Value → a_HP → Prop) : Rn 178 25 ls st σ Q = acR 178 (o_cge 135 28 ls st σ) ls σ Q := rn_row rfl ls st σ Q
theorem r_178_28 (ls : a_LS) (st : List Value) (σ : a_HP) (Q : Option Value → a_HP → Prop) : Rn 178 28 ls st σ Q = acR 178 (o_ldi 4 30 ls st σ) ls σ Q := rn_row rfl ls st σ Q
theorem r_178_30 (ls : a_LS) (st : List Value) (σ : a_HP) (Q : Option Value → a_HP → Prop) : Rn 178 30 ls st σ Q = acR 178 (o_ldi 3 31 ls st σ) ls σ Q := rn_row rfl ls st σ Q
theorem r_178_31 (ls : a_LS) (st : List Value) (σ : a_HP) (Q : Option Value → a_HP → Prop) : Rn 178 31 ls st σ Q = acR 178 (o_clt 42 34 ls st σ) ls σ Q := rn_row rfl ls st σ Q
theorem r_178_34 (ls : a_LS) (st : List Value) (σ : a_HP) (Q : Option Value → a_HP → Prop) : Rn 178 34 ls st σ Q = acR 178 (o_ldi 5 36 ls st σ) ls σ Q := rn_row rfl ls st σ Q
theorem r_178_36 (ls : a_LS) (st : List Value) (σ : a_HP) (Q : Option Value → a_HP → Prop) : Rn 178 36 ls st σ Q = acR 178 (o_ldi 6 38 ls st σ) ls σ Q := rn_row rfl ls st σ Q
theorem r_178_38 (ls : a_LS) (st : List Value) (σ : a_HP) (Q : Option Value → a_HP → Prop) : Rn 178 38 ls st σ Q = acR 178 (o_bi f_add 39 ls st σ) ls σ Q := rn_row rfl ls st σ Q
theorem r_178_39 (ls : a_LS) (st : List Value) (σ : a_HP) (Q : Option Value → a_HP → Prop) : Rn 178 39 ls st σ Q = acR 178 (o_le 47 42 ls st σ) ls σ Q := rn_row rfl ls st σ Q
theorem r_178_42 (ls : a_LS) (st : List Value) (σ : a_HP) (Q : Option Value → a_HP → Prop) : Rn 178 42 ls st σ Q = acR 178 (o_pi (1000000) 44 ls st σ) ls σ Q := rn_row rfl ls st σ Q
theorem r_178_44 (ls : a_LS) (st : List Value) (σ : a_HP) (Q : Option Value → a_HP → Prop) : Rn 178 44 ls st σ Q = acR 178 (o_go 48 ls st σ) ls σ Q := rn_row rfl ls st σ Q
theorem r_178_47 (ls : a_LS) (st : List Value) (σ : a_HP) (Q : Option Value → a_HP → Prop) : Rn 178 47 ls st σ Q = acR 178 (o_pi (nI 0) 48 ls st σ) ls σ Q := rn_row rfl ls st σ Q
theorem r_178_48 (ls : a_LS) (st : List Value) (σ : a_HP) (Q : Option Value → a_HP → Prop) : Rn 178 48 ls st σ Q = acR 178 (o_sti 7 50 ls st σ) ls σ Q := rn_row rfl ls st σ Q
theorem r_178_50 (ls : a_LS) (st : List Value) (σ : a_HP) (Q : Option Value → a_HP → Prop) : Rn 178 50 ls st σ Q = acR 178 (o_pi (nI 0) 51 ls st σ) ls σ Q := rn_row rfl ls st σ Q
theorem r_178_51 (ls : a_LS) (st : List Value) (σ : a_HP) (Q : Option Value → a_HP → Prop) : Rn 178 51 ls st σ Q = acR 178 (o_sti 8 53 ls st σ) ls σ Q := rn_row rfl ls st σ Q
theorem r_178_53 (ls : a_LS) (st : List Value) (σ : a_HP) (Q : Option Value → a_HP → Prop) : Rn 178 53 ls st σ Q = acR 178 (o_ldi 4 55 ls st σ) ls σ Q := rn_row rfl ls st σ Q
theorem r_178_55 (ls : a_LS) (st : List Value) (σ : a_HP) (Q : Option Value → a_HP → Prop) : Rn 178 55 ls st σ Q = acR 178 (o_ldi 3 56 ls st σ) ls σ Q := rn_row rfl ls st σ Q
theorem r_178_56 (ls : a_LS) (st : List Value) (σ : a_HP) (Q : Option Value → a_HP → Prop) : Rn 178 56 ls st σ Q = acR 178 (o_cge 113 59 ls st σ) ls σ Q := rn_row rfl ls st σ Q
theorem r_178_59 (ls : a_LS) (st : List Value) (σ : a_HP) (Q : Option Value → a_HP → Prop) : Rn 178 59 ls st σ Q = acR 178 (o_ldi 8 61 ls st σ) ls σ Q := rn_row rfl ls st σ Q
theorem r_178_61 (ls : a_LS) (st : List Value) (σ : a_HP) (Q : Option Value → a_HP → Prop) : Rn 178 61 ls st σ Q = acR 178 (o_lda 0 62 ls st σ) ls σ Q := rn_row rfl ls st σ Q
theorem r_178_62 (ls : a_LS) (st : List Value) (σ : a_HP) (Q : Option Value → a_HP → Prop) : Rn 178 62 ls st σ Q = acR 178 (o_lda 0 63 ls st σ) ls σ Q := rn_row rfl ls st σ Q
theorem r_178_63 (ls : a_LS) (st : List Value) (σ : a_HP) (Q : Option Value → a_HP → Prop) : Rn 178 63 ls st σ Q = acR 178 (o_get 8 17 66 ls st σ) ls σ Q := rn_row rfl ls st σ Q
theorem r_178_66 (ls : a_LS) (st : List Value) (σ : a_HP) (Q : Option Value → a_HP → Prop) : Rn 178 66 ls st σ Q = acR 178 (o_ldi 4 68 ls st σ) ls σ Q := rn_row rfl ls st σ Q
theorem r_178_68 (ls : a_LS) (st : List Value) (σ : a_HP) (Q : Option Value → a_HP → Prop) : Rn 178 68 ls st σ Q = acR 178 (o_ial 69 ls st σ) ls σ Q := rn_row rfl ls st σ Q
theorem r_178_69 (ls : a_LS) (st : List Value) (σ : a_HP) (Q : Option Value → a_HP → Prop) : Rn 178 69 ls st σ Q = acR 178 (o_ivv 8 176 1 72 ls st σ) ls σ Q := rn_row rfl ls st σ Q
theorem r_178_72 (ls : a_LS) (st : List Value) (σ : a_HP) (Q : Option Value → a_HP → Prop) : Rn 178 72 ls st σ Q = acR 178 (o_cgt 113 75 ls st σ) ls σ Q := rn_row rfl ls st σ Q
theorem r_178_75 (ls : a_LS) (st : List Value) (σ : a_HP) (Q : Option Value → a_HP → Prop) : Rn 178 75 ls st σ Q = acR 178 (o_lda 0 76 ls st σ) ls σ Q := rn_row rfl ls st σ Q
theorem r_178_76 (ls : a_LS) (st : List Value) (σ : a_HP) (Q : Option Value → a_HP → Prop) : Rn 178 76 ls st σ Q = acR 178 (o_ldi 1 77 ls st σ) ls σ Q := rn_row rfl ls st σ Q
theorem r_178_77 (ls : a_LS) (st : List Value) (σ : a_HP) (Q : Option Value → a_HP → Prop) : Rn 178 77 ls st σ Q = acR 178 (o_ldi 2 78 ls st σ) ls σ Q := rn_row rfl ls st σ Q
theorem r_178_78 (ls : a_LS) (st : List Value) (σ : a_HP) (Q : Option Value → a_HP → Prop) : Rn 178 78 ls st σ Q = acR 178 (o_ldi 4 80 ls st σ) ls σ Q := rn_row rfl ls st σ Q
theorem r_178_80 (ls : a_LS) (st : List Value) (σ : a_HP) (Q : Option Value → a_HP → Prop) : Rn 178 80 ls st σ Q = acR 178 (o_ldi 5 82 ls st σ) ls σ Q := rn_row rfl ls st σ Q
theorem r_178_82 (ls : a_LS) (st : List Value) (σ : a_HP) (Q : Option Value → a_HP → Prop) : Rn 178 82 ls st σ Q = acR 178 (o_ldi 6 84 ls st σ) ls σ Q := rn_row rfl ls st σ Q
theorem r_178_84 (ls : a_LS) (st : List Value) (σ : a_HP) (Q : Option Value → a_HP → Prop) : Rn 178 84 ls st σ Q = acR 178 (o_ldi 8 86 ls st σ) ls σ Q := rn_row rfl ls st σ Q
theorem r_178_86 (ls : a_LS) (st : List Value) (σ : a_HP) (Q : Option Value → a_HP → Prop) : Rn 178 86 ls st σ Q = acR 178 (o_ivv 8 177 6 89 ls st σ) ls σ Q := rn_row rfl ls st σ Q
theorem r_178_89 (ls : a_LS) (st : List Value) (σ : a_HP) (Q : Option Value → a_HP → Prop) : Rn 178 89 ls st σ Q = acR 178 (o_sti 9 91 ls st σ) ls σ Q := rn_row rfl ls st σ Q
theorem r_178_91 (ls : a_LS) (st : List Value) (σ : a_HP) (Q : Option Value → a_HP → Prop) : Rn 178 91 ls st σ Q = acR 178 (o_ldi 9 93 ls st σ) ls σ Q := rn_row rfl ls st σ Q
theorem r_178_93 (ls : a_LS) (st : List Value) (σ : a_HP) (Q : Option Value → a_HP → Prop) : Rn 178 93 ls st σ Q = acR 178 (o_ldi 7 95 ls st σ) ls σ Q := rn_row rfl ls st σ Q
theorem r_178_95 (ls : a_LS) (st : List Value) (σ : a_HP) (Q : Option Value → a_HP → Prop) : Rn 178 95 ls st σ Q = acR 178 (o_cge 103 98 ls st σ) ls σ Q := rn_row rfl ls st σ Q
theorem r_178_98 (ls : a_LS) (st : List Value) (σ : a_HP) (Q : Option Value → a_HP → Prop) : Rn 178 98 ls st σ Q = acR 178 (o_ldi 9 100 ls st σ) ls σ Q := rn_row rfl ls st σ Q
theorem r_178_100 (ls : a_LS) (st : List Value) (σ : a_HP) (Q : Option Value → a_HP → Prop) : Rn 178 100 ls st σ Q = acR 178 (o_go 105 ls st σ) ls σ Q := rn_row rfl ls st σ Q
theorem r_178_103 (ls : a_LS) (st : List Value) (σ : a_HP) (Q : Option Value → a_HP → Prop) : Rn 178 103 ls st σ Q = acR 178 (o_ldi 7 105 ls st σ) ls σ Q := rn_row rfl ls st σ Q
theorem r_178_105 (ls : a_LS) (st : List Value) (σ : a_HP) (Q : Option Value → a_HP → Prop) : Rn 178 105 ls st σ Q = acR 178 (o_sti 7 107 ls st σ) ls σ Q := rn_row rfl ls st σ Q
theorem r_178_107 (ls : a_LS) (st : List Value) (σ : a_HP) (Q : Option Value → a_HP → Prop) : Rn 178 107 ls st σ Q = acR 178 (o_inc 8 (nI 1) 110 ls st σ) ls σ Q := rn_row rfl ls st σ Q
theorem r_178_110 (ls : a_LS) (st : List Value) (σ : a_HP) (Q : Option Value → a_HP → Prop) : Rn 178 110 ls st σ Q = acR 178 (o_go 53 ls st σ) ls σ Q := rn_row rfl ls st σ Q
theorem r_178_113 (ls : a_LS) (st : List Value) (σ : a_HP) (Q : Option Value → a_HP → Prop) : Rn 178 113 ls st σ Q = acR 178 (o_lda 0 114 ls st σ) ls σ Q := rn_row rfl ls st σ Q
theorem r_178_114 (ls : a_LS) (st : List Value) (σ : a_HP) (Q : Option Value → a_HP → Prop) : Rn 178 114 ls st σ Q = acR 178 (o_get 8 18 117 ls st σ) ls σ Q := rn_row rfl ls st σ Q
theorem r_178_117 (ls : a_LS) (st : List Value) (σ : a_HP) (Q : Option Value → a_HP → Prop) : Rn 178 117 ls st σ Q = acR 178 (o_ldi 4 119 ls st σ) ls σ Q := rn_row rfl ls st σ Q
theorem r_178_119 (ls : a_LS) (st : List Value) (σ : a_HP) (Q : Option Value → a_HP → Prop) : Rn 178 119 ls st σ Q = acR 178 (o_ldi 5 121 ls st σ) ls σ Q := rn_row rfl ls st σ Q
theorem r_178_121 (ls : a_LS) (st : List Value) (σ : a_HP) (Q : Option Value → a_HP → Prop) : Rn 178 121 ls st σ Q = acR 178 (o_ldi 6 123 ls st σ) ls σ Q := rn_row rfl ls st σ Q
theorem r_178_123 (ls : a_LS) (st : List Value) (σ : a_HP) (Q : Option Value → a_HP → Prop) : Rn 178 123 ls st σ Q = acR 178 (o_ivs 173 3 126 ls st σ) ls σ Q := rn_row rfl ls st σ Q
theorem r_178_126 (ls : a_LS) (st : List Value) (σ : a_HP) (Q : Option Value → a_HP → Prop) : Rn 178 126 ls st σ Q = acR 178 (o_ldi 7 128 ls st σ) ls σ Q := rn_row rfl ls st σ Q
theorem r_178_128 (ls : a_LS) (st : List Value) (σ : a_HP) (Q : Option Value → a_HP → Prop) : Rn 178 128 ls st σ Q = acR 178 (o_ias 129 ls st σ) ls σ Q := rn_row rfl ls st σ Q
theorem r_178_129 (ls : a_LS) (st : List Value) (σ : a_HP) (Q : Option Value → a_HP → Prop) : Rn 178 129 ls st σ Q = acR 178 (o_inc 6 (nI 1) 132 ls st σ) ls σ Q := rn_row rfl ls st σ Q
theorem r_178_132 (ls : a_LS) (st : List Value) (σ : a_HP) (Q : Option Value → a_HP → Prop) : Rn 178 132 ls st σ Q = acR 178 (o_go 21 ls st σ) ls σ Q := rn_row rfl ls st σ Q
theorem r_178_135 (ls : a_LS) (st : List Value) (σ : a_HP) (Q : Option Value → a_HP → Prop) : Rn 178 135 ls st σ Q = acR 178 (o_inc 5 (nI 1) 138 ls st σ) ls σ Q := rn_row rfl ls st σ Q
theorem r_178_138 (ls : a_LS) (st : List Value) (σ : a_HP) (Q : Option Value → a_HP → Prop) : Rn 178 138 ls st σ Q = acR 178 (o_go 11 ls st σ) ls σ Q := rn_row rfl ls st σ Q
theorem r_178_141 (ls : a_LS) (st : List Value) (σ : a_HP) (Q : Option Value → a_HP → Prop) : Rn 178 141 ls st σ Q = acR 178 (o_inc 4 (-1) 144 ls st σ) ls σ Q := rn_row rfl ls st σ Q
theorem r_178_144 (ls : a_LS) (st : List Value) (σ : a_HP) (Q : Option Value → a_HP → Prop) : Rn 178 144 ls st σ Q = acR 178 (o_go 3 ls st σ) ls σ Q := rn_row rfl ls st σ Q
theorem r_178_147 (ls : a_LS) (st : List Value) (σ : a_HP) (Q : Option Value → a_HP → Prop) : Rn 178 147 ls st σ Q = acR 178 (o_rv ls st σ) ls σ Q := rn_row rfl ls st σ Q
/-! 179: NetLawModel.least(III)I -/
theorem cl_179 (x0 : Nat) (x1 : Int32) (x2 : Int32) (x3 : Int32) (σ : a_HP) (Q : Option Value → a_HP → Prop) : Cl 179 [.ref x0, .int x1, .int x2, .int x3] σ Q = Rn 179 0 [some (.ref x0), some (.int x1), some (.int x2), some (.int x3), none, none, none, none, none, none, none, none, none] [] σ Q := cl_of (Nat.le_of_ble_eq_true rfl) rfl σ Q
theorem r_179_0 (ls : a_LS) (st : List Value) (σ : a_HP) (Q : Option Value → a_HP → Prop) : Rn 179 0 ls st σ Q = acR 179 (o_ldi 1 1 ls st σ) ls σ Q := rn_row rfl ls st σ Q
theorem r_179_1 (ls : a_LS) (st : List Value) (σ : a_HP) (Q : Option Value → a_HP → Prop) : Rn 179 1 ls st σ Q = acR 179 (o_ivs 142 1 4 ls st σ) ls σ Q := rn_row rfl ls st σ Q
theorem r_179_4 (ls : a_LS) (st : List Value) (σ : a_HP) (Q : Option Value → a_HP → Prop) : Rn 179 4 ls st σ Q = acR 179 (o_eq 28 7 ls st σ) ls σ Q := rn_row rfl ls st σ Q
theorem r_179_7 (ls : a_LS) (st : List Value) (σ : a_HP) (Q : Option Value → a_HP → Prop) : Rn 179 7 ls st σ Q = acR 179 (o_ldi 2 8 ls st σ) ls σ Q := rn_row rfl ls st σ Q
theorem r_179_8 (ls : a_LS) (st : List Value) (σ : a_HP) (Q : Option Value → a_HP → Prop) : Rn 179 8 ls st σ Q = acR 179 (o_ivs 142 1 11 ls st σ) ls σ Q := rn_row rfl ls st σ Q
theorem r_179_11 (ls : a_LS) (st : List Value) (σ : a_HP) (Q : Option Value → a_HP → Prop) : Rn 179 11 ls st σ Q = acR 179 (o_eq 28 14 ls st σ) ls σ Q := rn_row rfl ls st σ Q
theorem r_179_14 (ls : a_LS) (st : List Value) (σ : a_HP) (Q : Option Value → a_HP → Prop) : Rn 179 14 ls st σ Q = acR 179 (o_ldi 3 15 ls st σ) ls σ Q := rn_row rfl ls st σ Q
theorem r_179_15 (ls : a_LS) (st : List Value) (σ : a_HP) (Q : Option Value → a_HP → Prop) : Rn 179 15 ls st σ Q = acR 179 (o_i2l 16 ls st σ) ls σ Q := rn_row rfl ls st σ Q
theorem r_179_16 (ls : a_LS) (st : List Value) (σ : a_HP) (Q : Option Value → a_HP → Prop) : Rn 179 16 ls st σ Q = acR 179 (o_pl (-1) 19 ls st σ) ls σ Q := rn_row rfl ls st σ Q
theorem r_179_19 (ls : a_LS) (st : List Value) (σ : a_HP) (Q : Option Value → a_HP → Prop) : Rn 179 19 ls st σ Q = acR 179 (o_pl (lN 15) 22 ls st σ) ls σ Q := rn_row rfl ls st σ Q
theorem r_179_22 (ls : a_LS) (st : List Value) (σ : a_HP) (Q : Option Value → a_HP → Prop) : Rn 179 22 ls st σ Q = acR 179 (o_ivs 122 3 25 ls st σ) ls σ Q := rn_row rfl ls st σ Q
theorem r_179_25 (ls : a_LS) (st : List Value) (σ : a_HP) (Q : Option Value → a_HP → Prop) : Rn 179 25 ls st σ Q = acR 179 (o_ne 35 28 ls st σ) ls σ Q := rn_row rfl ls st σ Q
theorem r_179_28 (ls : a_LS) (st : List Value) (σ : a_HP) (Q : Option Value → a_HP → Prop) : Rn 179 28 ls st σ Q = acR 179 (o_lda 0 29 ls st σ) ls σ Q := rn_row rfl ls st σ Q
theorem r_179_29 (ls : a_LS) (st : List Value) (σ : a_HP) (Q : Option Value → a_HP → Prop) : Rn 179 29 ls st σ Q = acR 179 (o_pi (-10) 31 ls st σ) ls σ Q := rn_row rfl ls st σ Q
theorem r_179_31 (ls : a_LS) (st : List Value) (σ : a_HP) (Q : Option Value → a_HP → Prop) : Rn 179 31 ls st σ Q = acR 179 (o_ivv 8 126 1 34 ls st σ) ls σ Q := rn_row rfl ls st σ Q
theorem r_179_34 (ls : a_LS) (st : List Value) (σ : a_HP) (Q : Option Value → a_HP → Prop) : Rn 179 34 ls st σ Q = acR 179 (o_ri ls st σ) ls σ Q := rn_row rfl ls st σ Q
theorem r_179_35 (ls : a_LS) (st : List Value) (σ : a_HP) (Q : Option Value → a_HP → Prop) : Rn 179 35 ls st σ Q = acR 179 (o_lda 0 36 ls st σ) ls σ Q := rn_row rfl ls st σ Q
theorem r_179_36 (ls : a_LS) (st : List Value) (σ : a_HP) (Q : Option Value → a_HP → Prop) : Rn 179 36 ls st σ Q = acR 179 (o_ldi 1 37 ls st σ) ls σ Q := rn_row rfl ls st σ Q
theorem r_179_37 (ls : a_LS) (st : List Value) (σ : a_HP) (Q : Option Value → a_HP → Prop) : Rn 179 37 ls st σ Q = acR 179 (o_ldi 2 38 ls st σ) ls σ Q := rn_row rfl ls st σ Q
theorem r_179_38 (ls : a_LS) (st : List Value) (σ : a_HP) (Q : Option Value → a_HP → Prop) : Rn 179 38 ls st σ Q = acR 179 (o_ivv 8 175 2 41 ls st σ) ls σ Q := rn_row rfl ls st σ Q
theorem r_179_41 (ls : a_LS) (st : List Value) (σ : a_HP) (Q : Option Value → a_HP → Prop) : Rn 179 41 ls st σ Q = acR 179 (o_sti 4 43 ls st σ) ls σ Q := rn_row rfl ls st σ Q
theorem r_179_43 (ls : a_LS) (st : List Value) (σ : a_HP) (Q : Option Value → a_HP → Prop) : Rn 179 43 ls st σ Q = acR 179 (o_lda 0 44 ls st σ) ls σ Q := rn_row rfl ls st σ Q
theorem r_179_44 (ls : a_LS) (st : List Value) (σ : a_HP) (Q : Option Value → a_HP → Prop) : Rn 179 44 ls st σ Q = acR 179 (o_ldi 1 45 ls st σ) ls σ Q := rn_row rfl ls st σ Q
theorem r_179_45 (ls : a_LS) (st : List Value) (σ : a_HP) (Q : Option Value → a_HP → Prop) : Rn 179 45 ls st σ Q = acR 179 (o_ldi 2 46 ls st σ) ls σ Q := rn_row rfl ls st σ Q
theorem r_179_46 (ls : a_LS) (st : List Value) (σ : a_HP) (Q : Option Value → a_HP → Prop) : Rn 179 46 ls st σ Q = acR 179 (o_ldi 4 48 ls st σ) ls σ Q := rn_row rfl ls st σ Q
theorem r_179_48 (ls : a_LS) (st : List Value) (σ : a_HP) (Q : Option Value → a_HP → Prop) : Rn 179 48 ls st σ Q = acR 179 (o_ivv 8 178 3 51 ls st σ) ls σ Q := rn_row rfl ls st σ Q
theorem r_179_51 (ls : a_LS) (st : List Value) (σ : a_HP) (Q : Option Value → a_HP → Prop) : Rn 179 51 ls st σ Q = acR 179 (o_lda 0 52 ls st σ) ls σ Q := rn_row rfl ls st σ Q
theorem r_179_52 (ls : a_LS) (st : List Value) (σ : a_HP) (Q : Option Value → a_HP → Prop) : Rn 179 52 ls st σ Q = acR 179 (o_get 8 0 55 ls st σ) ls σ Q := rn_row rfl ls st σ Q
theorem r_179_55 (ls : a_LS) (st : List Value) (σ : a_HP) (Q : Option Value → a_HP → Prop) : Rn 179 55 ls st σ Q = acR 179 (o_pi (nI 52) 57 ls st σ) ls σ Q := rn_row rfl ls st σ Q
theorem r_179_57 (ls : a_LS) (st : List Value) (σ : a_HP) (Q : Option Value → a_HP → Prop) : Rn 179 57 ls st σ Q = acR 179 (o_ldi 1 58 ls st σ) ls σ Q := rn_row rfl ls st σ Q
theorem r_179_58 (ls : a_LS) (st : List Value) (σ : a_HP) (Q : Option Value → a_HP → Prop) : Rn 179 58 ls st σ Q = acR 179 (o_bi f_add 59 ls st σ) ls σ Q := rn_row rfl ls st σ Q
theorem r_179_59 (ls : a_LS) (st : List Value) (σ : a_HP) (Q : Option Value → a_HP → Prop) : Rn 179 59 ls st σ Q = acR 179 (o_ial 60 ls st σ) ls σ Q := rn_row rfl ls st σ Q
theorem r_179_60 (ls : a_LS) (st : List Value) (σ : a_HP) (Q : Option Value → a_HP → Prop) : Rn 179 60 ls st σ Q = acR 179 (o_sti 5 62 ls st σ) ls σ Q := rn_row rfl ls st σ Q
theorem r_179_62 (ls : a_LS) (st : List Value) (σ : a_HP) (Q : Option Value → a_HP → Prop) : Rn 179 62 ls st σ Q = acR 179 (o_lda 0 63 ls st σ) ls σ Q := rn_row rfl ls st σ Q
theorem r_179_63 (ls : a_LS) (st : List Value) (σ : a_HP) (Q : Option Value → a_HP → Prop) : Rn 179 63 ls st σ Q = acR 179 (o_get 8 0 66 ls st σ) ls σ Q := rn_row rfl ls st σ Q
theorem r_179_66 (ls : a_LS) (st : List Value) (σ : a_HP) (Q : Option Value → a_HP → Prop) : Rn 179 66 ls st σ Q = acR 179 (o_pi (nI 52) 68 ls st σ) ls σ Q := rn_row rfl ls st σ Q
theorem r_179_68 (ls : a_LS) (st : List Value) (σ : a_HP) (Q : Option Value → a_HP → Prop) : Rn 179 68 ls st σ Q = acR 179 (o_ldi 2 69 ls st σ) ls σ Q := rn_row rfl ls st σ Q
theorem r_179_69 (ls : a_LS) (st : List Value) (σ : a_HP) (Q : Option Value → a_HP → Prop) : Rn 179 69 ls st σ Q = acR 179 (o_bi f_add 70 ls st σ) ls σ Q := rn_row rfl ls st σ Q
theorem r_179_70 (ls : a_LS) (st : List Value) (σ : a_HP) (Q : Option Value → a_HP → Prop) : Rn 179 70 ls st σ Q = acR 179 (o_ial 71 ls st σ) ls σ Q := rn_row rfl ls st σ Q
theorem r_179_71 (ls : a_LS) (st : List Value) (σ : a_HP) (Q : Option Value → a_HP → Prop) : Rn 179 71 ls st σ Q = acR 179 (o_sti 6 73 ls st σ) ls σ Q := rn_row rfl ls st σ Q
theorem r_179_73 (ls : a_LS) (st : List Value) (σ : a_HP) (Q : Option Value → a_HP → Prop) : Rn 179 73 ls st σ Q = acR 179 (o_lda 0 74 ls st σ) ls σ Q := rn_row rfl ls st σ Q
theorem r_179_74 (ls : a_LS) (st : List Value) (σ : a_HP) (Q : Option Value → a_HP → Prop) : Rn 179 74 ls st σ Q = acR 179 (o_get 8 18 77 ls st σ) ls σ Q := rn_row rfl ls st σ Q
theorem r_179_77 (ls : a_LS) (st : List Value) (σ : a_HP) (Q : Option Value → a_HP → Prop) : Rn 179 77 ls st σ Q = acR 179 (o_pi (nI 0) 78 ls st σ) ls σ Q := rn_row rfl ls st σ Q
theorem r_179_78 (ls : a_LS) (st : List Value) (σ : a_HP) (Q : Option Value → a_HP → Prop) : Rn 179 78 ls st σ Q = acR 179 (o_ldi 5 80 ls st σ) ls σ Q := rn_row rfl ls st σ Q
theorem r_179_80 (ls : a_LS) (st : List Value) (σ : a_HP) (Q : Option Value → a_HP → Prop) : Rn 179 80 ls st σ Q = acR 179 (o_ldi 6 82 ls st σ) ls σ Q := rn_row rfl ls st σ Q
theorem r_179_82 (ls : a_LS) (st : List Value) (σ : a_HP) (Q : Option Value → a_HP → Prop) : Rn 179 82 ls st σ Q = acR 179 (o_ivs 173 3 85 ls st σ) ls σ Q := rn_row rfl ls st σ Q
theorem r_179_85 (ls : a_LS) (st : List Value) (σ : a_HP) (Q : Option Value → a_HP → Prop) : Rn 179 85 ls st σ Q = acR 179 (o_ial 86 ls st σ) ls σ Q := rn_row rfl ls st σ Q
theorem r_179_86 (ls : a_LS) (st : List Value) (σ : a_HP) (Q : Option Value → a_HP → Prop) : Rn 179 86 ls st σ Q = acR 179 (o_sti 7 88 ls st σ) ls σ Q := rn_row rfl ls st σ Q
theorem r_179_88 (ls : a_LS) (st : List Value) (σ : a_HP) (Q : Option Value → a_HP → Prop) : Rn 179 88 ls st σ Q = acR 179 (o_ldi 7 90 ls st σ) ls σ Q := rn_row rfl ls st σ Q
theorem r_179_90 (ls : a_LS) (st : List Value) (σ : a_HP) (Q : Option Value → a_HP → Prop) : Rn 179 90 ls st σ Q = acR 179 (o_pi (1000000) 92 ls st σ) ls σ Q := rn_row rfl ls st σ Q
theorem r_179_92 (ls : a_LS) (st : List Value) (σ : a_HP) (Q : Option Value → a_HP → Prop) : Rn 179 92 ls st σ Q = acR 179 (o_clt 98 95 ls st σ) ls σ Q := rn_row rfl ls st σ Q
theorem r_179_95 (ls : a_LS) (st : List Value) (σ : a_HP) (Q : Option Value → a_HP → Prop) : Rn 179 95 ls st σ Q = acR 179 (o_pi (-5) 97 ls st σ) ls σ Q := rn_row rfl ls st σ Q
theorem r_179_97 (ls : a_LS) (st : List Value) (σ : a_HP) (Q : Option Value → a_HP → Prop) : Rn 179 97 ls st σ Q = acR 179 (o_ri ls st σ) ls σ Q := rn_row rfl ls st σ Q
theorem r_179_98 (ls : a_LS) (st : List Value) (σ : a_HP) (Q : Option Value → a_HP → Prop) : Rn 179 98 ls st σ Q = acR 179 (o_ldi 3 99 ls st σ) ls σ Q := rn_row rfl ls st σ Q
theorem r_179_99 (ls : a_LS) (st : List Value) (σ : a_HP) (Q : Option Value → a_HP → Prop) : Rn 179 99 ls st σ Q = acR 179 (o_pi (-1) 100 ls st σ) ls σ Q := rn_row rfl ls st σ Q
theorem r_179_100 (ls : a_LS) (st : List Value) (σ : a_HP) (Q : Option Value → a_HP → Prop) : Rn 179 100 ls st σ Q = acR 179 (o_cne 106 103 ls st σ) ls σ Q := rn_row rfl ls st σ Q
theorem r_179_103 (ls : a_LS) (st : List Value) (σ : a_HP) (Q : Option Value → a_HP → Prop) : Rn 179 103 ls st σ Q = acR 179 (o_ldi 7 105 ls st σ) ls σ Q := rn_row rfl ls st σ Q
theorem r_179_105 (ls : a_LS) (st : List Value) (σ : a_HP) (Q : Option Value → a_HP → Prop) : Rn 179 105 ls st σ Q = acR 179 (o_ri ls st σ) ls σ Q := rn_row rfl ls st σ Q
theorem r_179_106 (ls : a_LS) (st : List Value) (σ : a_HP) (Q : Option Value → a_HP → Prop) : Rn 179 106 ls st σ Q = acR 179 (o_pi (nI 0) 107 ls st σ) ls σ Q := rn_row rfl ls st σ Q
theorem r_179_107 (ls : a_LS) (st : List Value) (σ : a_HP) (Q : Option Value → a_HP → Prop) : Rn 179 107 ls st σ Q = acR 179 (o_sti 8 109 ls st σ) ls σ Q := rn_row rfl ls st σ Q
theorem r_179_109 (ls : a_LS) (st : List Value) (σ : a_HP) (Q : Option Value → a_HP → Prop) : Rn 179 109 ls st σ Q = acR 179 (o_ldi 8 111 ls st σ) ls σ Q := rn_row rfl ls st σ Q
theorem r_179_111 (ls : a_LS) (st : List Value) (σ : a_HP) (Q : Option Value → a_HP → Prop) : Rn 179 111 ls st σ Q = acR 179 (o_ldi 4 113 ls st σ) ls σ Q := rn_row rfl ls st σ Q
theorem r_179_113 (ls : a_LS) (st : List Value) (σ : a_HP) (Q : Option Value → a_HP → Prop) : Rn 179 113 ls st σ Q = acR 179 (o_cge 281 116 ls st σ) ls σ Q := rn_row rfl ls st σ Q
theorem r_179_116 (ls : a_LS) (st : List Value) (σ : a_HP) (Q : Option Value → a_HP → Prop) : Rn 179 116 ls st σ Q = acR 179 (o_pi (nI 0) 117 ls st σ) ls σ Q := rn_row rfl ls st σ Q
theorem r_179_117 (ls : a_LS) (st : List Value) (σ : a_HP) (Q : Option Value → a_HP → Prop) : Rn 179 117 ls st σ Q = acR 179 (o_sti 9 119 ls st σ) ls σ Q := rn_row rfl ls st σ Q
theorem r_179_119 (ls : a_LS) (st : List Value) (σ : a_HP) (Q : Option Value → a_HP → Prop) : Rn 179 119 ls st σ Q = acR 179 (o_lda 0 120 ls st σ) ls σ Q := rn_row rfl ls st σ Q
theorem r_179_120 (ls : a_LS) (st : List Value) (σ : a_HP) (Q : Option Value → a_HP → Prop) : Rn 179 120 ls st σ Q = acR 179 (o_ldi 1 121 ls st σ) ls σ Q := rn_row rfl ls st σ Q
theorem r_179_121 (ls : a_LS) (st : List Value) (σ : a_HP) (Q : Option Value → a_HP → Prop) : Rn 179 121 ls st σ Q = acR 179 (o_ldi 2 122 ls st σ) ls σ Q := rn_row rfl ls st σ Q
theorem r_179_122 (ls : a_LS) (st : List Value) (σ : a_HP) (Q : Option Value → a_HP → Prop) : Rn 179 122 ls st σ Q = acR 179 (o_ldi 8 124 ls st σ) ls σ Q := rn_row rfl ls st σ Q
theorem r_179_124 (ls : a_LS) (st : List Value) (σ : a_HP) (Q : Option Value → a_HP → Prop) : Rn 179 124 ls st σ Q = acR 179 (o_ldi 5 126 ls st σ) ls σ Q := rn_row rfl ls st σ Q
theorem r_179_126 (ls : a_LS) (st : List Value) (σ : a_HP) (Q : Option Value → a_HP → Prop) : Rn 179 126 ls st σ Q = acR 179 (o_ldi 6 128 ls st σ) ls σ Q := rn_row rfl ls st σ Q
theorem r_179_128 (ls : a_LS) (st : List Value) (σ : a_HP) (Q : Option Value → a_HP → Prop) : Rn 179 128 ls st σ Q = acR 179 (o_ldi 9 130 ls st σ) ls σ Q := rn_row rfl ls st σ Q
theorem r_179_130 (ls : a_LS) (st : List Value) (σ : a_HP) (Q : Option Value → a_HP → Prop) : Rn 179 130 ls st σ Q = acR 179 (o_ivv 8 177 6 133 ls st σ) ls σ Q := rn_row rfl ls st σ Q
theorem r_179_133 (ls : a_LS) (st : List Value) (σ : a_HP) (Q : Option Value → a_HP → Prop) : Rn 179 133 ls st σ Q = acR 179 (o_lda 0 134 ls st σ) ls σ Q := rn_row rfl ls st σ Q
theorem r_179_134 (ls : a_LS) (st : List Value) (σ : a_HP) (Q : Option Value → a_HP → Prop) : Rn 179 134 ls st σ Q = acR 179 (o_get 8 18 137 ls st σ) ls σ Q := rn_row rfl ls st σ Q
theorem r_179_137 (ls : a_LS) (st : List Value) (σ : a_HP) (Q : Option Value → a_HP → Prop) : Rn 179 137 ls st σ Q = acR 179 (o_ldi 8 139 ls st σ) ls σ Q := rn_row rfl ls st σ Q
theorem r_179_139 (ls : a_LS) (st : List Value) (σ : a_HP) (Q : Option Value → a_HP → Prop) : Rn 179 139 ls st σ Q = acR 179 (o_ldi 5 141 ls st σ) ls σ Q := rn_row rfl ls st σ Q
theorem r_179_141 (ls : a_LS) (st : List Value) (σ : a_HP) (Q : Option Value → a_HP → Prop) : Rn 179 141 ls st σ Q = acR 179 (o_ldi 6 143 ls st σ) ls σ Q := rn_row rfl ls st σ Q
theorem r_179_143 (ls : a_LS) (st : List Value) (σ : a_HP) (Q : Option Value → a_HP → Prop) : Rn 179 143 ls st σ Q = acR 179 (o_ivs 173 3 146 ls st σ) ls σ Q := rn_row rfl ls st σ Q
theorem r_179_146 (ls : a_LS) (st : List Value) (σ : a_HP) (Q : Option Value → a_HP → Prop) : Rn 179 146 ls st σ Q = acR 179 (o_ial 147 ls st σ) ls σ Q := rn_row rfl ls st σ Q
theorem r_179_147 (ls : a_LS) (st : List Value) (σ : a_HP) (Q : Option Value → a_HP → Prop) : Rn 179 147 ls st σ Q = acR 179 (o_ceq 156 150 ls st σ) ls σ Q := rn_row rfl ls st σ Q
theorem r_179_150 (ls : a_LS) (st : List Value) (σ : a_HP) (Q : Option Value → a_HP → Prop) : Rn 179 150 ls st σ Q = acR 179 (o_inc 9 (nI 1) 153 ls st σ) ls σ Q := rn_row rfl ls st σ Q
theorem r_179_153 (ls : a_LS) (st : List Value) (σ : a_HP) (Q : Option Value → a_HP → Prop) : Rn 179 153 ls st σ Q = acR 179 (o_go 119 ls st σ) ls σ Q := rn_row rfl ls st σ Q
theorem r_179_156 (ls : a_LS) (st : List Value) (σ : a_HP) (Q : Option Value → a_HP → Prop) : Rn 179 156 ls st σ Q = acR 179 (o_lda 0 157 ls st σ) ls σ Q := rn_row rfl ls st σ Q
theorem r_179_157 (ls : a_LS) (st : List Value) (σ : a_HP) (Q : Option Value → a_HP → Prop) : Rn 179 157 ls st σ Q = acR 179 (o_get 8 17 160 ls st σ) ls σ Q := rn_row rfl ls st σ Q
theorem r_179_160 (ls : a_LS) (st : List Value) (σ : a_HP) (Q : Option Value → a_HP → Prop) : Rn 179 160 ls st σ Q = acR 179 (o_ldi 8 162 ls st σ) ls σ Q := rn_row rfl ls st σ Q
theorem r_179_162 (ls : a_LS) (st : List Value) (σ : a_HP) (Q : Option Value → a_HP → Prop) : Rn 179 162 ls st σ Q = acR 179 (o_ial 163 ls st σ) ls σ Q := rn_row rfl ls st σ Q
theorem r_179_163 (ls : a_LS) (st : List Value) (σ : a_HP) (Q : Option Value → a_HP → Prop) : Rn 179 163 ls st σ Q = acR 179 (o_sti 10 165 ls st σ) ls σ Q := rn_row rfl ls st σ Q
theorem r_179_165 (ls : a_LS) (st : List Value) (σ : a_HP) (Q : Option Value → a_HP → Prop) : Rn 179 165 ls st σ Q = acR 179 (o_ldi 10 167 ls st σ) ls σ Q := rn_row rfl ls st σ Q
theorem r_179_167 (ls : a_LS) (st : List Value) (σ : a_HP) (Q : Option Value → a_HP → Prop) : Rn 179 167 ls st σ Q = acR 179 (o_ldi 3 168 ls st σ) ls σ Q := rn_row rfl ls st σ Q
theorem r_179_168 (ls : a_LS) (st : List Value) (σ : a_HP) (Q : Option Value → a_HP → Prop) : Rn 179 168 ls st σ Q = acR 179 (o_cne 174 171 ls st σ) ls σ Q := rn_row rfl ls st σ Q
theorem r_179_171 (ls : a_LS) (st : List Value) (σ : a_HP) (Q : Option Value → a_HP → Prop) : Rn 179 171 ls st σ Q = acR 179 (o_ldi 9 173 ls st σ) ls σ Q := rn_row rfl ls st σ Q
theorem r_179_173 (ls : a_LS) (st : List Value) (σ : a_HP) (Q : Option Value → a_HP → Prop) : Rn 179 173 ls st σ Q = acR 179 (o_ri ls st σ) ls σ Q := rn_row rfl ls st σ Q
theorem r_179_174 (ls : a_LS) (st : List Value) (σ : a_HP) (Q : Option Value → a_HP → Prop) : Rn 179 174 ls st σ Q = acR 179 (o_lda 0 175 ls st σ) ls σ Q := rn_row rfl ls st σ Q
theorem r_179_175 (ls : a_LS) (st : List Value) (σ : a_HP) (Q : Option Value → a_HP → Prop) : Rn 179 175 ls st σ Q = acR 179 (o_get 8 0 178 ls st σ) ls σ Q := rn_row rfl ls st σ Q
theorem r_179_178 (ls : a_LS) (st : List Value) (σ : a_HP) (Q : Option Value → a_HP → Prop) : Rn 179 178 ls st σ Q = acR 179 (o_pi (nI 20) 180 ls st σ) ls σ Q := rn_row rfl ls st σ Q
theorem r_179_180 (ls : a_LS) (st : List Value) (σ : a_HP) (Q : Option Value → a_HP → Prop) : Rn 179 180 ls st σ Q = acR 179 (o_ldi 10 182 ls st σ) ls σ Q := rn_row rfl ls st σ Q
theorem r_179_182 (ls : a_LS) (st : List Value) (σ : a_HP) (Q : Option Value → a_HP → Prop) : Rn 179 182 ls st σ Q = acR 179 (o_bi f_add 183 ls st σ) ls σ Q := rn_row rfl ls st σ Q
theorem r_179_183 (ls : a_LS) (st : List Value) (σ : a_HP) (Q : Option Value → a_HP → Prop) : Rn 179 183 ls st σ Q = acR 179 (o_ial 184 ls st σ) ls σ Q := rn_row rfl ls st σ Q
theorem r_179_184 (ls : a_LS) (st : List Value) (σ : a_HP) (Q : Option Value → a_HP → Prop) : Rn 179 184 ls st σ Q = acR 179 (o_sti 11 186 ls st σ) ls σ Q := rn_row rfl ls st σ Q
theorem r_179_186 (ls : a_LS) (st : List Value) (σ : a_HP) (Q : Option Value → a_HP → Prop) : Rn 179 186 ls st σ Q = acR 179 (o_lda 0 187 ls st σ) ls σ Q := rn_row rfl ls st σ Q
theorem r_179_187 (ls : a_LS) (st : List Value) (σ : a_HP) (Q : Option Value → a_HP → Prop) : Rn 179 187 ls st σ Q = acR 179 (o_get 8 0 190 ls st σ) ls σ Q := rn_row rfl ls st σ Q
theorem r_179_190 (ls : a_LS) (st : List Value) (σ : a_HP) (Q : Option Value → a_HP → Prop) : Rn 179 190 ls st σ Q = acR 179 (o_pi (nI 4) 191 ls st σ) ls σ Q := rn_row rfl ls st σ Q
theorem r_179_191 (ls : a_LS) (st : List Value) (σ : a_HP) (Q : Option Value → a_HP → Prop) : Rn 179 191 ls st σ Q = acR 179 (o_ldi 10 193 ls st σ) ls σ Q := rn_row rfl ls st σ Q
theorem r_179_193 (ls : a_LS) (st : List Value) (σ : a_HP) (Q : Option Value → a_HP → Prop) : Rn 179 193 ls st σ Q = acR 179 (o_bi f_add 194 ls st σ) ls σ Q := rn_row rfl ls st σ Q
theorem r_179_194 (ls : a_LS) (st : List Value) (σ : a_HP) (Q : Option Value → a_HP → Prop) : Rn 179 194 ls st σ Q = acR 179 (o_ial 195 ls st σ) ls σ Q := rn_row rfl ls st σ Q
theorem r_179_195 (ls : a_LS) (st : List Value) (σ : a_HP) (Q : Option Value → a_HP → Prop) : Rn 179 195 ls st σ Q = acR 179 (o_ldi 11 197 ls st σ) ls σ Q := rn_row rfl ls st σ Q
theorem r_179_197 (ls : a_LS) (st : List Value) (σ : a_HP) (Q : Option Value → a_HP → Prop) : Rn 179 197 ls st σ Q = acR 179 (o_ne 204 200 ls st σ) ls σ Q := rn_row rfl ls st σ Q
theorem r_179_200 (ls : a_LS) (st : List Value) (σ : a_HP) (Q : Option Value → a_HP → Prop) : Rn 179 200 ls st σ Q = acR 179 (o_pi (nI 0) 201 ls st σ) ls σ Q := rn_row rfl ls st σ Q
theorem r_179_201 (ls : a_LS) (st : List Value) (σ : a_HP) (Q : Option Value → a_HP → Prop) : Rn 179 201 ls st σ Q = acR 179 (o_go 209 ls st σ) ls σ Q := rn_row rfl ls st σ Q
theorem r_179_204 (ls : a_LS) (st : List Value) (σ : a_HP) (Q : Option Value → a_HP → Prop) : Rn 179 204 ls st σ Q = acR 179 (o_ldi 11 206 ls st σ) ls σ Q := rn_row rfl ls st σ Q
theorem r_179_206 (ls : a_LS) (st : List Value) (σ : a_HP) (Q : Option Value → a_HP → Prop) : Rn 179 206 ls st σ Q = acR 179 (o_ldi 9 208 ls st σ) ls σ Q := rn_row rfl ls st σ Q
theorem r_179_208 (ls : a_LS) (st : List Value) (σ : a_HP) (Q : Option Value → a_HP → Prop) : Rn 179 208 ls st σ Q = acR 179 (o_bi f_add 209 ls st σ) ls σ Q := rn_row rfl ls st σ Q
theorem r_179_209 (ls : a_LS) (st : List Value) (σ : a_HP) (Q : Option Value → a_HP → Prop) : Rn 179 209 ls st σ Q = acR 179 (o_lda 0 210 ls st σ) ls σ Q := rn_row rfl ls st σ Q
theorem r_179_210 (ls : a_LS) (st : List Value) (σ : a_HP) (Q : Option Value → a_HP → Prop) : Rn 179 210 ls st σ Q = acR 179 (o_get 8 0 213 ls st σ) ls σ Q := rn_row rfl ls st σ Q
theorem r_179_213 (ls : a_LS) (st : List Value) (σ : a_HP) (Q : Option Value → a_HP → Prop) : Rn 179 213 ls st σ Q = acR 179 (o_pi (nI 0) 214 ls st σ) ls σ Q := rn_row rfl ls st σ Q
theorem r_179_214 (ls : a_LS) (st : List Value) (σ : a_HP) (Q : Option Value → a_HP → Prop) : Rn 179 214 ls st σ Q = acR 179 (o_ial 215 ls st σ) ls σ Q := rn_row rfl ls st σ Q
theorem r_179_215 (ls : a_LS) (st : List Value) (σ : a_HP) (Q : Option Value → a_HP → Prop) : Rn 179 215 ls st σ Q = acR 179 (o_lda 0 216 ls st σ) ls σ Q := rn_row rfl ls st σ Q
theorem r_179_216 (ls : a_LS) (st : List Value) (σ : a_HP) (Q : Option Value → a_HP → Prop) : Rn 179 216 ls st σ Q = acR 179 (o_get 8 0 219 ls st σ) ls σ Q := rn_row rfl ls st σ Q
theorem r_179_219 (ls : a_LS) (st : List Value) (σ : a_HP) (Q : Option Value → a_HP → Prop) : Rn 179 219 ls st σ Q = acR 179 (o_ldi 10 221 ls st σ) ls σ Q := rn_row rfl ls st σ Q
theorem r_179_221 (ls : a_LS) (st : List Value) (σ : a_HP) (Q : Option Value → a_HP → Prop) : Rn 179 221 ls st σ Q = acR 179 (o_ivs 132 2 224 ls st σ) ls σ Q := rn_row rfl ls st σ Q
theorem r_179_224 (ls : a_LS) (st : List Value) (σ : a_HP) (Q : Option Value → a_HP → Prop) : Rn 179 224 ls st σ Q = acR 179 (o_ivs 133 4 227 ls st σ) ls σ Q := rn_row rfl ls st σ Q
theorem r_179_227 (ls : a_LS) (st : List Value) (σ : a_HP) (Q : Option Value → a_HP → Prop) : Rn 179 227 ls st σ Q = acR 179 (o_sti 12 229 ls st σ) ls σ Q := rn_row rfl ls st σ Q
theorem r_179_229 (ls : a_LS) (st : List Value) (σ : a_HP) (Q : Option Value → a_HP → Prop) : Rn 179 229 ls st σ Q = acR 179 (o_ldi 1 230 ls st σ) ls σ Q := rn_row rfl ls st σ Q
theorem r_179_230 (ls : a_LS) (st : List Value) (σ : a_HP) (Q : Option Value → a_HP → Prop) : Rn 179 230 ls st σ Q = acR 179 (o_ldi 10 232 ls st σ) ls σ Q := rn_row rfl ls st σ Q
theorem r_179_232 (ls : a_LS) (st : List Value) (σ : a_HP) (Q : Option Value → a_HP → Prop) : Rn 179 232 ls st σ Q = acR 179 (o_ivs 137 2 235 ls st σ) ls σ Q := rn_row rfl ls st σ Q
theorem r_179_235 (ls : a_LS) (st : List Value) (σ : a_HP) (Q : Option Value → a_HP → Prop) : Rn 179 235 ls st σ Q = acR 179 (o_eq 248 238 ls st σ) ls σ Q := rn_row rfl ls st σ Q
theorem r_179_238 (ls : a_LS) (st : List Value) (σ : a_HP) (Q : Option Value → a_HP → Prop) : Rn 179 238 ls st σ Q = acR 179 (o_ldi 5 240 ls st σ) ls σ Q := rn_row rfl ls st σ Q
theorem r_179_240 (ls : a_LS) (st : List Value) (σ : a_HP) (Q : Option Value → a_HP → Prop) : Rn 179 240 ls st σ Q = acR 179 (o_ldi 12 242 ls st σ) ls σ Q := rn_row rfl ls st σ Q
theorem r_179_242 (ls : a_LS) (st : List Value) (σ : a_HP) (Q : Option Value → a_HP → Prop) : Rn 179 242 ls st σ Q = acR 179 (o_ivs 174 2 245 ls st σ) ls σ Q := rn_row rfl ls st σ Q
theorem r_179_245 (ls : a_LS) (st : List Value) (σ : a_HP) (Q : Option Value → a_HP → Prop) : Rn 179 245 ls st σ Q = acR 179 (o_go 250 ls st σ) ls σ Q := rn_row rfl ls st σ Q
theorem r_179_248 (ls : a_LS) (st : List Value) (σ : a_HP) (Q : Option Value → a_HP → Prop) : Rn 179 248 ls st σ Q = acR 179 (o_ldi 5 250 ls st σ) ls σ Q := rn_row rfl ls st σ Q
theorem r_179_250 (ls : a_LS) (st : List Value) (σ : a_HP) (Q : Option Value → a_HP → Prop) : Rn 179 250 ls st σ Q = acR 179 (o_sti 5 252 ls st σ) ls σ Q := rn_row rfl ls st σ Q
theorem r_179_252 (ls : a_LS) (st : List Value) (σ : a_HP) (Q : Option Value → a_HP → Prop) : Rn 179 252 ls st σ Q = acR 179 (o_ldi 2 253 ls st σ) ls σ Q := rn_row rfl ls st σ Q
theorem r_179_253 (ls : a_LS) (st : List Value) (σ : a_HP) (Q : Option Value → a_HP → Prop) : Rn 179 253 ls st σ Q = acR 179 (o_ldi 10 255 ls st σ) ls σ Q := rn_row rfl ls st σ Q
theorem r_179_255 (ls : a_LS) (st : List Value) (σ : a_HP) (Q : Option Value → a_HP → Prop) : Rn 179 255 ls st σ Q = acR 179 (o_ivs 137 2 258 ls st σ) ls σ Q := rn_row rfl ls st σ Q
theorem r_179_258 (ls : a_LS) (st : List Value) (σ : a_HP) (Q : Option Value → a_HP → Prop) : Rn 179 258 ls st σ Q = acR 179 (o_eq 271 261 ls st σ) ls σ Q := rn_row rfl ls st σ Q
theorem r_179_261 (ls : a_LS) (st : List Value) (σ : a_HP) (Q : Option Value → a_HP → Prop) : Rn 179 261 ls st σ Q = acR 179 (o_ldi 6 263 ls st σ) ls σ Q := rn_row rfl ls st σ Q
theorem r_179_263 (ls : a_LS) (st : List Value) (σ : a_HP) (Q : Option Value → a_HP → Prop) : Rn 179 263 ls st σ Q = acR 179 (o_ldi 12 265 ls st σ) ls σ Q := rn_row rfl ls st σ Q
theorem r_179_265 (ls : a_LS) (st : List Value) (σ : a_HP) (Q : Option Value → a_HP → Prop) : Rn 179 265 ls st σ Q = acR 179 (o_ivs 174 2 268 ls st σ) ls σ Q := rn_row rfl ls st σ Q
theorem r_179_268 (ls : a_LS) (st : List Value) (σ : a_HP) (Q : Option Value → a_HP → Prop) : Rn 179 268 ls st σ Q = acR 179 (o_go 273 ls st σ) ls σ Q := rn_row rfl ls st σ Q
theorem r_179_271 (ls : a_LS) (st : List Value) (σ : a_HP) (Q : Option Value → a_HP → Prop) : Rn 179 271 ls st σ Q = acR 179 (o_ldi 6 273 ls st σ) ls σ Q := rn_row rfl ls st σ Q
theorem r_179_273 (ls : a_LS) (st : List Value) (σ : a_HP) (Q : Option Value → a_HP → Prop) : Rn 179 273 ls st σ Q = acR 179 (o_sti 6 275 ls st σ) ls σ Q := rn_row rfl ls st σ Q
theorem r_179_275 (ls : a_LS) (st : List Value) (σ : a_HP) (Q : Option Value → a_HP → Prop) : Rn 179 275 ls st σ Q = acR 179 (o_inc 8 (nI 1) 278 ls st σ) ls σ Q := rn_row rfl ls st σ Q
theorem r_179_278 (ls : a_LS) (st : List Value) (σ : a_HP) (Q : Option Value → a_HP → Prop) : Rn 179 278 ls st σ Q = acR 179 (o_go 109 ls st σ) ls σ Q := rn_row rfl ls st σ Q
theorem r_179_281 (ls : a_LS) (st : List Value) (σ : a_HP) (Q : Option Value → a_HP → Prop) : Rn 179 281 ls st σ Q = acR 179 (o_pi (nI 0) 282 ls st σ) ls σ Q := rn_row rfl ls st σ Q
theorem r_179_282 (ls : a_LS) (st : List Value) (σ : a_HP) (Q : Option Value → a_HP → Prop) : Rn 179 282 ls st σ Q = acR 179 (o_ri ls st σ) ls σ Q := rn_row rfl ls st σ Q
/-! 180: NetLawModel.besides(I)I -/
theorem cl_180 (x0 : Int32) (σ : a_HP) (Q : Option Value → a_HP → Prop) : Cl 180 [.int x0] σ Q = Rn 180 0 [some (.int x0), none] [] σ Q := cl_of (Nat.le_of_ble_eq_true rfl) rfl σ Q
theorem r_180_0 (ls : a_LS) (st : List Value) (σ : a_HP) (Q : Option Value → a_HP → Prop) : Rn 180 0 ls st σ Q = acR 180 (o_ldi 0 1 ls st σ) ls σ Q := rn_row rfl ls st σ Q
theorem r_180_1 (ls : a_LS) (st : List Value) (σ : a_HP) (Q : Option Value → a_HP → Prop) : Rn 180 1 ls st σ Q = acR 180 (o_ldi 0 2 ls st σ) ls σ Q := rn_row rfl ls st σ Q
theorem r_180_2 (ls : a_LS) (st : List Value) (σ : a_HP) (Q : Option Value → a_HP → Prop) : Rn 180 2 ls st σ Q = acR 180 (o_pi (nI 3) 3 ls st σ) ls σ Q := rn_row rfl ls st σ Q
theorem r_180_3 (ls : a_LS) (st : List Value) (σ : a_HP) (Q : Option Value → a_HP → Prop) : Rn 180 3 ls st σ Q = acR 180 (o_bi f_shl 4 ls st σ) ls σ Q := rn_row rfl ls st σ Q
theorem r_180_4 (ls : a_LS) (st : List Value) (σ : a_HP) (Q : Option Value → a_HP → Prop) : Rn 180 4 ls st σ Q = acR 180 (o_bi f_or 5 ls st σ) ls σ Q := rn_row rfl ls st σ Q
theorem r_180_5 (ls : a_LS) (st : List Value) (σ : a_HP) (Q : Option Value → a_HP → Prop) : Rn 180 5 ls st σ Q = acR 180 (o_ldi 0 6 ls st σ) ls σ Q := rn_row rfl ls st σ Q
theorem r_180_6 (ls : a_LS) (st : List Value) (σ : a_HP) (Q : Option Value → a_HP → Prop) : Rn 180 6 ls st σ Q = acR 180 (o_pi (nI 3) 7 ls st σ) ls σ Q := rn_row rfl ls st σ Q
theorem r_180_7 (ls : a_LS) (st : List Value) (σ : a_HP) (Q : Option Value → a_HP → Prop) : Rn 180 7 ls st σ Q = acR 180 (o_bi f_shr 8 ls st σ) ls σ Q := rn_row rfl ls st σ Q
theorem r_180_8 (ls : a_LS) (st : List Value) (σ : a_HP) (Q : Option Value → a_HP → Prop) : Rn 180 8 ls st σ Q = acR 180 (o_bi f_or 9 ls st σ) ls σ Q := rn_row rfl ls st σ Q
theorem r_180_9 (ls : a_LS) (st : List Value) (σ : a_HP) (Q : Option Value → a_HP → Prop) : Rn 180 9 ls st σ Q = acR 180 (o_sti 1 10 ls st σ) ls σ Q := rn_row rfl ls st σ Q
theorem r_180_10 (ls : a_LS) (st : List Value) (σ : a_HP) (Q : Option Value → a_HP → Prop) : Rn 180 10 ls st σ Q = acR 180 (o_ldi 1 11 ls st σ) ls σ Q := rn_row rfl ls st σ Q
theorem r_180_11 (ls : a_LS) (st : List Value) (σ : a_HP) (Q : Option Value → a_HP → Prop) : Rn 180 11 ls st σ Q = acR 180 (o_ldi 0 12 ls st σ) ls σ Q := rn_row rfl ls st σ Q
theorem r_180_12 (ls : a_LS) (st : List Value) (σ : a_HP) (Q : Option Value → a_HP → Prop) : Rn 180 12 ls st σ Q = acR 180 (o_pi (nI 219) 15 ls st σ) ls σ Q := rn_row rfl ls st σ Q
theorem r_180_15 (ls : a_LS) (st : List Value) (σ : a_HP) (Q : Option Value → a_HP → Prop) : Rn 180 15 ls st σ Q = acR 180 (o_bi f_and 16 ls st σ) ls σ Q := rn_row rfl ls st σ Q
theorem r_180_16 (ls : a_LS) (st : List Value) (σ : a_HP) (Q : Option Value → a_HP → Prop) : Rn 180 16 ls st σ Q = acR 180 (o_pi (nI 1) 17 ls st σ) ls σ Q := rn_row rfl ls st σ Q
theorem r_180_17 (ls : a_LS) (st : List Value) (σ : a_HP) (Q : Option Value → a_HP → Prop) : Rn 180 17 ls st σ Q = acR 180 (o_bi f_shl 18 ls st σ) ls σ Q := rn_row rfl ls st σ Q
theorem r_180_18 (ls : a_LS) (st : List Value) (σ : a_HP) (Q : Option Value → a_HP → Prop) : Rn 180 18 ls st σ Q = acR 180 (o_bi f_or 19 ls st σ) ls σ Q := rn_row rfl ls st σ Q
theorem r_180_19 (ls : a_LS) (st : List Value) (σ : a_HP) (Q : Option Value → a_HP → Prop) : Rn 180 19 ls st σ Q = acR 180 (o_sti 1 20 ls st σ) ls σ Q := rn_row rfl ls st σ Q
theorem r_180_20 (ls : a_LS) (st : List Value) (σ : a_HP) (Q : Option Value → a_HP → Prop) : Rn 180 20 ls st σ Q = acR 180 (o_ldi 1 21 ls st σ) ls σ Q := rn_row rfl ls st σ Q
theorem r_180_21 (ls : a_LS) (st : List Value) (σ : a_HP) (Q : Option Value → a_HP → Prop) : Rn 180 21 ls st σ Q = acR 180 (o_ldi 0 22 ls st σ) ls σ Q := rn_row rfl ls st σ Q
theorem r_180_22 (ls : a_LS) (st : List Value) (σ : a_HP) (Q : Option Value → a_HP → Prop) : Rn 180 22 ls st σ Q = acR 180 (o_pi (nI 438) 25 ls st σ) ls σ Q := rn_row rfl ls st σ Q
theorem r_180_25 (ls : a_LS) (st : List Value) (σ : a_HP) (Q : Option Value → a_HP → Prop) : Rn 180 25 ls st σ Q = acR 180 (o_bi f_and 26 ls st σ) ls σ Q := rn_row rfl ls st σ Q
theorem r_180_26 (ls : a_LS) (st : List Value) (σ : a_HP) (Q : Option Value → a_HP → Prop) : Rn 180 26 ls st σ Q = acR 180 (o_pi (nI 1) 27 ls st σ) ls σ Q := rn_row rfl ls st σ Q
theorem r_180_27 (ls : a_LS) (st : List Value) (σ : a_HP) (Q : Option Value → a_HP → Prop) : Rn 180 27 ls st σ Q = acR 180 (o_bi f_shr 28 ls st σ) ls σ Q := rn_row rfl ls st σ Q
theorem r_180_28 (ls : a_LS) (st : List Value) (σ : a_HP) (Q : Option Value → a_HP → Prop) : Rn 180 28 ls st σ Q = acR 180 (o_bi f_or 29 ls st σ) ls σ Q := rn_row rfl ls st σ Q
theorem r_180_29 (ls : a_LS) (st : List Value) (σ : a_HP) (Q : Option Value → a_HP → Prop) : Rn 180 29 ls st σ Q = acR 180 (o_sti 1 30 ls st σ) ls σ Q := rn_row rfl ls st σ Q
theorem r_180_30 (ls : a_LS) (st : List Value) (σ : a_HP) (Q : Option Value → a_HP → Prop) : Rn 180 30 ls st σ Q = acR 180 (o_ldi 1 31 ls st σ) ls σ Q := rn_row rfl ls st σ Q
theorem r_180_31 (ls : a_LS) (st : List Value) (σ : a_HP) (Q : Option Value → a_HP → Prop) : Rn 180 31 ls st σ Q = acR 180 (o_pi (nI 511) 34 ls st σ) ls σ Q := rn_row rfl ls st σ Q
theorem r_180_34 (ls : a_LS) (st : List Value) (σ : a_HP) (Q : Option Value → a_HP → Prop) : Rn 180 34 ls st σ Q = acR 180 (o_bi f_and 35 ls st σ) ls σ Q := rn_row rfl ls st σ Q
theorem r_180_35 (ls : a_LS) (st : List Value) (σ : a_HP) (Q : Option Value → a_HP → Prop) : Rn 180 35 ls st σ Q = acR 180 (o_ri ls st σ) ls σ Q := rn_row rfl ls st σ Q
/-! 181: NetLawModel.wayFrom(I)I -/
theorem cl_181 (x0 : Nat) (x1 : Int32) (σ : a_HP) (Q : Option Value → a_HP → Prop) : Cl 181 [.ref x0, .int x1] σ Q = Rn 181 0 [some (.ref x0), some (.int x1), none, none, none] [] σ Q := cl_of (Nat.le_of_ble_eq_true rfl) rfl σ Q
theorem r_181_0 (ls : a_LS) (st : List Value) (σ : a_HP) (Q : Option Value → a_HP → Prop) : Rn 181 0 ls st σ Q = acR 181 (o_pi (nI 511) 3 ls st σ) ls σ Q := rn_row rfl ls st σ Q
theorem r_181_3 (ls : a_LS) (st : List Value) (σ : a_HP) (Q : Option Value → a_HP → Prop) : Rn 181 3 ls st σ Q = acR 181 (o_lda 0 4 ls st σ) ls σ Q := rn_row rfl ls st σ Q
theorem r_181_4 (ls : a_LS) (st : List Value) (σ : a_HP) (Q : Option Value → a_HP → Prop) : Rn 181 4 ls st σ Q = acR 181 (o_get 8 0 7 ls st σ) ls σ Q := rn_row rfl ls st σ Q
theorem r_181_7 (ls : a_LS) (st : List Value) (σ : a_HP) (Q : Option Value → a_HP → Prop) : Rn 181 7 ls st σ Q = acR 181 (o_ivs 140 1 10 ls st σ) ls σ Q := rn_row rfl ls st σ Q
theorem r_181_10 (ls : a_LS) (st : List Value) (σ : a_HP) (Q : Option Value → a_HP → Prop) : Rn 181 10 ls st σ Q = acR 181 (o_pi (-1) 11 ls st σ) ls σ Q := rn_row rfl ls st σ Q
theorem r_181_11 (ls : a_LS) (st : List Value) (σ : a_HP) (Q : Option Value → a_HP → Prop) : Rn 181 11 ls st σ Q = acR 181 (o_bi f_xor 12 ls st σ) ls σ Q := rn_row rfl ls st σ Q
theorem r_181_12 (ls : a_LS) (st : List Value) (σ : a_HP) (Q : Option Value → a_HP → Prop) : Rn 181 12 ls st σ Q = acR 181 (o_bi f_and 13 ls st σ) ls σ Q := rn_row rfl ls st σ Q
theorem r_181_13 (ls : a_LS) (st : List Value) (σ : a_HP) (Q : Option Value → a_HP → Prop) : Rn 181 13 ls st σ Q = acR 181 (o_sti 2 14 ls st σ) ls σ Q := rn_row rfl ls st σ Q
theorem r_181_14 (ls : a_LS) (st : List Value) (σ : a_HP) (Q : Option Value → a_HP → Prop) : Rn 181 14 ls st σ Q = acR 181 (o_ldi 1 15 ls st σ) ls σ Q := rn_row rfl ls st σ Q
theorem r_181_15 (ls : a_LS) (st : List Value) (σ : a_HP) (Q : Option Value → a_HP → Prop) : Rn 181 15 ls st σ Q = acR 181 (o_ldi 2 16 ls st σ) ls σ Q := rn_row rfl ls st σ Q
theorem r_181_16 (ls : a_LS) (st : List Value) (σ : a_HP) (Q : Option Value → a_HP → Prop) : Rn 181 16 ls st σ Q = acR 181 (o_bi f_and 17 ls st σ) ls σ Q := rn_row rfl ls st σ Q
theorem r_181_17 (ls : a_LS) (st : List Value) (σ : a_HP) (Q : Option Value → a_HP → Prop) : Rn 181 17 ls st σ Q = acR 181 (o_sti 3 18 ls st σ) ls σ Q := rn_row rfl ls st σ Q
theorem r_181_18 (ls : a_LS) (st : List Value) (σ : a_HP) (Q : Option Value → a_HP → Prop) : Rn 181 18 ls st σ Q = acR 181 (o_pi (nI 1) 19 ls st σ) ls σ Q := rn_row rfl ls st σ Q
theorem r_181_19 (ls : a_LS) (st : List Value) (σ : a_HP) (Q : Option Value → a_HP → Prop) : Rn 181 19 ls st σ Q = acR 181 (o_sti 4 21 ls st σ) ls σ Q := rn_row rfl ls st σ Q
theorem r_181_21 (ls : a_LS) (st : List Value) (σ : a_HP) (Q : Option Value → a_HP → Prop) : Rn 181 21 ls st σ Q = acR 181 (o_ldi 4 23 ls st σ) ls σ Q := rn_row rfl ls st σ Q
theorem r_181_23 (ls : a_LS) (st : List Value) (σ : a_HP) (Q : Option Value → a_HP → Prop) : Rn 181 23 ls st σ Q = acR 181 (o_pi (nI 10) 25 ls st σ) ls σ Q := rn_row rfl ls st σ Q
theorem r_181_25 (ls : a_LS) (st : List Value) (σ : a_HP) (Q : Option Value → a_HP → Prop) : Rn 181 25 ls st σ Q = acR 181 (o_cge 52 28 ls st σ) ls σ Q := rn_row rfl ls st σ Q
theorem r_181_28 (ls : a_LS) (st : List Value) (σ : a_HP) (Q : Option Value → a_HP → Prop) : Rn 181 28 ls st σ Q = acR 181 (o_ldi 3 29 ls st σ) ls σ Q := rn_row rfl ls st σ Q
theorem r_181_29 (ls : a_LS) (st : List Value) (σ : a_HP) (Q : Option Value → a_HP → Prop) : Rn 181 29 ls st σ Q = acR 181 (o_pi (nI 448) 32 ls st σ) ls σ Q := rn_row rfl ls st σ Q
theorem r_181_32 (ls : a_LS) (st : List Value) (σ : a_HP) (Q : Option Value → a_HP → Prop) : Rn 181 32 ls st σ Q = acR 181 (o_bi f_and 33 ls st σ) ls σ Q := rn_row rfl ls st σ Q
theorem r_181_33 (ls : a_LS) (st : List Value) (σ : a_HP) (Q : Option Value → a_HP → Prop) : Rn 181 33 ls st σ Q = acR 181 (o_eq 39 36 ls st σ) ls σ Q := rn_row rfl ls st σ Q
theorem r_181_36 (ls : a_LS) (st : List Value) (σ : a_HP) (Q : Option Value → a_HP → Prop) : Rn 181 36 ls st σ Q = acR 181 (o_ldi 4 38 ls st σ) ls σ Q := rn_row rfl ls st σ Q
theorem r_181_38 (ls : a_LS) (st : List Value) (σ : a_HP) (Q : Option Value → a_HP → Prop) : Rn 181 38 ls st σ Q = acR 181 (o_ri ls st σ) ls σ Q := rn_row rfl ls st σ Q
theorem r_181_39 (ls : a_LS) (st : List Value) (σ : a_HP) (Q : Option Value → a_HP → Prop) : Rn 181 39 ls st σ Q = acR 181 (o_ldi 3 40 ls st σ) ls σ Q := rn_row rfl ls st σ Q
theorem r_181_40 (ls : a_LS) (st : List Value) (σ : a_HP) (Q : Option Value → a_HP → Prop) : Rn 181 40 ls st σ Q = acR 181 (o_ivs 180 1 43 ls st σ) ls σ Q := rn_row rfl ls st σ Q
theorem r_181_43 (ls : a_LS) (st : List Value) (σ : a_HP) (Q : Option Value → a_HP → Prop) : Rn 181 43 ls st σ Q = acR 181 (o_ldi 2 44 ls st σ) ls σ Q := rn_row rfl ls st σ Q
theorem r_181_44 (ls : a_LS) (st : List Value) (σ : a_HP) (Q : Option Value → a_HP → Prop) : Rn 181 44 ls st σ Q = acR 181 (o_bi f_and 45 ls st σ) ls σ Q := rn_row rfl ls st σ Q
theorem r_181_45 (ls : a_LS) (st : List Value) (σ : a_HP) (Q : Option Value → a_HP → Prop) : Rn 181 45 ls st σ Q = acR 181 (o_sti 3 46 ls st σ) ls σ Q := rn_row rfl ls st σ Q
theorem r_181_46 (ls : a_LS) (st : List Value) (σ : a_HP) (Q : Option Value → a_HP → Prop) : Rn 181 46 ls st σ Q = acR 181 (o_inc 4 (nI 1) 49 ls st σ) ls σ Q := rn_row rfl ls st σ Q
theorem r_181_49 (ls : a_LS) (st : List Value) (σ : a_HP) (Q : Option Value → a_HP → Prop) : Rn 181 49 ls st σ Q = acR 181 (o_go 21 ls st σ) ls σ Q := rn_row rfl ls st σ Q
theorem r_181_52 (ls : a_LS) (st : List Value) (σ : a_HP) (Q : Option Value → a_HP → Prop) : Rn 181 52 ls st σ Q = acR 181 (o_pi (1000000) 54 ls st σ) ls σ Q := rn_row rfl ls st σ Q
theorem r_181_54 (ls : a_LS) (st : List Value) (σ : a_HP) (Q : Option Value → a_HP → Prop) : Rn 181 54 ls st σ Q = acR 181 (o_ri ls st σ) ls σ Q := rn_row rfl ls st σ Q
/-! 182: NetLawModel.fish(I)I -/
theorem cl_182 (x0 : Nat) (x1 : Int32) (σ : a_HP) (Q : Option Value → a_HP → Prop) : Cl 182 [.ref x0, .int x1] σ Q = Rn 182 0 [some (.ref x0), some (.int x1), none, none, none] [] σ Q := cl_of (Nat.le_of_ble_eq_true rfl) rfl σ Q
theorem r_182_0 (ls : a_LS) (st : List Value) (σ : a_HP) (Q : Option Value → a_HP → Prop) : Rn 182 0 ls st σ Q = acR 182 (o_ldi 1 1 ls st σ) ls σ Q := rn_row rfl ls st σ Q
theorem r_182_1 (ls : a_LS) (st : List Value) (σ : a_HP) (Q : Option Value → a_HP → Prop) : Rn 182 1 ls st σ Q = acR 182 (o_ivs 143 1 4 ls st σ) ls σ Q := rn_row rfl ls st σ Q
theorem r_182_4 (ls : a_LS) (st : List Value) (σ : a_HP) (Q : Option Value → a_HP → Prop) : Rn 182 4 ls st σ Q = acR 182 (o_ne 12 7 ls st σ) ls σ Q := rn_row rfl ls st σ Q
theorem r_182_7 (ls : a_LS) (st : List Value) (σ : a_HP) (Q : Option Value → a_HP → Prop) : Rn 182 7 ls st σ Q = acR 182 (o_lda 0 8 ls st σ) ls σ Q := rn_row rfl ls st σ Q
theorem r_182_8 (ls : a_LS) (st : List Value) (σ : a_HP) (Q : Option Value → a_HP → Prop) : Rn 182 8 ls st σ Q = acR 182 (o_ivv 8 125 0 11 ls st σ) ls σ Q := rn_row rfl ls st σ Q
theorem r_182_11 (ls : a_LS) (st : List Value) (σ : a_HP) (Q : Option Value → a_HP → Prop) : Rn 182 11 ls st σ Q = acR 182 (o_ri ls st σ) ls σ Q := rn_row rfl ls st σ Q
theorem r_182_12 (ls : a_LS) (st : List Value) (σ : a_HP) (Q : Option Value → a_HP → Prop) : Rn 182 12 ls st σ Q = acR 182 (o_lda 0 13 ls st σ) ls σ Q := rn_row rfl ls st σ Q
theorem r_182_13 (ls : a_LS) (st : List Value) (σ : a_HP) (Q : Option Value → a_HP → Prop) : Rn 182 13 ls st σ Q = acR 182 (o_pi (nI 7) 15 ls st σ) ls σ Q := rn_row rfl ls st σ Q
theorem r_182_15 (ls : a_LS) (st : List Value) (σ : a_HP) (Q : Option Value → a_HP → Prop) : Rn 182 15 ls st σ Q = acR 182 (o_ivv 8 181 1 18 ls st σ) ls σ Q := rn_row rfl ls st σ Q
theorem r_182_18 (ls : a_LS) (st : List Value) (σ : a_HP) (Q : Option Value → a_HP → Prop) : Rn 182 18 ls st σ Q = acR 182 (o_sti 2 19 ls st σ) ls σ Q := rn_row rfl ls st σ Q
theorem r_182_19 (ls : a_LS) (st : List Value) (σ : a_HP) (Q : Option Value → a_HP → Prop) : Rn 182 19 ls st σ Q = acR 182 (o_pi (nI 0) 20 ls st σ) ls σ Q := rn_row rfl ls st σ Q
theorem r_182_20 (ls : a_LS) (st : List Value) (σ : a_HP) (Q : Option Value → a_HP → Prop) : Rn 182 20 ls st σ Q = acR 182 (o_sti 3 21 ls st σ) ls σ Q := rn_row rfl ls st σ Q
theorem r_182_21 (ls : a_LS) (st : List Value) (σ : a_HP) (Q : Option Value → a_HP → Prop) : Rn 182 21 ls st σ Q = acR 182 (o_pi (nI 0) 22 ls st σ) ls σ Q := rn_row rfl ls st σ Q
theorem r_182_22 (ls : a_LS) (st : List Value) (σ : a_HP) (Q : Option Value → a_HP → Prop) : Rn 182 22 ls st σ Q = acR 182 (o_sti 4 24 ls st σ) ls σ Q := rn_row rfl ls st σ Q
theorem r_182_24 (ls : a_LS) (st : List Value) (σ : a_HP) (Q : Option Value → a_HP → Prop) : Rn 182 24 ls st σ Q = acR 182 (o_ldi 4 26 ls st σ) ls σ Q := rn_row rfl ls st σ Q
theorem r_182_26 (ls : a_LS) (st : List Value) (σ : a_HP) (Q : Option Value → a_HP → Prop) : Rn 182 26 ls st σ Q = acR 182 (o_pi (nI 3) 27 ls st σ) ls σ Q := rn_row rfl ls st σ Q
theorem r_182_27 (ls : a_LS) (st : List Value) (σ : a_HP) (Q : Option Value → a_HP → Prop) : Rn 182 27 ls st σ Q = acR 182 (o_cge 59 30 ls st σ) ls σ Q := rn_row rfl ls st σ Q
theorem r_182_30 (ls : a_LS) (st : List Value) (σ : a_HP) (Q : Option Value → a_HP → Prop) : Rn 182 30 ls st σ Q = acR 182 (o_ldi 3 31 ls st σ) ls σ Q := rn_row rfl ls st σ Q
theorem r_182_31 (ls : a_LS) (st : List Value) (σ : a_HP) (Q : Option Value → a_HP → Prop) : Rn 182 31 ls st σ Q = acR 182 (o_lda 0 32 ls st σ) ls σ Q := rn_row rfl ls st σ Q
theorem r_182_32 (ls : a_LS) (st : List Value) (σ : a_HP) (Q : Option Value → a_HP → Prop) : Rn 182 32 ls st σ Q = acR 182 (o_pi (nI 1) 33 ls st σ) ls σ Q := rn_row rfl ls st σ Q
theorem r_182_33 (ls : a_LS) (st : List Value) (σ : a_HP) (Q : Option Value → a_HP → Prop) : Rn 182 33 ls st σ Q = acR 182 (o_ldi 4 35 ls st σ) ls σ Q := rn_row rfl ls st σ Q
theorem r_182_35 (ls : a_LS) (st : List Value) (σ : a_HP) (Q : Option Value → a_HP → Prop) : Rn 182 35 ls st σ Q = acR 182 (o_bi f_shl 36 ls st σ) ls σ Q := rn_row rfl ls st σ Q
theorem r_182_36 (ls : a_LS) (st : List Value) (σ : a_HP) (Q : Option Value → a_HP → Prop) : Rn 182 36 ls st σ Q = acR 182 (o_ivv 8 181 1 39 ls st σ) ls σ Q := rn_row rfl ls st σ Q
theorem r_182_39 (ls : a_LS) (st : List Value) (σ : a_HP) (Q : Option Value → a_HP → Prop) : Rn 182 39 ls st σ Q = acR 182 (o_ldi 2 40 ls st σ) ls σ Q := rn_row rfl ls st σ Q
theorem r_182_40 (ls : a_LS) (st : List Value) (σ : a_HP) (Q : Option Value → a_HP → Prop) : Rn 182 40 ls st σ Q = acR 182 (o_cne 50 43 ls st σ) ls σ Q := rn_row rfl ls st σ Q
theorem r_182_43 (ls : a_LS) (st : List Value) (σ : a_HP) (Q : Option Value → a_HP → Prop) : Rn 182 43 ls st σ Q = acR 182 (o_pi (nI 1) 44 ls st σ) ls σ Q := rn_row rfl ls st σ Q
theorem r_182_44 (ls : a_LS) (st : List Value) (σ : a_HP) (Q : Option Value → a_HP → Prop) : Rn 182 44 ls st σ Q = acR 182 (o_ldi 4 46 ls st σ) ls σ Q := rn_row rfl ls st σ Q
theorem r_182_46 (ls : a_LS) (st : List Value) (σ : a_HP) (Q : Option Value → a_HP → Prop) : Rn 182 46 ls st σ Q = acR 182 (o_bi f_shl 47 ls st σ) ls σ Q := rn_row rfl ls st σ Q
theorem r_182_47 (ls : a_LS) (st : List Value) (σ : a_HP) (Q : Option Value → a_HP → Prop) : Rn 182 47 ls st σ Q = acR 182 (o_go 51 ls st σ) ls σ Q := rn_row rfl ls st σ Q
theorem r_182_50 (ls : a_LS) (st : List Value) (σ : a_HP) (Q : Option Value → a_HP → Prop) : Rn 182 50 ls st σ Q = acR 182 (o_pi (nI 0) 51 ls st σ) ls σ Q := rn_row rfl ls st σ Q
theorem r_182_51 (ls : a_LS) (st : List Value) (σ : a_HP) (Q : Option Value → a_HP → Prop) : Rn 182 51 ls st σ Q = acR 182 (o_bi f_or 52 ls st σ) ls σ Q := rn_row rfl ls st σ Q
theorem r_182_52 (ls : a_LS) (st : List Value) (σ : a_HP) (Q : Option Value → a_HP → Prop) : Rn 182 52 ls st σ Q = acR 182 (o_sti 3 53 ls st σ) ls σ Q := rn_row rfl ls st σ Q
theorem r_182_53 (ls : a_LS) (st : List Value) (σ : a_HP) (Q : Option Value → a_HP → Prop) : Rn 182 53 ls st σ Q = acR 182 (o_inc 4 (nI 1) 56 ls st σ) ls σ Q := rn_row rfl ls st σ Q
theorem r_182_56 (ls : a_LS) (st : List Value) (σ : a_HP) (Q : Option Value → a_HP → Prop) : Rn 182 56 ls st σ Q = acR 182 (o_go 24 ls st σ) ls σ Q := rn_row rfl ls st σ Q
theorem r_182_59 (ls : a_LS) (st : List Value) (σ : a_HP) (Q : Option Value → a_HP → Prop) : Rn 182 59 ls st σ Q = acR 182 (o_ldi 2 60 ls st σ) ls σ Q := rn_row rfl ls st σ Q
theorem r_182_60 (ls : a_LS) (st : List Value) (σ : a_HP) (Q : Option Value → a_HP → Prop) : Rn 182 60 ls st σ Q = acR 182 (o_pi (1000000) 62 ls st σ) ls σ Q := rn_row rfl ls st σ Q
theorem r_182_62 (ls : a_LS) (st : List Value) (σ : a_HP) (Q : Option Value → a_HP → Prop) : Rn 182 62 ls st σ Q = acR 182 (o_cne 69 65 ls st σ) ls σ Q := rn_row rfl ls st σ Q
theorem r_182_65 (ls : a_LS) (st : List Value) (σ : a_HP) (Q : Option Value → a_HP → Prop) : Rn 182 65 ls st σ Q = acR 182 (o_pi (-1) 66 ls st σ) ls σ Q := rn_row rfl ls st σ Q
theorem r_182_66 (ls : a_LS) (st : List Value) (σ : a_HP) (Q : Option Value → a_HP → Prop) : Rn 182 66 ls st σ Q = acR 182 (o_go 78 ls st σ) ls σ Q := rn_row rfl ls st σ Q
theorem r_182_69 (ls : a_LS) (st : List Value) (σ : a_HP) (Q : Option Value → a_HP → Prop) : Rn 182 69 ls st σ Q = acR 182 (o_ldi 1 70 ls st σ) ls σ Q := rn_row rfl ls st σ Q
theorem r_182_70 (ls : a_LS) (st : List Value) (σ : a_HP) (Q : Option Value → a_HP → Prop) : Rn 182 70 ls st σ Q = acR 182 (o_ne 77 73 ls st σ) ls σ Q := rn_row rfl ls st σ Q
theorem r_182_73 (ls : a_LS) (st : List Value) (σ : a_HP) (Q : Option Value → a_HP → Prop) : Rn 182 73 ls st σ Q = acR 182 (o_ldi 2 74 ls st σ) ls σ Q := rn_row rfl ls st σ Q
theorem r_182_74 (ls : a_LS) (st : List Value) (σ : a_HP) (Q : Option Value → a_HP → Prop) : Rn 182 74 ls st σ Q = acR 182 (o_go 78 ls st σ) ls σ Q := rn_row rfl ls st σ Q
theorem r_182_77 (ls : a_LS) (st : List Value) (σ : a_HP) (Q : Option Value → a_HP → Prop) : Rn 182 77 ls st σ Q = acR 182 (o_ldi 3 78 ls st σ) ls σ Q := rn_row rfl ls st σ Q
theorem r_182_78 (ls : a_LS) (st : List Value) (σ : a_HP) (Q : Option Value → a_HP → Prop) : Rn 182 78 ls st σ Q = acR 182 (o_ri ls st σ) ls σ Q := rn_row rfl ls st σ Q
/-! 183: NetLawModel.precedent(I)I -/
theorem cl_183 (x0 : Nat) (x1 : Int32) (σ : a_HP) (Q : Option Value → a_HP → Prop) : Cl 183 [.ref x0, .int x1] σ Q = Rn 183 0 [some (.ref x0), some (.int x1), none, none, none, none, none, none, none] [] σ Q := cl_of (Nat.le_of_ble_eq_true rfl) rfl σ Q
theorem r_183_0 (ls : a_LS) (st : List Value) (σ : a_HP) (Q : Option Value → a_HP → Prop) : Rn 183 0 ls st σ Q = acR 183 (o_ldi 1 1 ls st σ) ls σ Q := rn_row rfl ls st σ Q
theorem r_183_1 (ls : a_LS) (st : List Value) (σ : a_HP) (Q : Option Value → a_HP → Prop) : Rn 183 1 ls st σ Q = acR 183 (o_ivs 143 1 4 ls st σ) ls σ Q := rn_row rfl ls st σ Q
theorem r_183_4 (ls : a_LS) (st : List Value) (σ : a_HP) (Q : Option Value → a_HP → Prop) : Rn 183 4 ls st σ Q = acR 183 (o_ne 12 7 ls st σ) ls σ Q := rn_row rfl ls st σ Q
theorem r_183_7 (ls : a_LS) (st : List Value) (σ : a_HP) (Q : Option Value → a_HP → Prop) : Rn 183 7 ls st σ Q = acR 183 (o_lda 0 8 ls st σ) ls σ Q := rn_row rfl ls st σ Q
theorem r_183_8 (ls : a_LS) (st : List Value) (σ : a_HP) (Q : Option Value → a_HP → Prop) : Rn 183 8 ls st σ Q = acR 183 (o_ivv 8 125 0 11 ls st σ) ls σ Q := rn_row rfl ls st σ Q
theorem r_183_11 (ls : a_LS) (st : List Value) (σ : a_HP) (Q : Option Value → a_HP → Prop) : Rn 183 11 ls st σ Q = acR 183 (o_ri ls st σ) ls σ Q := rn_row rfl ls st σ Q
theorem r_183_12 (ls : a_LS) (st : List Value) (σ : a_HP) (Q : Option Value → a_HP → Prop) : Rn 183 12 ls st σ Q = acR 183 (o_lda 0 13 ls st σ) ls σ Q := rn_row rfl ls st σ Q
theorem r_183_13 (ls : a_LS) (st : List Value) (σ : a_HP) (Q : Option Value → a_HP → Prop) : Rn 183 13 ls st σ Q = acR 183 (o_get 8 4 16 ls st σ) ls σ Q := rn_row rfl ls st σ Q
theorem r_183_16 (ls : a_LS) (st : List Value) (σ : a_HP) (Q : Option Value → a_HP → Prop) : Rn 183 16 ls st σ Q = acR 183 (o_ldi 1 17 ls st σ) ls σ Q := rn_row rfl ls st σ Q
theorem r_183_17 (ls : a_LS) (st : List Value) (σ : a_HP) (Q : Option Value → a_HP → Prop) : Rn 183 17 ls st σ Q = acR 183 (o_bal 18 ls st σ) ls σ Q := rn_row rfl ls st σ Q
theorem r_183_18 (ls : a_LS) (st : List Value) (σ : a_HP) (Q : Option Value → a_HP → Prop) : Rn 183 18 ls st σ Q = acR 183 (o_ne 28 21 ls st σ) ls σ Q := rn_row rfl ls st σ Q
theorem r_183_21 (ls : a_LS) (st : List Value) (σ : a_HP) (Q : Option Value → a_HP → Prop) : Rn 183 21 ls st σ Q = acR 183 (o_lda 0 22 ls st σ) ls σ Q := rn_row rfl ls st σ Q
theorem r_183_22 (ls : a_LS) (st : List Value) (σ : a_HP) (Q : Option Value → a_HP → Prop) : Rn 183 22 ls st σ Q = acR 183 (o_pi (-3) 24 ls st σ) ls σ Q := rn_row rfl ls st σ Q
theorem r_183_24 (ls : a_LS) (st : List Value) (σ : a_HP) (Q : Option Value → a_HP → Prop) : Rn 183 24 ls st σ Q = acR 183 (o_ivv 8 127 1 27 ls st σ) ls σ Q := rn_row rfl ls st σ Q
theorem r_183_27 (ls : a_LS) (st : List Value) (σ : a_HP) (Q : Option Value → a_HP → Prop) : Rn 183 27 ls st σ Q = acR 183 (o_ri ls st σ) ls σ Q := rn_row rfl ls st σ Q
theorem r_183_28 (ls : a_LS) (st : List Value) (σ : a_HP) (Q : Option Value → a_HP → Prop) : Rn 183 28 ls st σ Q = acR 183 (o_lda 0 29 ls st σ) ls σ Q := rn_row rfl ls st σ Q
theorem r_183_29 (ls : a_LS) (st : List Value) (σ : a_HP) (Q : Option Value → a_HP → Prop) : Rn 183 29 ls st σ Q = acR 183 (o_get 8 3 32 ls st σ) ls σ Q := rn_row rfl ls st σ Q
theorem r_183_32 (ls : a_LS) (st : List Value) (σ : a_HP) (Q : Option Value → a_HP → Prop) : Rn 183 32 ls st σ Q = acR 183 (o_pi (nI 481) 35 ls st σ) ls σ Q := rn_row rfl ls st σ Q
theorem r_183_35 (ls : a_LS) (st : List Value) (σ : a_HP) (Q : Option Value → a_HP → Prop) : Rn 183 35 ls st σ Q = acR 183 (o_ldi 1 36 ls st σ) ls σ Q := rn_row rfl ls st σ Q
theorem r_183_36 (ls : a_LS) (st : List Value) (σ : a_HP) (Q : Option Value → a_HP → Prop) : Rn 183 36 ls st σ Q = acR 183 (o_bi f_mul 37 ls st σ) ls σ Q := rn_row rfl ls st σ Q
theorem r_183_37 (ls : a_LS) (st : List Value) (σ : a_HP) (Q : Option Value → a_HP → Prop) : Rn 183 37 ls st σ Q = acR 183 (o_lda 0 38 ls st σ) ls σ Q := rn_row rfl ls st σ Q
theorem r_183_38 (ls : a_LS) (st : List Value) (σ : a_HP) (Q : Option Value → a_HP → Prop) : Rn 183 38 ls st σ Q = acR 183 (o_get 8 2 41 ls st σ) ls σ Q := rn_row rfl ls st σ Q
theorem r_183_41 (ls : a_LS) (st : List Value) (σ : a_HP) (Q : Option Value → a_HP → Prop) : Rn 183 41 ls st σ Q = acR 183 (o_pi (nI 0) 42 ls st σ) ls σ Q := rn_row rfl ls st σ Q
theorem r_183_42 (ls : a_LS) (st : List Value) (σ : a_HP) (Q : Option Value → a_HP → Prop) : Rn 183 42 ls st σ Q = acR 183 (o_pi (nI 61) 44 ls st σ) ls σ Q := rn_row rfl ls st σ Q
theorem r_183_44 (ls : a_LS) (st : List Value) (σ : a_HP) (Q : Option Value → a_HP → Prop) : Rn 183 44 ls st σ Q = acR 183 (o_ivs 130 5 47 ls st σ) ls σ Q := rn_row rfl ls st σ Q
theorem r_183_47 (ls : a_LS) (st : List Value) (σ : a_HP) (Q : Option Value → a_HP → Prop) : Rn 183 47 ls st σ Q = acR 183 (o_pi (nI 0) 48 ls st σ) ls σ Q := rn_row rfl ls st σ Q
theorem r_183_48 (ls : a_LS) (st : List Value) (σ : a_HP) (Q : Option Value → a_HP → Prop) : Rn 183 48 ls st σ Q = acR 183 (o_sti 2 49 ls st σ) ls σ Q := rn_row rfl ls st σ Q
theorem r_183_49 (ls : a_LS) (st : List Value) (σ : a_HP) (Q : Option Value → a_HP → Prop) : Rn 183 49 ls st σ Q = acR 183 (o_pi (nI 0) 50 ls st σ) ls σ Q := rn_row rfl ls st σ Q
theorem r_183_50 (ls : a_LS) (st : List Value) (σ : a_HP) (Q : Option Value → a_HP → Prop) : Rn 183 50 ls st σ Q = acR 183 (o_sti 3 51 ls st σ) ls σ Q := rn_row rfl ls st σ Q
theorem r_183_51 (ls : a_LS) (st : List Value) (σ : a_HP) (Q : Option Value → a_HP → Prop) : Rn 183 51 ls st σ Q = acR 183 (o_ldi 3 52 ls st σ) ls σ Q := rn_row rfl ls st σ Q
theorem r_183_52 (ls : a_LS) (st : List Value) (σ : a_HP) (Q : Option Value → a_HP → Prop) : Rn 183 52 ls st σ Q = acR 183 (o_pi (nI 9) 54 ls st σ) ls σ Q := rn_row rfl ls st σ Q
theorem r_183_54 (ls : a_LS) (st : List Value) (σ : a_HP) (Q : Option Value → a_HP → Prop) : Rn 183 54 ls st σ Q = acR 183 (o_cge 154 57 ls st σ) ls σ Q := rn_row rfl ls st σ Q
theorem r_183_57 (ls : a_LS) (st : List Value) (σ : a_HP) (Q : Option Value → a_HP → Prop) : Rn 183 57 ls st σ Q = acR 183 (o_pi (nI 0) 58 ls st σ) ls σ Q := rn_row rfl ls st σ Q
theorem r_183_58 (ls : a_LS) (st : List Value) (σ : a_HP) (Q : Option Value → a_HP → Prop) : Rn 183 58 ls st σ Q = acR 183 (o_sti 4 60 ls st σ) ls σ Q := rn_row rfl ls st σ Q
theorem r_183_60 (ls : a_LS) (st : List Value) (σ : a_HP) (Q : Option Value → a_HP → Prop) : Rn 183 60 ls st σ Q = acR 183 (o_pi (nI 0) 61 ls st σ) ls σ Q := rn_row rfl ls st σ Q
theorem r_183_61 (ls : a_LS) (st : List Value) (σ : a_HP) (Q : Option Value → a_HP → Prop) : Rn 183 61 ls st σ Q = acR 183 (o_sti 5 63 ls st σ) ls σ Q := rn_row rfl ls st σ Q
theorem r_183_63 (ls : a_LS) (st : List Value) (σ : a_HP) (Q : Option Value → a_HP → Prop) : Rn 183 63 ls st σ Q = acR 183 (o_ldi 5 65 ls st σ) ls σ Q := rn_row rfl ls st σ Q
theorem r_183_65 (ls : a_LS) (st : List Value) (σ : a_HP) (Q : Option Value → a_HP → Prop) : Rn 183 65 ls st σ Q = acR 183 (o_pi (nI 4) 66 ls st σ) ls σ Q := rn_row rfl ls st σ Q
theorem r_183_66 (ls : a_LS) (st : List Value) (σ : a_HP) (Q : Option Value → a_HP → Prop) : Rn 183 66 ls st σ Q = acR 183 (o_cge 124 69 ls st σ) ls σ Q := rn_row rfl ls st σ Q
theorem r_183_69 (ls : a_LS) (st : List Value) (σ : a_HP) (Q : Option Value → a_HP → Prop) : Rn 183 69 ls st σ Q = acR 183 (o_ldi 3 70 ls st σ) ls σ Q := rn_row rfl ls st σ Q
theorem r_183_70 (ls : a_LS) (st : List Value) (σ : a_HP) (Q : Option Value → a_HP → Prop) : Rn 183 70 ls st σ Q = acR 183 (o_ldi 5 72 ls st σ) ls σ Q := rn_row rfl ls st σ Q
theorem r_183_72 (ls : a_LS) (st : List Value) (σ : a_HP) (Q : Option Value → a_HP → Prop) : Rn 183 72 ls st σ Q = acR 183 (o_ivs 136 2 75 ls st σ) ls σ Q := rn_row rfl ls st σ Q
theorem r_183_75 (ls : a_LS) (st : List Value) (σ : a_HP) (Q : Option Value → a_HP → Prop) : Rn 183 75 ls st σ Q = acR 183 (o_sti 6 77 ls st σ) ls σ Q := rn_row rfl ls st σ Q
theorem r_183_77 (ls : a_LS) (st : List Value) (σ : a_HP) (Q : Option Value → a_HP → Prop) : Rn 183 77 ls st σ Q = acR 183 (o_lda 0 78 ls st σ) ls σ Q := rn_row rfl ls st σ Q
theorem r_183_78 (ls : a_LS) (st : List Value) (σ : a_HP) (Q : Option Value → a_HP → Prop) : Rn 183 78 ls st σ Q = acR 183 (o_get 8 0 81 ls st σ) ls σ Q := rn_row rfl ls st σ Q
theorem r_183_81 (ls : a_LS) (st : List Value) (σ : a_HP) (Q : Option Value → a_HP → Prop) : Rn 183 81 ls st σ Q = acR 183 (o_ldi 6 83 ls st σ) ls σ Q := rn_row rfl ls st σ Q
theorem r_183_83 (ls : a_LS) (st : List Value) (σ : a_HP) (Q : Option Value → a_HP → Prop) : Rn 183 83 ls st σ Q = acR 183 (o_ivs 134 2 86 ls st σ) ls σ Q := rn_row rfl ls st σ Q
theorem r_183_86 (ls : a_LS) (st : List Value) (σ : a_HP) (Q : Option Value → a_HP → Prop) : Rn 183 86 ls st σ Q = acR 183 (o_sti 7 88 ls st σ) ls σ Q := rn_row rfl ls st σ Q
theorem r_183_88 (ls : a_LS) (st : List Value) (σ : a_HP) (Q : Option Value → a_HP → Prop) : Rn 183 88 ls st σ Q = acR 183 (o_lda 0 89 ls st σ) ls σ Q := rn_row rfl ls st σ Q
theorem r_183_89 (ls : a_LS) (st : List Value) (σ : a_HP) (Q : Option Value → a_HP → Prop) : Rn 183 89 ls st σ Q = acR 183 (o_get 8 2 92 ls st σ) ls σ Q := rn_row rfl ls st σ Q
theorem r_183_92 (ls : a_LS) (st : List Value) (σ : a_HP) (Q : Option Value → a_HP → Prop) : Rn 183 92 ls st σ Q = acR 183 (o_ldi 6 94 ls st σ) ls σ Q := rn_row rfl ls st σ Q
theorem r_183_94 (ls : a_LS) (st : List Value) (σ : a_HP) (Q : Option Value → a_HP → Prop) : Rn 183 94 ls st σ Q = acR 183 (o_ivs 134 2 97 ls st σ) ls σ Q := rn_row rfl ls st σ Q
theorem r_183_97 (ls : a_LS) (st : List Value) (σ : a_HP) (Q : Option Value → a_HP → Prop) : Rn 183 97 ls st σ Q = acR 183 (o_sti 8 99 ls st σ) ls σ Q := rn_row rfl ls st σ Q
theorem r_183_99 (ls : a_LS) (st : List Value) (σ : a_HP) (Q : Option Value → a_HP → Prop) : Rn 183 99 ls st σ Q = acR 183 (o_ldi 4 101 ls st σ) ls σ Q := rn_row rfl ls st σ Q
theorem r_183_101 (ls : a_LS) (st : List Value) (σ : a_HP) (Q : Option Value → a_HP → Prop) : Rn 183 101 ls st σ Q = acR 183 (o_ldi 7 103 ls st σ) ls σ Q := rn_row rfl ls st σ Q
theorem r_183_103 (ls : a_LS) (st : List Value) (σ : a_HP) (Q : Option Value → a_HP → Prop) : Rn 183 103 ls st σ Q = acR 183 (o_ldi 8 105 ls st σ) ls σ Q := rn_row rfl ls st σ Q
theorem r_183_105 (ls : a_LS) (st : List Value) (σ : a_HP) (Q : Option Value → a_HP → Prop) : Rn 183 105 ls st σ Q = acR 183 (o_cle 113 108 ls st σ) ls σ Q := rn_row rfl ls st σ Q
theorem r_183_108 (ls : a_LS) (st : List Value) (σ : a_HP) (Q : Option Value → a_HP → Prop) : Rn 183 108 ls st σ Q = acR 183 (o_ldi 7 110 ls st σ) ls σ Q := rn_row rfl ls st σ Q
theorem r_183_110 (ls : a_LS) (st : List Value) (σ : a_HP) (Q : Option Value → a_HP → Prop) : Rn 183 110 ls st σ Q = acR 183 (o_go 115 ls st σ) ls σ Q := rn_row rfl ls st σ Q
theorem r_183_113 (ls : a_LS) (st : List Value) (σ : a_HP) (Q : Option Value → a_HP → Prop) : Rn 183 113 ls st σ Q = acR 183 (o_ldi 8 115 ls st σ) ls σ Q := rn_row rfl ls st σ Q
theorem r_183_115 (ls : a_LS) (st : List Value) (σ : a_HP) (Q : Option Value → a_HP → Prop) : Rn 183 115 ls st σ Q = acR 183 (o_bi f_add 116 ls st σ) ls σ Q := rn_row rfl ls st σ Q
theorem r_183_116 (ls : a_LS) (st : List Value) (σ : a_HP) (Q : Option Value → a_HP → Prop) : Rn 183 116 ls st σ Q = acR 183 (o_sti 4 118 ls st σ) ls σ Q := rn_row rfl ls st σ Q
theorem r_183_118 (ls : a_LS) (st : List Value) (σ : a_HP) (Q : Option Value → a_HP → Prop) : Rn 183 118 ls st σ Q = acR 183 (o_inc 5 (nI 1) 121 ls st σ) ls σ Q := rn_row rfl ls st σ Q
theorem r_183_121 (ls : a_LS) (st : List Value) (σ : a_HP) (Q : Option Value → a_HP → Prop) : Rn 183 121 ls st σ Q = acR 183 (o_go 63 ls st σ) ls σ Q := rn_row rfl ls st σ Q
theorem r_183_124 (ls : a_LS) (st : List Value) (σ : a_HP) (Q : Option Value → a_HP → Prop) : Rn 183 124 ls st σ Q = acR 183 (o_ldi 2 125 ls st σ) ls σ Q := rn_row rfl ls st σ Q
theorem r_183_125 (ls : a_LS) (st : List Value) (σ : a_HP) (Q : Option Value → a_HP → Prop) : Rn 183 125 ls st σ Q = acR 183 (o_ldi 4 127 ls st σ) ls σ Q := rn_row rfl ls st σ Q
theorem r_183_127 (ls : a_LS) (st : List Value) (σ : a_HP) (Q : Option Value → a_HP → Prop) : Rn 183 127 ls st σ Q = acR 183 (o_lda 0 128 ls st σ) ls σ Q := rn_row rfl ls st σ Q
theorem r_183_128 (ls : a_LS) (st : List Value) (σ : a_HP) (Q : Option Value → a_HP → Prop) : Rn 183 128 ls st σ Q = acR 183 (o_get 8 0 131 ls st σ) ls σ Q := rn_row rfl ls st σ Q
theorem r_183_131 (ls : a_LS) (st : List Value) (σ : a_HP) (Q : Option Value → a_HP → Prop) : Rn 183 131 ls st σ Q = acR 183 (o_pi (nI 52) 133 ls st σ) ls σ Q := rn_row rfl ls st σ Q
theorem r_183_133 (ls : a_LS) (st : List Value) (σ : a_HP) (Q : Option Value → a_HP → Prop) : Rn 183 133 ls st σ Q = acR 183 (o_ldi 3 134 ls st σ) ls σ Q := rn_row rfl ls st σ Q
theorem r_183_134 (ls : a_LS) (st : List Value) (σ : a_HP) (Q : Option Value → a_HP → Prop) : Rn 183 134 ls st σ Q = acR 183 (o_bi f_add 135 ls st σ) ls σ Q := rn_row rfl ls st σ Q
theorem r_183_135 (ls : a_LS) (st : List Value) (σ : a_HP) (Q : Option Value → a_HP → Prop) : Rn 183 135 ls st σ Q = acR 183 (o_ial 136 ls st σ) ls σ Q := rn_row rfl ls st σ Q
theorem r_183_136 (ls : a_LS) (st : List Value) (σ : a_HP) (Q : Option Value → a_HP → Prop) : Rn 183 136 ls st σ Q = acR 183 (o_clt 145 139 ls st σ) ls σ Q := rn_row rfl ls st σ Q
theorem r_183_139 (ls : a_LS) (st : List Value) (σ : a_HP) (Q : Option Value → a_HP → Prop) : Rn 183 139 ls st σ Q = acR 183 (o_pi (nI 1) 140 ls st σ) ls σ Q := rn_row rfl ls st σ Q
theorem r_183_140 (ls : a_LS) (st : List Value) (σ : a_HP) (Q : Option Value → a_HP → Prop) : Rn 183 140 ls st σ Q = acR 183 (o_ldi 3 141 ls st σ) ls σ Q := rn_row rfl ls st σ Q
theorem r_183_141 (ls : a_LS) (st : List Value) (σ : a_HP) (Q : Option Value → a_HP → Prop) : Rn 183 141 ls st σ Q = acR 183 (o_bi f_shl 142 ls st σ) ls σ Q := rn_row rfl ls st σ Q
theorem r_183_142 (ls : a_LS) (st : List Value) (σ : a_HP) (Q : Option Value → a_HP → Prop) : Rn 183 142 ls st σ Q = acR 183 (o_go 146 ls st σ) ls σ Q := rn_row rfl ls st σ Q
theorem r_183_145 (ls : a_LS) (st : List Value) (σ : a_HP) (Q : Option Value → a_HP → Prop) : Rn 183 145 ls st σ Q = acR 183 (o_pi (nI 0) 146 ls st σ) ls σ Q := rn_row rfl ls st σ Q
theorem r_183_146 (ls : a_LS) (st : List Value) (σ : a_HP) (Q : Option Value → a_HP → Prop) : Rn 183 146 ls st σ Q = acR 183 (o_bi f_or 147 ls st σ) ls σ Q := rn_row rfl ls st σ Q
theorem r_183_147 (ls : a_LS) (st : List Value) (σ : a_HP) (Q : Option Value → a_HP → Prop) : Rn 183 147 ls st σ Q = acR 183 (o_sti 2 148 ls st σ) ls σ Q := rn_row rfl ls st σ Q
theorem r_183_148 (ls : a_LS) (st : List Value) (σ : a_HP) (Q : Option Value → a_HP → Prop) : Rn 183 148 ls st σ Q = acR 183 (o_inc 3 (nI 1) 151 ls st σ) ls σ Q := rn_row rfl ls st σ Q
theorem r_183_151 (ls : a_LS) (st : List Value) (σ : a_HP) (Q : Option Value → a_HP → Prop) : Rn 183 151 ls st σ Q = acR 183 (o_go 51 ls st σ) ls σ Q := rn_row rfl ls st σ Q
theorem r_183_154 (ls : a_LS) (st : List Value) (σ : a_HP) (Q : Option Value → a_HP → Prop) : Rn 183 154 ls st σ Q = acR 183 (o_ldi 2 155 ls st σ) ls σ Q := rn_row rfl ls st σ Q
theorem r_183_155 (ls : a_LS) (st : List Value) (σ : a_HP) (Q : Option Value → a_HP → Prop) : Rn 183 155 ls st σ Q = acR 183 (o_ri ls st σ) ls σ Q := rn_row rfl ls st σ Q
/-! 184: NetLawModel.reading(III)I -/
theorem cl_184 (x0 : Nat) (x1 : Int32) (x2 : Int32) (x3 : Int32) (σ : a_HP) (Q : Option Value → a_HP → Prop) : Cl 184 [.ref x0, .int x1, .int x2, .int x3] σ Q = Rn 184 0 [some (.ref x0), some (.int x1), some (.int x2), some (.int x3), none] [] σ Q := cl_of (Nat.le_of_ble_eq_true rfl) rfl σ Q
theorem r_184_0 (ls : a_LS) (st : List Value) (σ : a_HP) (Q : Option Value → a_HP → Prop) : Rn 184 0 ls st σ Q = acR 184 (o_ldi 1 1 ls st σ) ls σ Q := rn_row rfl ls st σ Q
theorem r_184_1 (ls : a_LS) (st : List Value) (σ : a_HP) (Q : Option Value → a_HP → Prop) : Rn 184 1 ls st σ Q = acR 184 (o_i2l 2 ls st σ) ls σ Q := rn_row rfl ls st σ Q
theorem r_184_2 (ls : a_LS) (st : List Value) (σ : a_HP) (Q : Option Value → a_HP → Prop) : Rn 184 2 ls st σ Q = acR 184 (o_pl (lN 1) 3 ls st σ) ls σ Q := rn_row rfl ls st σ Q
theorem r_184_3 (ls : a_LS) (st : List Value) (σ : a_HP) (Q : Option Value → a_HP → Prop) : Rn 184 3 ls st σ Q = acR 184 (o_pl (lN 9) 6 ls st σ) ls σ Q := rn_row rfl ls st σ Q
theorem r_184_6 (ls : a_LS) (st : List Value) (σ : a_HP) (Q : Option Value → a_HP → Prop) : Rn 184 6 ls st σ Q = acR 184 (o_ivs 122 3 9 ls st σ) ls σ Q := rn_row rfl ls st σ Q
theorem r_184_9 (ls : a_LS) (st : List Value) (σ : a_HP) (Q : Option Value → a_HP → Prop) : Rn 184 9 ls st σ Q = acR 184 (o_eq 31 12 ls st σ) ls σ Q := rn_row rfl ls st σ Q
theorem r_184_12 (ls : a_LS) (st : List Value) (σ : a_HP) (Q : Option Value → a_HP → Prop) : Rn 184 12 ls st σ Q = acR 184 (o_ldi 2 13 ls st σ) ls σ Q := rn_row rfl ls st σ Q
theorem r_184_13 (ls : a_LS) (st : List Value) (σ : a_HP) (Q : Option Value → a_HP → Prop) : Rn 184 13 ls st σ Q = acR 184 (o_ivs 143 1 16 ls st σ) ls σ Q := rn_row rfl ls st σ Q
theorem r_184_16 (ls : a_LS) (st : List Value) (σ : a_HP) (Q : Option Value → a_HP → Prop) : Rn 184 16 ls st σ Q = acR 184 (o_eq 31 19 ls st σ) ls σ Q := rn_row rfl ls st σ Q
theorem r_184_19 (ls : a_LS) (st : List Value) (σ : a_HP) (Q : Option Value → a_HP → Prop) : Rn 184 19 ls st σ Q = acR 184 (o_ldi 3 20 ls st σ) ls σ Q := rn_row rfl ls st σ Q
theorem r_184_20 (ls : a_LS) (st : List Value) (σ : a_HP) (Q : Option Value → a_HP → Prop) : Rn 184 20 ls st σ Q = acR 184 (o_i2l 21 ls st σ) ls σ Q := rn_row rfl ls st σ Q
theorem r_184_21 (ls : a_LS) (st : List Value) (σ : a_HP) (Q : Option Value → a_HP → Prop) : Rn 184 21 ls st σ Q = acR 184 (o_pl (lN 0) 22 ls st σ) ls σ Q := rn_row rfl ls st σ Q
theorem r_184_22 (ls : a_LS) (st : List Value) (σ : a_HP) (Q : Option Value → a_HP → Prop) : Rn 184 22 ls st σ Q = acR 184 (o_pl (lN 30) 25 ls st σ) ls σ Q := rn_row rfl ls st σ Q
theorem r_184_25 (ls : a_LS) (st : List Value) (σ : a_HP) (Q : Option Value → a_HP → Prop) : Rn 184 25 ls st σ Q = acR 184 (o_ivs 122 3 28 ls st σ) ls σ Q := rn_row rfl ls st σ Q
theorem r_184_28 (ls : a_LS) (st : List Value) (σ : a_HP) (Q : Option Value → a_HP → Prop) : Rn 184 28 ls st σ Q = acR 184 (o_ne 36 31 ls st σ) ls σ Q := rn_row rfl ls st σ Q
theorem r_184_31 (ls : a_LS) (st : List Value) (σ : a_HP) (Q : Option Value → a_HP → Prop) : Rn 184 31 ls st σ Q = acR 184 (o_lda 0 32 ls st σ) ls σ Q := rn_row rfl ls st σ Q
theorem r_184_32 (ls : a_LS) (st : List Value) (σ : a_HP) (Q : Option Value → a_HP → Prop) : Rn 184 32 ls st σ Q = acR 184 (o_ivv 8 125 0 35 ls st σ) ls σ Q := rn_row rfl ls st σ Q
theorem r_184_35 (ls : a_LS) (st : List Value) (σ : a_HP) (Q : Option Value → a_HP → Prop) : Rn 184 35 ls st σ Q = acR 184 (o_ri ls st σ) ls σ Q := rn_row rfl ls st σ Q
theorem r_184_36 (ls : a_LS) (st : List Value) (σ : a_HP) (Q : Option Value → a_HP → Prop) : Rn 184 36 ls st σ Q = acR 184 (o_lda 0 37 ls st σ) ls σ Q := rn_row rfl ls st σ Q
theorem r_184_37 (ls : a_LS) (st : List Value) (σ : a_HP) (Q : Option Value → a_HP → Prop) : Rn 184 37 ls st σ Q = acR 184 (o_get 8 0 40 ls st σ) ls σ Q := rn_row rfl ls st σ Q
theorem r_184_40 (ls : a_LS) (st : List Value) (σ : a_HP) (Q : Option Value → a_HP → Prop) : Rn 184 40 ls st σ Q = acR 184 (o_pi (nI 61) 42 ls st σ) ls σ Q := rn_row rfl ls st σ Q
theorem r_184_42 (ls : a_LS) (st : List Value) (σ : a_HP) (Q : Option Value → a_HP → Prop) : Rn 184 42 ls st σ Q = acR 184 (o_ial 43 ls st σ) ls σ Q := rn_row rfl ls st σ Q
theorem r_184_43 (ls : a_LS) (st : List Value) (σ : a_HP) (Q : Option Value → a_HP → Prop) : Rn 184 43 ls st σ Q = acR 184 (o_pi (nI 6) 45 ls st σ) ls σ Q := rn_row rfl ls st σ Q
theorem r_184_45 (ls : a_LS) (st : List Value) (σ : a_HP) (Q : Option Value → a_HP → Prop) : Rn 184 45 ls st σ Q = acR 184 (o_cne 53 48 ls st σ) ls σ Q := rn_row rfl ls st σ Q
theorem r_184_48 (ls : a_LS) (st : List Value) (σ : a_HP) (Q : Option Value → a_HP → Prop) : Rn 184 48 ls st σ Q = acR 184 (o_lda 0 49 ls st σ) ls σ Q := rn_row rfl ls st σ Q
theorem r_184_49 (ls : a_LS) (st : List Value) (σ : a_HP) (Q : Option Value → a_HP → Prop) : Rn 184 49 ls st σ Q = acR 184 (o_ivv 8 128 0 52 ls st σ) ls σ Q := rn_row rfl ls st σ Q
theorem r_184_52 (ls : a_LS) (st : List Value) (σ : a_HP) (Q : Option Value → a_HP → Prop) : Rn 184 52 ls st σ Q = acR 184 (o_ri ls st σ) ls σ Q := rn_row rfl ls st σ Q
theorem r_184_53 (ls : a_LS) (st : List Value) (σ : a_HP) (Q : Option Value → a_HP → Prop) : Rn 184 53 ls st σ Q = acR 184 (o_pi (nI 62) 55 ls st σ) ls σ Q := rn_row rfl ls st σ Q
theorem r_184_55 (ls : a_LS) (st : List Value) (σ : a_HP) (Q : Option Value → a_HP → Prop) : Rn 184 55 ls st σ Q = acR 184 (o_pi (nI 3) 56 ls st σ) ls σ Q := rn_row rfl ls st σ Q
theorem r_184_56 (ls : a_LS) (st : List Value) (σ : a_HP) (Q : Option Value → a_HP → Prop) : Rn 184 56 ls st σ Q = acR 184 (o_lda 0 57 ls st σ) ls σ Q := rn_row rfl ls st σ Q
theorem r_184_57 (ls : a_LS) (st : List Value) (σ : a_HP) (Q : Option Value → a_HP → Prop) : Rn 184 57 ls st σ Q = acR 184 (o_get 8 0 60 ls st σ) ls σ Q := rn_row rfl ls st σ Q
theorem r_184_60 (ls : a_LS) (st : List Value) (σ : a_HP) (Q : Option Value → a_HP → Prop) : Rn 184 60 ls st σ Q = acR 184 (o_pi (nI 61) 62 ls st σ) ls σ Q := rn_row rfl ls st σ Q
theorem r_184_62 (ls : a_LS) (st : List Value) (σ : a_HP) (Q : Option Value → a_HP → Prop) : Rn 184 62 ls st σ Q = acR 184 (o_ial 63 ls st σ) ls σ Q := rn_row rfl ls st σ Q
theorem r_184_63 (ls : a_LS) (st : List Value) (σ : a_HP) (Q : Option Value → a_HP → Prop) : Rn 184 63 ls st σ Q = acR 184 (o_bi f_mul 64 ls st σ) ls σ Q := rn_row rfl ls st σ Q
theorem r_184_64 (ls : a_LS) (st : List Value) (σ : a_HP) (Q : Option Value → a_HP → Prop) : Rn 184 64 ls st σ Q = acR 184 (o_bi f_add 65 ls st σ) ls σ Q := rn_row rfl ls st σ Q
theorem r_184_65 (ls : a_LS) (st : List Value) (σ : a_HP) (Q : Option Value → a_HP → Prop) : Rn 184 65 ls st σ Q = acR 184 (o_sti 4 67 ls st σ) ls σ Q := rn_row rfl ls st σ Q
theorem r_184_67 (ls : a_LS) (st : List Value) (σ : a_HP) (Q : Option Value → a_HP → Prop) : Rn 184 67 ls st σ Q = acR 184 (o_lda 0 68 ls st σ) ls σ Q := rn_row rfl ls st σ Q
theorem r_184_68 (ls : a_LS) (st : List Value) (σ : a_HP) (Q : Option Value → a_HP → Prop) : Rn 184 68 ls st σ Q = acR 184 (o_get 8 0 71 ls st σ) ls σ Q := rn_row rfl ls st σ Q
theorem r_184_71 (ls : a_LS) (st : List Value) (σ : a_HP) (Q : Option Value → a_HP → Prop) : Rn 184 71 ls st σ Q = acR 184 (o_ldi 4 73 ls st σ) ls σ Q := rn_row rfl ls st σ Q
theorem r_184_73 (ls : a_LS) (st : List Value) (σ : a_HP) (Q : Option Value → a_HP → Prop) : Rn 184 73 ls st σ Q = acR 184 (o_ldi 1 74 ls st σ) ls σ Q := rn_row rfl ls st σ Q
theorem r_184_74 (ls : a_LS) (st : List Value) (σ : a_HP) (Q : Option Value → a_HP → Prop) : Rn 184 74 ls st σ Q = acR 184 (o_ias 75 ls st σ) ls σ Q := rn_row rfl ls st σ Q
theorem r_184_75 (ls : a_LS) (st : List Value) (σ : a_HP) (Q : Option Value → a_HP → Prop) : Rn 184 75 ls st σ Q = acR 184 (o_lda 0 76 ls st σ) ls σ Q := rn_row rfl ls st σ Q
theorem r_184_76 (ls : a_LS) (st : List Value) (σ : a_HP) (Q : Option Value → a_HP → Prop) : Rn 184 76 ls st σ Q = acR 184 (o_get 8 0 79 ls st σ) ls σ Q := rn_row rfl ls st σ Q
theorem r_184_79 (ls : a_LS) (st : List Value) (σ : a_HP) (Q : Option Value → a_HP → Prop) : Rn 184 79 ls st σ Q = acR 184 (o_ldi 4 81 ls st σ) ls σ Q := rn_row rfl ls st σ Q
theorem r_184_81 (ls : a_LS) (st : List Value) (σ : a_HP) (Q : Option Value → a_HP → Prop) : Rn 184 81 ls st σ Q = acR 184 (o_pi (nI 1) 82 ls st σ) ls σ Q := rn_row rfl ls st σ Q
theorem r_184_82 (ls : a_LS) (st : List Value) (σ : a_HP) (Q : Option Value → a_HP → Prop) : Rn 184 82 ls st σ Q = acR 184 (o_bi f_add 83 ls st σ) ls σ Q := rn_row rfl ls st σ Q
theorem r_184_83 (ls : a_LS) (st : List Value) (σ : a_HP) (Q : Option Value → a_HP → Prop) : Rn 184 83 ls st σ Q = acR 184 (o_ldi 2 84 ls st σ) ls σ Q := rn_row rfl ls st σ Q
theorem r_184_84 (ls : a_LS) (st : List Value) (σ : a_HP) (Q : Option Value → a_HP → Prop) : Rn 184 84 ls st σ Q = acR 184 (o_ias 85 ls st σ) ls σ Q := rn_row rfl ls st σ Q
theorem r_184_85 (ls : a_LS) (st : List Value) (σ : a_HP) (Q : Option Value → a_HP → Prop) : Rn 184 85 ls st σ Q = acR 184 (o_lda 0 86 ls st σ) ls σ Q := rn_row rfl ls st σ Q
theorem r_184_86 (ls : a_LS) (st : List Value) (σ : a_HP) (Q : Option Value → a_HP → Prop) : Rn 184 86 ls st σ Q = acR 184 (o_get 8 0 89 ls st σ) ls σ Q := rn_row rfl ls st σ Q
theorem r_184_89 (ls : a_LS) (st : List Value) (σ : a_HP) (Q : Option Value → a_HP → Prop) : Rn 184 89 ls st σ Q = acR 184 (o_ldi 4 91 ls st σ) ls σ Q := rn_row rfl ls st σ Q
theorem r_184_91 (ls : a_LS) (st : List Value) (σ : a_HP) (Q : Option Value → a_HP → Prop) : Rn 184 91 ls st σ Q = acR 184 (o_pi (nI 2) 92 ls st σ) ls σ Q := rn_row rfl ls st σ Q
theorem r_184_92 (ls : a_LS) (st : List Value) (σ : a_HP) (Q : Option Value → a_HP → Prop) : Rn 184 92 ls st σ Q = acR 184 (o_bi f_add 93 ls st σ) ls σ Q := rn_row rfl ls st σ Q
theorem r_184_93 (ls : a_LS) (st : List Value) (σ : a_HP) (Q : Option Value → a_HP → Prop) : Rn 184 93 ls st σ Q = acR 184 (o_ldi 3 94 ls st σ) ls σ Q := rn_row rfl ls st σ Q
theorem r_184_94 (ls : a_LS) (st : List Value) (σ : a_HP) (Q : Option Value → a_HP → Prop) : Rn 184 94 ls st σ Q = acR 184 (o_ias 95 ls st σ) ls σ Q := rn_row rfl ls st σ Q
theorem r_184_95 (ls : a_LS) (st : List Value) (σ : a_HP) (Q : Option Value → a_HP → Prop) : Rn 184 95 ls st σ Q = acR 184 (o_lda 0 96 ls st σ) ls σ Q := rn_row rfl ls st σ Q
theorem r_184_96 (ls : a_LS) (st : List Value) (σ : a_HP) (Q : Option Value → a_HP → Prop) : Rn 184 96 ls st σ Q = acR 184 (o_get 8 0 99 ls st σ) ls σ Q := rn_row rfl ls st σ Q
theorem r_184_99 (ls : a_LS) (st : List Value) (σ : a_HP) (Q : Option Value → a_HP → Prop) : Rn 184 99 ls st σ Q = acR 184 (o_pi (nI 61) 101 ls st σ) ls σ Q := rn_row rfl ls st σ Q
theorem r_184_101 (ls : a_LS) (st : List Value) (σ : a_HP) (Q : Option Value → a_HP → Prop) : Rn 184 101 ls st σ Q = acR 184 (o_dup2 102 ls st σ) ls σ Q := rn_row rfl ls st σ Q
theorem r_184_102 (ls : a_LS) (st : List Value) (σ : a_HP) (Q : Option Value → a_HP → Prop) : Rn 184 102 ls st σ Q = acR 184 (o_ial 103 ls st σ) ls σ Q := rn_row rfl ls st σ Q
theorem r_184_103 (ls : a_LS) (st : List Value) (σ : a_HP) (Q : Option Value → a_HP → Prop) : Rn 184 103 ls st σ Q = acR 184 (o_pi (nI 1) 104 ls st σ) ls σ Q := rn_row rfl ls st σ Q
theorem r_184_104 (ls : a_LS) (st : List Value) (σ : a_HP) (Q : Option Value → a_HP → Prop) : Rn 184 104 ls st σ Q = acR 184 (o_bi f_add 105 ls st σ) ls σ Q := rn_row rfl ls st σ Q
theorem r_184_105 (ls : a_LS) (st : List Value) (σ : a_HP) (Q : Option Value → a_HP → Prop) : Rn 184 105 ls st σ Q = acR 184 (o_ias 106 ls st σ) ls σ Q := rn_row rfl ls st σ Q
theorem r_184_106 (ls : a_LS) (st : List Value) (σ : a_HP) (Q : Option Value → a_HP → Prop) : Rn 184 106 ls st σ Q = acR 184 (o_lda 0 107 ls st σ) ls σ Q := rn_row rfl ls st σ Q
theorem r_184_107 (ls : a_LS) (st : List Value) (σ : a_HP) (Q : Option Value → a_HP → Prop) : Rn 184 107 ls st σ Q = acR 184 (o_get 8 0 110 ls st σ) ls σ Q := rn_row rfl ls st σ Q
theorem r_184_110 (ls : a_LS) (st : List Value) (σ : a_HP) (Q : Option Value → a_HP → Prop) : Rn 184 110 ls st σ Q = acR 184 (o_pi (nI 61) 112 ls st σ) ls σ Q := rn_row rfl ls st σ Q
theorem r_184_112 (ls : a_LS) (st : List Value) (σ : a_HP) (Q : Option Value → a_HP → Prop) : Rn 184 112 ls st σ Q = acR 184 (o_ial 113 ls st σ) ls σ Q := rn_row rfl ls st σ Q
theorem r_184_113 (ls : a_LS) (st : List Value) (σ : a_HP) (Q : Option Value → a_HP → Prop) : Rn 184 113 ls st σ Q = acR 184 (o_ri ls st σ) ls σ Q := rn_row rfl ls st σ Q
/-! 185: NetLawModel.forget()I -/
theorem cl_185 (x0 : Nat) (σ : a_HP) (Q : Option Value → a_HP → Prop) : Cl 185 [.ref x0] σ Q = Rn 185 0 [some (.ref x0)] [] σ Q := cl_of (Nat.le_of_ble_eq_true rfl) rfl σ Q
theorem r_185_0 (ls : a_LS) (st : List Value) (σ : a_HP) (Q : Option Value → a_HP → Prop) : Rn 185 0 ls st σ Q = acR 185 (o_lda 0 1 ls st σ) ls σ Q := rn_row rfl ls st σ Q
theorem r_185_1 (ls : a_LS) (st : List Value) (σ : a_HP) (Q : Option Value → a_HP → Prop) : Rn 185 1 ls st σ Q = acR 185 (o_pi (nI 61) 3 ls st σ) ls σ Q := rn_row rfl ls st σ Q
theorem r_185_3 (ls : a_LS) (st : List Value) (σ : a_HP) (Q : Option Value → a_HP → Prop) : Rn 185 3 ls st σ Q = acR 185 (o_pi (nI 0) 4 ls st σ) ls σ Q := rn_row rfl ls st σ Q
theorem r_185_4 (ls : a_LS) (st : List Value) (σ : a_HP) (Q : Option Value → a_HP → Prop) : Rn 185 4 ls st σ Q = acR 185 (o_ivv 8 145 2 7 ls st σ) ls σ Q := rn_row rfl ls st σ Q
theorem r_185_7 (ls : a_LS) (st : List Value) (σ : a_HP) (Q : Option Value → a_HP → Prop) : Rn 185 7 ls st σ Q = acR 185 (o_ri ls st σ) ls σ Q := rn_row rfl ls st σ Q
/-! 186: NetLawModel.kinds()I -/
theorem cl_186 (x0 : Nat) (σ : a_HP) (Q : Option Value → a_HP → Prop) : Cl 186 [.ref x0] σ Q = Rn 186 0 [some (.ref x0), none, none, none, none, none] [] σ Q := cl_of (Nat.le_of_ble_eq_true rfl) rfl σ Q
theorem r_186_0 (ls : a_LS) (st : List Value) (σ : a_HP) (Q : Option Value → a_HP → Prop) : Rn 186 0 ls st σ Q = acR 186 (o_pi (nI 0) 1 ls st σ) ls σ Q := rn_row rfl ls st σ Q
theorem r_186_1 (ls : a_LS) (st : List Value) (σ : a_HP) (Q : Option Value → a_HP → Prop) : Rn 186 1 ls st σ Q = acR 186 (o_sti 1 2 ls st σ) ls σ Q := rn_row rfl ls st σ Q
theorem r_186_2 (ls : a_LS) (st : List Value) (σ : a_HP) (Q : Option Value → a_HP → Prop) : Rn 186 2 ls st σ Q = acR 186 (o_pi (nI 0) 3 ls st σ) ls σ Q := rn_row rfl ls st σ Q
theorem r_186_3 (ls : a_LS) (st : List Value) (σ : a_HP) (Q : Option Value → a_HP → Prop) : Rn 186 3 ls st σ Q = acR 186 (o_sti 2 4 ls st σ) ls σ Q := rn_row rfl ls st σ Q
theorem r_186_4 (ls : a_LS) (st : List Value) (σ : a_HP) (Q : Option Value → a_HP → Prop) : Rn 186 4 ls st σ Q = acR 186 (o_ldi 2 5 ls st σ) ls σ Q := rn_row rfl ls st σ Q
theorem r_186_5 (ls : a_LS) (st : List Value) (σ : a_HP) (Q : Option Value → a_HP → Prop) : Rn 186 5 ls st σ Q = acR 186 (o_pi (nI 6) 7 ls st σ) ls σ Q := rn_row rfl ls st σ Q
theorem r_186_7 (ls : a_LS) (st : List Value) (σ : a_HP) (Q : Option Value → a_HP → Prop) : Rn 186 7 ls st σ Q = acR 186 (o_cge 105 10 ls st σ) ls σ Q := rn_row rfl ls st σ Q
theorem r_186_10 (ls : a_LS) (st : List Value) (σ : a_HP) (Q : Option Value → a_HP → Prop) : Rn 186 10 ls st σ Q = acR 186 (o_pi (nI 1) 11 ls st σ) ls σ Q := rn_row rfl ls st σ Q
theorem r_186_11 (ls : a_LS) (st : List Value) (σ : a_HP) (Q : Option Value → a_HP → Prop) : Rn 186 11 ls st σ Q = acR 186 (o_sti 3 12 ls st σ) ls σ Q := rn_row rfl ls st σ Q
theorem r_186_12 (ls : a_LS) (st : List Value) (σ : a_HP) (Q : Option Value → a_HP → Prop) : Rn 186 12 ls st σ Q = acR 186 (o_pi (nI 0) 13 ls st σ) ls σ Q := rn_row rfl ls st σ Q
theorem r_186_13 (ls : a_LS) (st : List Value) (σ : a_HP) (Q : Option Value → a_HP → Prop) : Rn 186 13 ls st σ Q = acR 186 (o_sti 4 15 ls st σ) ls σ Q := rn_row rfl ls st σ Q
theorem r_186_15 (ls : a_LS) (st : List Value) (σ : a_HP) (Q : Option Value → a_HP → Prop) : Rn 186 15 ls st σ Q = acR 186 (o_ldi 4 17 ls st σ) ls σ Q := rn_row rfl ls st σ Q
theorem r_186_17 (ls : a_LS) (st : List Value) (σ : a_HP) (Q : Option Value → a_HP → Prop) : Rn 186 17 ls st σ Q = acR 186 (o_lda 0 18 ls st σ) ls σ Q := rn_row rfl ls st σ Q
theorem r_186_18 (ls : a_LS) (st : List Value) (σ : a_HP) (Q : Option Value → a_HP → Prop) : Rn 186 18 ls st σ Q = acR 186 (o_get 8 0 21 ls st σ) ls σ Q := rn_row rfl ls st σ Q
theorem r_186_21 (ls : a_LS) (st : List Value) (σ : a_HP) (Q : Option Value → a_HP → Prop) : Rn 186 21 ls st σ Q = acR 186 (o_pi (nI 61) 23 ls st σ) ls σ Q := rn_row rfl ls st σ Q
theorem r_186_23 (ls : a_LS) (st : List Value) (σ : a_HP) (Q : Option Value → a_HP → Prop) : Rn 186 23 ls st σ Q = acR 186 (o_ial 24 ls st σ) ls σ Q := rn_row rfl ls st σ Q
theorem r_186_24 (ls : a_LS) (st : List Value) (σ : a_HP) (Q : Option Value → a_HP → Prop) : Rn 186 24 ls st σ Q = acR 186 (o_cge 85 27 ls st σ) ls σ Q := rn_row rfl ls st σ Q
theorem r_186_27 (ls : a_LS) (st : List Value) (σ : a_HP) (Q : Option Value → a_HP → Prop) : Rn 186 27 ls st σ Q = acR 186 (o_pi (nI 62) 29 ls st σ) ls σ Q := rn_row rfl ls st σ Q
theorem r_186_29 (ls : a_LS) (st : List Value) (σ : a_HP) (Q : Option Value → a_HP → Prop) : Rn 186 29 ls st σ Q = acR 186 (o_pi (nI 3) 30 ls st σ) ls σ Q := rn_row rfl ls st σ Q
theorem r_186_30 (ls : a_LS) (st : List Value) (σ : a_HP) (Q : Option Value → a_HP → Prop) : Rn 186 30 ls st σ Q = acR 186 (o_ldi 4 32 ls st σ) ls σ Q := rn_row rfl ls st σ Q
theorem r_186_32 (ls : a_LS) (st : List Value) (σ : a_HP) (Q : Option Value → a_HP → Prop) : Rn 186 32 ls st σ Q = acR 186 (o_bi f_mul 33 ls st σ) ls σ Q := rn_row rfl ls st σ Q
theorem r_186_33 (ls : a_LS) (st : List Value) (σ : a_HP) (Q : Option Value → a_HP → Prop) : Rn 186 33 ls st σ Q = acR 186 (o_bi f_add 34 ls st σ) ls σ Q := rn_row rfl ls st σ Q
theorem r_186_34 (ls : a_LS) (st : List Value) (σ : a_HP) (Q : Option Value → a_HP → Prop) : Rn 186 34 ls st σ Q = acR 186 (o_sti 5 36 ls st σ) ls σ Q := rn_row rfl ls st σ Q
theorem r_186_36 (ls : a_LS) (st : List Value) (σ : a_HP) (Q : Option Value → a_HP → Prop) : Rn 186 36 ls st σ Q = acR 186 (o_ldi 3 37 ls st σ) ls σ Q := rn_row rfl ls st σ Q
theorem r_186_37 (ls : a_LS) (st : List Value) (σ : a_HP) (Q : Option Value → a_HP → Prop) : Rn 186 37 ls st σ Q = acR 186 (o_eq 77 40 ls st σ) ls σ Q := rn_row rfl ls st σ Q
theorem r_186_40 (ls : a_LS) (st : List Value) (σ : a_HP) (Q : Option Value → a_HP → Prop) : Rn 186 40 ls st σ Q = acR 186 (o_ldi 2 41 ls st σ) ls σ Q := rn_row rfl ls st σ Q
theorem r_186_41 (ls : a_LS) (st : List Value) (σ : a_HP) (Q : Option Value → a_HP → Prop) : Rn 186 41 ls st σ Q = acR 186 (o_lda 0 42 ls st σ) ls σ Q := rn_row rfl ls st σ Q
theorem r_186_42 (ls : a_LS) (st : List Value) (σ : a_HP) (Q : Option Value → a_HP → Prop) : Rn 186 42 ls st σ Q = acR 186 (o_get 8 0 45 ls st σ) ls σ Q := rn_row rfl ls st σ Q
theorem r_186_45 (ls : a_LS) (st : List Value) (σ : a_HP) (Q : Option Value → a_HP → Prop) : Rn 186 45 ls st σ Q = acR 186 (o_ldi 5 47 ls st σ) ls σ Q := rn_row rfl ls st σ Q
theorem r_186_47 (ls : a_LS) (st : List Value) (σ : a_HP) (Q : Option Value → a_HP → Prop) : Rn 186 47 ls st σ Q = acR 186 (o_ial 48 ls st σ) ls σ Q := rn_row rfl ls st σ Q
theorem r_186_48 (ls : a_LS) (st : List Value) (σ : a_HP) (Q : Option Value → a_HP → Prop) : Rn 186 48 ls st σ Q = acR 186 (o_lda 0 49 ls st σ) ls σ Q := rn_row rfl ls st σ Q
theorem r_186_49 (ls : a_LS) (st : List Value) (σ : a_HP) (Q : Option Value → a_HP → Prop) : Rn 186 49 ls st σ Q = acR 186 (o_get 8 0 52 ls st σ) ls σ Q := rn_row rfl ls st σ Q
theorem r_186_52 (ls : a_LS) (st : List Value) (σ : a_HP) (Q : Option Value → a_HP → Prop) : Rn 186 52 ls st σ Q = acR 186 (o_ldi 5 54 ls st σ) ls σ Q := rn_row rfl ls st σ Q
theorem r_186_54 (ls : a_LS) (st : List Value) (σ : a_HP) (Q : Option Value → a_HP → Prop) : Rn 186 54 ls st σ Q = acR 186 (o_pi (nI 1) 55 ls st σ) ls σ Q := rn_row rfl ls st σ Q
theorem r_186_55 (ls : a_LS) (st : List Value) (σ : a_HP) (Q : Option Value → a_HP → Prop) : Rn 186 55 ls st σ Q = acR 186 (o_bi f_add 56 ls st σ) ls σ Q := rn_row rfl ls st σ Q
theorem r_186_56 (ls : a_LS) (st : List Value) (σ : a_HP) (Q : Option Value → a_HP → Prop) : Rn 186 56 ls st σ Q = acR 186 (o_ial 57 ls st σ) ls σ Q := rn_row rfl ls st σ Q
theorem r_186_57 (ls : a_LS) (st : List Value) (σ : a_HP) (Q : Option Value → a_HP → Prop) : Rn 186 57 ls st σ Q = acR 186 (o_pi (nI 0) 58 ls st σ) ls σ Q := rn_row rfl ls st σ Q
theorem r_186_58 (ls : a_LS) (st : List Value) (σ : a_HP) (Q : Option Value → a_HP → Prop) : Rn 186 58 ls st σ Q = acR 186 (o_ivs 133 4 61 ls st σ) ls σ Q := rn_row rfl ls st σ Q
theorem r_186_61 (ls : a_LS) (st : List Value) (σ : a_HP) (Q : Option Value → a_HP → Prop) : Rn 186 61 ls st σ Q = acR 186 (o_lda 0 62 ls st σ) ls σ Q := rn_row rfl ls st σ Q
theorem r_186_62 (ls : a_LS) (st : List Value) (σ : a_HP) (Q : Option Value → a_HP → Prop) : Rn 186 62 ls st σ Q = acR 186 (o_get 8 0 65 ls st σ) ls σ Q := rn_row rfl ls st σ Q
theorem r_186_65 (ls : a_LS) (st : List Value) (σ : a_HP) (Q : Option Value → a_HP → Prop) : Rn 186 65 ls st σ Q = acR 186 (o_ldi 5 67 ls st σ) ls σ Q := rn_row rfl ls st σ Q
theorem r_186_67 (ls : a_LS) (st : List Value) (σ : a_HP) (Q : Option Value → a_HP → Prop) : Rn 186 67 ls st σ Q = acR 186 (o_pi (nI 2) 68 ls st σ) ls σ Q := rn_row rfl ls st σ Q
theorem r_186_68 (ls : a_LS) (st : List Value) (σ : a_HP) (Q : Option Value → a_HP → Prop) : Rn 186 68 ls st σ Q = acR 186 (o_bi f_add 69 ls st σ) ls σ Q := rn_row rfl ls st σ Q
theorem r_186_69 (ls : a_LS) (st : List Value) (σ : a_HP) (Q : Option Value → a_HP → Prop) : Rn 186 69 ls st σ Q = acR 186 (o_ial 70 ls st σ) ls σ Q := rn_row rfl ls st σ Q
theorem r_186_70 (ls : a_LS) (st : List Value) (σ : a_HP) (Q : Option Value → a_HP → Prop) : Rn 186 70 ls st σ Q = acR 186 (o_cne 77 73 ls st σ) ls σ Q := rn_row rfl ls st σ Q
theorem r_186_73 (ls : a_LS) (st : List Value) (σ : a_HP) (Q : Option Value → a_HP → Prop) : Rn 186 73 ls st σ Q = acR 186 (o_pi (nI 1) 74 ls st σ) ls σ Q := rn_row rfl ls st σ Q
theorem r_186_74 (ls : a_LS) (st : List Value) (σ : a_HP) (Q : Option Value → a_HP → Prop) : Rn 186 74 ls st σ Q = acR 186 (o_go 78 ls st σ) ls σ Q := rn_row rfl ls st σ Q
theorem r_186_77 (ls : a_LS) (st : List Value) (σ : a_HP) (Q : Option Value → a_HP → Prop) : Rn 186 77 ls st σ Q = acR 186 (o_pi (nI 0) 78 ls st σ) ls σ Q := rn_row rfl ls st σ Q
theorem r_186_78 (ls : a_LS) (st : List Value) (σ : a_HP) (Q : Option Value → a_HP → Prop) : Rn 186 78 ls st σ Q = acR 186 (o_sti 3 79 ls st σ) ls σ Q := rn_row rfl ls st σ Q
theorem r_186_79 (ls : a_LS) (st : List Value) (σ : a_HP) (Q : Option Value → a_HP → Prop) : Rn 186 79 ls st σ Q = acR 186 (o_inc 4 (nI 1) 82 ls st σ) ls σ Q := rn_row rfl ls st σ Q
theorem r_186_82 (ls : a_LS) (st : List Value) (σ : a_HP) (Q : Option Value → a_HP → Prop) : Rn 186 82 ls st σ Q = acR 186 (o_go 15 ls st σ) ls σ Q := rn_row rfl ls st σ Q
theorem r_186_85 (ls : a_LS) (st : List Value) (σ : a_HP) (Q : Option Value → a_HP → Prop) : Rn 186 85 ls st σ Q = acR 186 (o_ldi 1 86 ls st σ) ls σ Q := rn_row rfl ls st σ Q
theorem r_186_86 (ls : a_LS) (st : List Value) (σ : a_HP) (Q : Option Value → a_HP → Prop) : Rn 186 86 ls st σ Q = acR 186 (o_ldi 3 87 ls st σ) ls σ Q := rn_row rfl ls st σ Q
theorem r_186_87 (ls : a_LS) (st : List Value) (σ : a_HP) (Q : Option Value → a_HP → Prop) : Rn 186 87 ls st σ Q = acR 186 (o_eq 96 90 ls st σ) ls σ Q := rn_row rfl ls st σ Q
theorem r_186_90 (ls : a_LS) (st : List Value) (σ : a_HP) (Q : Option Value → a_HP → Prop) : Rn 186 90 ls st σ Q = acR 186 (o_pi (nI 1) 91 ls st σ) ls σ Q := rn_row rfl ls st σ Q
theorem r_186_91 (ls : a_LS) (st : List Value) (σ : a_HP) (Q : Option Value → a_HP → Prop) : Rn 186 91 ls st σ Q = acR 186 (o_ldi 2 92 ls st σ) ls σ Q := rn_row rfl ls st σ Q
theorem r_186_92 (ls : a_LS) (st : List Value) (σ : a_HP) (Q : Option Value → a_HP → Prop) : Rn 186 92 ls st σ Q = acR 186 (o_bi f_shl 93 ls st σ) ls σ Q := rn_row rfl ls st σ Q
theorem r_186_93 (ls : a_LS) (st : List Value) (σ : a_HP) (Q : Option Value → a_HP → Prop) : Rn 186 93 ls st σ Q = acR 186 (o_go 97 ls st σ) ls σ Q := rn_row rfl ls st σ Q
theorem r_186_96 (ls : a_LS) (st : List Value) (σ : a_HP) (Q : Option Value → a_HP → Prop) : Rn 186 96 ls st σ Q = acR 186 (o_pi (nI 0) 97 ls st σ) ls σ Q := rn_row rfl ls st σ Q
theorem r_186_97 (ls : a_LS) (st : List Value) (σ : a_HP) (Q : Option Value → a_HP → Prop) : Rn 186 97 ls st σ Q = acR 186 (o_bi f_or 98 ls st σ) ls σ Q := rn_row rfl ls st σ Q
theorem r_186_98 (ls : a_LS) (st : List Value) (σ : a_HP) (Q : Option Value → a_HP → Prop) : Rn 186 98 ls st σ Q = acR 186 (o_sti 1 99 ls st σ) ls σ Q := rn_row rfl ls st σ Q
theorem r_186_99 (ls : a_LS) (st : List Value) (σ : a_HP) (Q : Option Value → a_HP → Prop) : Rn 186 99 ls st σ Q = acR 186 (o_inc 2 (nI 1) 102 ls st σ) ls σ Q := rn_row rfl ls st σ Q
theorem r_186_102 (ls : a_LS) (st : List Value) (σ : a_HP) (Q : Option Value → a_HP → Prop) : Rn 186 102 ls st σ Q = acR 186 (o_go 4 ls st σ) ls σ Q := rn_row rfl ls st σ Q
theorem r_186_105 (ls : a_LS) (st : List Value) (σ : a_HP) (Q : Option Value → a_HP → Prop) : Rn 186 105 ls st σ Q = acR 186 (o_ldi 1 106 ls st σ) ls σ Q := rn_row rfl ls st σ Q
theorem r_186_106 (ls : a_LS) (st : List Value) (σ : a_HP) (Q : Option Value → a_HP → Prop) : Rn 186 106 ls st σ Q = acR 186 (o_ri ls st σ) ls σ Q := rn_row rfl ls st σ Q
/-! 187: NetLawModel.may()I -/
theorem cl_187 (x0 : Nat) (σ : a_HP) (Q : Option Value → a_HP → Prop) : Cl 187 [.ref x0] σ Q = Rn 187 0 [some (.ref x0)] [] σ Q := cl_of (Nat.le_of_ble_eq_true rfl) rfl σ Q
theorem r_187_0 (ls : a_LS) (st : List Value) (σ : a_HP) (Q : Option Value → a_HP → Prop) : Rn 187 0 ls st σ Q = acR 187 (o_lda 0 1 ls st σ) ls σ Q := rn_row rfl ls st σ Q
theorem r_187_1 (ls : a_LS) (st : List Value) (σ : a_HP) (Q : Option Value → a_HP → Prop) : Rn 187 1 ls st σ Q = acR 187 (o_ivv 8 186 0 4 ls st σ) ls σ Q := rn_row rfl ls st σ Q
theorem r_187_4 (ls : a_LS) (st : List Value) (σ : a_HP) (Q : Option Value → a_HP → Prop) : Rn 187 4 ls st σ Q = acR 187 (o_ri ls st σ) ls σ Q := rn_row rfl ls st σ Q
/-! 188: NetLawModel.tries()I -/
theorem cl_188 (x0 : Nat) (σ : a_HP) (Q : Option Value → a_HP → Prop) : Cl 188 [.ref x0] σ Q = Rn 188 0 [some (.ref x0), none, none, none, none, none, none, none, none] [] σ Q := cl_of (Nat.le_of_ble_eq_true rfl) rfl σ Q
theorem r_188_0 (ls : a_LS) (st : List Value) (σ : a_HP) (Q : Option Value → a_HP → Prop) : Rn 188 0 ls st σ Q = acR 188 (o_lda 0 1 ls st σ) ls σ Q := rn_row rfl ls st σ Q
theorem r_188_1 (ls : a_LS) (st : List Value) (σ : a_HP) (Q : Option Value → a_HP → Prop) : Rn 188 1 ls st σ Q = acR 188 (o_ivv 8 186 0 4 ls st σ) ls σ Q := rn_row rfl ls st σ Q
theorem r_188_4 (ls : a_LS) (st : List Value) (σ : a_HP) (Q : Option Value → a_HP → Prop) : Rn 188 4 ls st σ Q = acR 188 (o_sti 1 5 ls st σ) ls σ Q := rn_row rfl ls st σ Q
theorem r_188_5 (ls : a_LS) (st : List Value) (σ : a_HP) (Q : Option Value → a_HP → Prop) : Rn 188 5 ls st σ Q = acR 188 (o_pi (-1) 6 ls st σ) ls σ Q := rn_row rfl ls st σ Q
theorem r_188_6 (ls : a_LS) (st : List Value) (σ : a_HP) (Q : Option Value → a_HP → Prop) : Rn 188 6 ls st σ Q = acR 188 (o_sti 2 7 ls st σ) ls σ Q := rn_row rfl ls st σ Q
theorem r_188_7 (ls : a_LS) (st : List Value) (σ : a_HP) (Q : Option Value → a_HP → Prop) : Rn 188 7 ls st σ Q = acR 188 (o_pi (1000000) 9 ls st σ) ls σ Q := rn_row rfl ls st σ Q
theorem r_188_9 (ls : a_LS) (st : List Value) (σ : a_HP) (Q : Option Value → a_HP → Prop) : Rn 188 9 ls st σ Q = acR 188 (o_sti 3 10 ls st σ) ls σ Q := rn_row rfl ls st σ Q
theorem r_188_10 (ls : a_LS) (st : List Value) (σ : a_HP) (Q : Option Value → a_HP → Prop) : Rn 188 10 ls st σ Q = acR 188 (o_pi (nI 1) 11 ls st σ) ls σ Q := rn_row rfl ls st σ Q
theorem r_188_11 (ls : a_LS) (st : List Value) (σ : a_HP) (Q : Option Value → a_HP → Prop) : Rn 188 11 ls st σ Q = acR 188 (o_sti 4 13 ls st σ) ls σ Q := rn_row rfl ls st σ Q
theorem r_188_13 (ls : a_LS) (st : List Value) (σ : a_HP) (Q : Option Value → a_HP → Prop) : Rn 188 13 ls st σ Q = acR 188 (o_ldi 4 15 ls st σ) ls σ Q := rn_row rfl ls st σ Q
theorem r_188_15 (ls : a_LS) (st : List Value) (σ : a_HP) (Q : Option Value → a_HP → Prop) : Rn 188 15 ls st σ Q = acR 188 (o_pi (nI 20) 17 ls st σ) ls σ Q := rn_row rfl ls st σ Q
theorem r_188_17 (ls : a_LS) (st : List Value) (σ : a_HP) (Q : Option Value → a_HP → Prop) : Rn 188 17 ls st σ Q = acR 188 (o_cge 191 20 ls st σ) ls σ Q := rn_row rfl ls st σ Q
theorem r_188_20 (ls : a_LS) (st : List Value) (σ : a_HP) (Q : Option Value → a_HP → Prop) : Rn 188 20 ls st σ Q = acR 188 (o_ldi 1 21 ls st σ) ls σ Q := rn_row rfl ls st σ Q
theorem r_188_21 (ls : a_LS) (st : List Value) (σ : a_HP) (Q : Option Value → a_HP → Prop) : Rn 188 21 ls st σ Q = acR 188 (o_eq 191 24 ls st σ) ls σ Q := rn_row rfl ls st σ Q
theorem r_188_24 (ls : a_LS) (st : List Value) (σ : a_HP) (Q : Option Value → a_HP → Prop) : Rn 188 24 ls st σ Q = acR 188 (o_pi (nI 0) 25 ls st σ) ls σ Q := rn_row rfl ls st σ Q
theorem r_188_25 (ls : a_LS) (st : List Value) (σ : a_HP) (Q : Option Value → a_HP → Prop) : Rn 188 25 ls st σ Q = acR 188 (o_sti 5 27 ls st σ) ls σ Q := rn_row rfl ls st σ Q
theorem r_188_27 (ls : a_LS) (st : List Value) (σ : a_HP) (Q : Option Value → a_HP → Prop) : Rn 188 27 ls st σ Q = acR 188 (o_pi (nI 0) 28 ls st σ) ls σ Q := rn_row rfl ls st σ Q
theorem r_188_28 (ls : a_LS) (st : List Value) (σ : a_HP) (Q : Option Value → a_HP → Prop) : Rn 188 28 ls st σ Q = acR 188 (o_sti 6 30 ls st σ) ls σ Q := rn_row rfl ls st σ Q
theorem r_188_30 (ls : a_LS) (st : List Value) (σ : a_HP) (Q : Option Value → a_HP → Prop) : Rn 188 30 ls st σ Q = acR 188 (o_ldi 6 32 ls st σ) ls σ Q := rn_row rfl ls st σ Q
theorem r_188_32 (ls : a_LS) (st : List Value) (σ : a_HP) (Q : Option Value → a_HP → Prop) : Rn 188 32 ls st σ Q = acR 188 (o_pi (nI 6) 34 ls st σ) ls σ Q := rn_row rfl ls st σ Q
theorem r_188_34 (ls : a_LS) (st : List Value) (σ : a_HP) (Q : Option Value → a_HP → Prop) : Rn 188 34 ls st σ Q = acR 188 (o_cge 141 37 ls st σ) ls σ Q := rn_row rfl ls st σ Q
theorem r_188_37 (ls : a_LS) (st : List Value) (σ : a_HP) (Q : Option Value → a_HP → Prop) : Rn 188 37 ls st σ Q = acR 188 (o_pi (nI 0) 38 ls st σ) ls σ Q := rn_row rfl ls st σ Q
theorem r_188_38 (ls : a_LS) (st : List Value) (σ : a_HP) (Q : Option Value → a_HP → Prop) : Rn 188 38 ls st σ Q = acR 188 (o_sti 7 40 ls st σ) ls σ Q := rn_row rfl ls st σ Q
theorem r_188_40 (ls : a_LS) (st : List Value) (σ : a_HP) (Q : Option Value → a_HP → Prop) : Rn 188 40 ls st σ Q = acR 188 (o_pi (nI 0) 41 ls st σ) ls σ Q := rn_row rfl ls st σ Q
theorem r_188_41 (ls : a_LS) (st : List Value) (σ : a_HP) (Q : Option Value → a_HP → Prop) : Rn 188 41 ls st σ Q = acR 188 (o_sti 8 43 ls st σ) ls σ Q := rn_row rfl ls st σ Q
theorem r_188_43 (ls : a_LS) (st : List Value) (σ : a_HP) (Q : Option Value → a_HP → Prop) : Rn 188 43 ls st σ Q = acR 188 (o_ldi 8 45 ls st σ) ls σ Q := rn_row rfl ls st σ Q
theorem r_188_45 (ls : a_LS) (st : List Value) (σ : a_HP) (Q : Option Value → a_HP → Prop) : Rn 188 45 ls st σ Q = acR 188 (o_pi (nI 6) 47 ls st σ) ls σ Q := rn_row rfl ls st σ Q
theorem r_188_47 (ls : a_LS) (st : List Value) (σ : a_HP) (Q : Option Value → a_HP → Prop) : Rn 188 47 ls st σ Q = acR 188 (o_cge 110 50 ls st σ) ls σ Q := rn_row rfl ls st σ Q
theorem r_188_50 (ls : a_LS) (st : List Value) (σ : a_HP) (Q : Option Value → a_HP → Prop) : Rn 188 50 ls st σ Q = acR 188 (o_ldi 7 52 ls st σ) ls σ Q := rn_row rfl ls st σ Q
theorem r_188_52 (ls : a_LS) (st : List Value) (σ : a_HP) (Q : Option Value → a_HP → Prop) : Rn 188 52 ls st σ Q = acR 188 (o_ldi 1 53 ls st σ) ls σ Q := rn_row rfl ls st σ Q
theorem r_188_53 (ls : a_LS) (st : List Value) (σ : a_HP) (Q : Option Value → a_HP → Prop) : Rn 188 53 ls st σ Q = acR 188 (o_ldi 8 55 ls st σ) ls σ Q := rn_row rfl ls st σ Q
theorem r_188_55 (ls : a_LS) (st : List Value) (σ : a_HP) (Q : Option Value → a_HP → Prop) : Rn 188 55 ls st σ Q = acR 188 (o_ivs 123 2 58 ls st σ) ls σ Q := rn_row rfl ls st σ Q
theorem r_188_58 (ls : a_LS) (st : List Value) (σ : a_HP) (Q : Option Value → a_HP → Prop) : Rn 188 58 ls st σ Q = acR 188 (o_eq 100 61 ls st σ) ls σ Q := rn_row rfl ls st σ Q
theorem r_188_61 (ls : a_LS) (st : List Value) (σ : a_HP) (Q : Option Value → a_HP → Prop) : Rn 188 61 ls st σ Q = acR 188 (o_ldi 8 63 ls st σ) ls σ Q := rn_row rfl ls st σ Q
theorem r_188_63 (ls : a_LS) (st : List Value) (σ : a_HP) (Q : Option Value → a_HP → Prop) : Rn 188 63 ls st σ Q = acR 188 (o_ldi 4 65 ls st σ) ls σ Q := rn_row rfl ls st σ Q
theorem r_188_65 (ls : a_LS) (st : List Value) (σ : a_HP) (Q : Option Value → a_HP → Prop) : Rn 188 65 ls st σ Q = acR 188 (o_pi (nI 10) 67 ls st σ) ls σ Q := rn_row rfl ls st σ Q
theorem r_188_67 (ls : a_LS) (st : List Value) (σ : a_HP) (Q : Option Value → a_HP → Prop) : Rn 188 67 ls st σ Q = acR 188 (o_bd f_rem 68 ls st σ) ls σ Q := rn_row rfl ls st σ Q
theorem r_188_68 (ls : a_LS) (st : List Value) (σ : a_HP) (Q : Option Value → a_HP → Prop) : Rn 188 68 ls st σ Q = acR 188 (o_ldi 4 70 ls st σ) ls σ Q := rn_row rfl ls st σ Q
theorem r_188_70 (ls : a_LS) (st : List Value) (σ : a_HP) (Q : Option Value → a_HP → Prop) : Rn 188 70 ls st σ Q = acR 188 (o_pi (nI 10) 72 ls st σ) ls σ Q := rn_row rfl ls st σ Q
theorem r_188_72 (ls : a_LS) (st : List Value) (σ : a_HP) (Q : Option Value → a_HP → Prop) : Rn 188 72 ls st σ Q = acR 188 (o_bd f_div 73 ls st σ) ls σ Q := rn_row rfl ls st σ Q
theorem r_188_73 (ls : a_LS) (st : List Value) (σ : a_HP) (Q : Option Value → a_HP → Prop) : Rn 188 73 ls st σ Q = acR 188 (o_pi (nI 0) 74 ls st σ) ls σ Q := rn_row rfl ls st σ Q
theorem r_188_74 (ls : a_LS) (st : List Value) (σ : a_HP) (Q : Option Value → a_HP → Prop) : Rn 188 74 ls st σ Q = acR 188 (o_ivs 133 4 77 ls st σ) ls σ Q := rn_row rfl ls st σ Q
theorem r_188_77 (ls : a_LS) (st : List Value) (σ : a_HP) (Q : Option Value → a_HP → Prop) : Rn 188 77 ls st σ Q = acR 188 (o_ldi 6 79 ls st σ) ls σ Q := rn_row rfl ls st σ Q
theorem r_188_79 (ls : a_LS) (st : List Value) (σ : a_HP) (Q : Option Value → a_HP → Prop) : Rn 188 79 ls st σ Q = acR 188 (o_ldi 4 81 ls st σ) ls σ Q := rn_row rfl ls st σ Q
theorem r_188_81 (ls : a_LS) (st : List Value) (σ : a_HP) (Q : Option Value → a_HP → Prop) : Rn 188 81 ls st σ Q = acR 188 (o_pi (nI 10) 83 ls st σ) ls σ Q := rn_row rfl ls st σ Q
theorem r_188_83 (ls : a_LS) (st : List Value) (σ : a_HP) (Q : Option Value → a_HP → Prop) : Rn 188 83 ls st σ Q = acR 188 (o_bd f_rem 84 ls st σ) ls σ Q := rn_row rfl ls st σ Q
theorem r_188_84 (ls : a_LS) (st : List Value) (σ : a_HP) (Q : Option Value → a_HP → Prop) : Rn 188 84 ls st σ Q = acR 188 (o_ldi 4 86 ls st σ) ls σ Q := rn_row rfl ls st σ Q
theorem r_188_86 (ls : a_LS) (st : List Value) (σ : a_HP) (Q : Option Value → a_HP → Prop) : Rn 188 86 ls st σ Q = acR 188 (o_pi (nI 10) 88 ls st σ) ls σ Q := rn_row rfl ls st σ Q
theorem r_188_88 (ls : a_LS) (st : List Value) (σ : a_HP) (Q : Option Value → a_HP → Prop) : Rn 188 88 ls st σ Q = acR 188 (o_bd f_div 89 ls st σ) ls σ Q := rn_row rfl ls st σ Q
theorem r_188_89 (ls : a_LS) (st : List Value) (σ : a_HP) (Q : Option Value → a_HP → Prop) : Rn 188 89 ls st σ Q = acR 188 (o_pi (nI 0) 90 ls st σ) ls σ Q := rn_row rfl ls st σ Q
theorem r_188_90 (ls : a_LS) (st : List Value) (σ : a_HP) (Q : Option Value → a_HP → Prop) : Rn 188 90 ls st σ Q = acR 188 (o_ivs 133 4 93 ls st σ) ls σ Q := rn_row rfl ls st σ Q
theorem r_188_93 (ls : a_LS) (st : List Value) (σ : a_HP) (Q : Option Value → a_HP → Prop) : Rn 188 93 ls st σ Q = acR 188 (o_cne 100 96 ls st σ) ls σ Q := rn_row rfl ls st σ Q
theorem r_188_96 (ls : a_LS) (st : List Value) (σ : a_HP) (Q : Option Value → a_HP → Prop) : Rn 188 96 ls st σ Q = acR 188 (o_pi (nI 1) 97 ls st σ) ls σ Q := rn_row rfl ls st σ Q
theorem r_188_97 (ls : a_LS) (st : List Value) (σ : a_HP) (Q : Option Value → a_HP → Prop) : Rn 188 97 ls st σ Q = acR 188 (o_go 101 ls st σ) ls σ Q := rn_row rfl ls st σ Q
theorem r_188_100 (ls : a_LS) (st : List Value) (σ : a_HP) (Q : Option Value → a_HP → Prop) : Rn 188 100 ls st σ Q = acR 188 (o_pi (nI 0) 101 ls st σ) ls σ Q := rn_row rfl ls st σ Q
theorem r_188_101 (ls : a_LS) (st : List Value) (σ : a_HP) (Q : Option Value → a_HP → Prop) : Rn 188 101 ls st σ Q = acR 188 (o_bi f_add 102 ls st σ) ls σ Q := rn_row rfl ls st σ Q
theorem r_188_102 (ls : a_LS) (st : List Value) (σ : a_HP) (Q : Option Value → a_HP → Prop) : Rn 188 102 ls st σ Q = acR 188 (o_sti 7 104 ls st σ) ls σ Q := rn_row rfl ls st σ Q
theorem r_188_104 (ls : a_LS) (st : List Value) (σ : a_HP) (Q : Option Value → a_HP → Prop) : Rn 188 104 ls st σ Q = acR 188 (o_inc 8 (nI 1) 107 ls st σ) ls σ Q := rn_row rfl ls st σ Q
theorem r_188_107 (ls : a_LS) (st : List Value) (σ : a_HP) (Q : Option Value → a_HP → Prop) : Rn 188 107 ls st σ Q = acR 188 (o_go 43 ls st σ) ls σ Q := rn_row rfl ls st σ Q
theorem r_188_110 (ls : a_LS) (st : List Value) (σ : a_HP) (Q : Option Value → a_HP → Prop) : Rn 188 110 ls st σ Q = acR 188 (o_ldi 1 111 ls st σ) ls σ Q := rn_row rfl ls st σ Q
theorem r_188_111 (ls : a_LS) (st : List Value) (σ : a_HP) (Q : Option Value → a_HP → Prop) : Rn 188 111 ls st σ Q = acR 188 (o_ldi 6 113 ls st σ) ls σ Q := rn_row rfl ls st σ Q
theorem r_188_113 (ls : a_LS) (st : List Value) (σ : a_HP) (Q : Option Value → a_HP → Prop) : Rn 188 113 ls st σ Q = acR 188 (o_ivs 123 2 116 ls st σ) ls σ Q := rn_row rfl ls st σ Q
theorem r_188_116 (ls : a_LS) (st : List Value) (σ : a_HP) (Q : Option Value → a_HP → Prop) : Rn 188 116 ls st σ Q = acR 188 (o_eq 131 119 ls st σ) ls σ Q := rn_row rfl ls st σ Q
theorem r_188_119 (ls : a_LS) (st : List Value) (σ : a_HP) (Q : Option Value → a_HP → Prop) : Rn 188 119 ls st σ Q = acR 188 (o_ldi 7 121 ls st σ) ls σ Q := rn_row rfl ls st σ Q
theorem r_188_121 (ls : a_LS) (st : List Value) (σ : a_HP) (Q : Option Value → a_HP → Prop) : Rn 188 121 ls st σ Q = acR 188 (o_ldi 5 123 ls st σ) ls σ Q := rn_row rfl ls st σ Q
theorem r_188_123 (ls : a_LS) (st : List Value) (σ : a_HP) (Q : Option Value → a_HP → Prop) : Rn 188 123 ls st σ Q = acR 188 (o_cle 131 126 ls st σ) ls σ Q := rn_row rfl ls st σ Q
theorem r_188_126 (ls : a_LS) (st : List Value) (σ : a_HP) (Q : Option Value → a_HP → Prop) : Rn 188 126 ls st σ Q = acR 188 (o_ldi 7 128 ls st σ) ls σ Q := rn_row rfl ls st σ Q
theorem r_188_128 (ls : a_LS) (st : List Value) (σ : a_HP) (Q : Option Value → a_HP → Prop) : Rn 188 128 ls st σ Q = acR 188 (o_go 133 ls st σ) ls σ Q := rn_row rfl ls st σ Q
theorem r_188_131 (ls : a_LS) (st : List Value) (σ : a_HP) (Q : Option Value → a_HP → Prop) : Rn 188 131 ls st σ Q = acR 188 (o_ldi 5 133 ls st σ) ls σ Q := rn_row rfl ls st σ Q
theorem r_188_133 (ls : a_LS) (st : List Value) (σ : a_HP) (Q : Option Value → a_HP → Prop) : Rn 188 133 ls st σ Q = acR 188 (o_sti 5 135 ls st σ) ls σ Q := rn_row rfl ls st σ Q
theorem r_188_135 (ls : a_LS) (st : List Value) (σ : a_HP) (Q : Option Value → a_HP → Prop) : Rn 188 135 ls st σ Q = acR 188 (o_inc 6 (nI 1) 138 ls st σ) ls σ Q := rn_row rfl ls st σ Q
theorem r_188_138 (ls : a_LS) (st : List Value) (σ : a_HP) (Q : Option Value → a_HP → Prop) : Rn 188 138 ls st σ Q = acR 188 (o_go 30 ls st σ) ls σ Q := rn_row rfl ls st σ Q
theorem r_188_141 (ls : a_LS) (st : List Value) (σ : a_HP) (Q : Option Value → a_HP → Prop) : Rn 188 141 ls st σ Q = acR 188 (o_ldi 4 143 ls st σ) ls σ Q := rn_row rfl ls st σ Q
theorem r_188_143 (ls : a_LS) (st : List Value) (σ : a_HP) (Q : Option Value → a_HP → Prop) : Rn 188 143 ls st σ Q = acR 188 (o_pi (nI 10) 145 ls st σ) ls σ Q := rn_row rfl ls st σ Q
theorem r_188_145 (ls : a_LS) (st : List Value) (σ : a_HP) (Q : Option Value → a_HP → Prop) : Rn 188 145 ls st σ Q = acR 188 (o_ceq 158 148 ls st σ) ls σ Q := rn_row rfl ls st σ Q
theorem r_188_148 (ls : a_LS) (st : List Value) (σ : a_HP) (Q : Option Value → a_HP → Prop) : Rn 188 148 ls st σ Q = acR 188 (o_ldi 5 150 ls st σ) ls σ Q := rn_row rfl ls st σ Q
theorem r_188_150 (ls : a_LS) (st : List Value) (σ : a_HP) (Q : Option Value → a_HP → Prop) : Rn 188 150 ls st σ Q = acR 188 (o_ldi 3 151 ls st σ) ls σ Q := rn_row rfl ls st σ Q
theorem r_188_151 (ls : a_LS) (st : List Value) (σ : a_HP) (Q : Option Value → a_HP → Prop) : Rn 188 151 ls st σ Q = acR 188 (o_cge 158 154 ls st σ) ls σ Q := rn_row rfl ls st σ Q
theorem r_188_154 (ls : a_LS) (st : List Value) (σ : a_HP) (Q : Option Value → a_HP → Prop) : Rn 188 154 ls st σ Q = acR 188 (o_pi (nI 1) 155 ls st σ) ls σ Q := rn_row rfl ls st σ Q
theorem r_188_155 (ls : a_LS) (st : List Value) (σ : a_HP) (Q : Option Value → a_HP → Prop) : Rn 188 155 ls st σ Q = acR 188 (o_go 159 ls st σ) ls σ Q := rn_row rfl ls st σ Q
theorem r_188_158 (ls : a_LS) (st : List Value) (σ : a_HP) (Q : Option Value → a_HP → Prop) : Rn 188 158 ls st σ Q = acR 188 (o_pi (nI 0) 159 ls st σ) ls σ Q := rn_row rfl ls st σ Q
theorem r_188_159 (ls : a_LS) (st : List Value) (σ : a_HP) (Q : Option Value → a_HP → Prop) : Rn 188 159 ls st σ Q = acR 188 (o_sti 6 161 ls st σ) ls σ Q := rn_row rfl ls st σ Q
theorem r_188_161 (ls : a_LS) (st : List Value) (σ : a_HP) (Q : Option Value → a_HP → Prop) : Rn 188 161 ls st σ Q = acR 188 (o_ldi 6 163 ls st σ) ls σ Q := rn_row rfl ls st σ Q
theorem r_188_163 (ls : a_LS) (st : List Value) (σ : a_HP) (Q : Option Value → a_HP → Prop) : Rn 188 163 ls st σ Q = acR 188 (o_eq 171 166 ls st σ) ls σ Q := rn_row rfl ls st σ Q
theorem r_188_166 (ls : a_LS) (st : List Value) (σ : a_HP) (Q : Option Value → a_HP → Prop) : Rn 188 166 ls st σ Q = acR 188 (o_ldi 4 168 ls st σ) ls σ Q := rn_row rfl ls st σ Q
theorem r_188_168 (ls : a_LS) (st : List Value) (σ : a_HP) (Q : Option Value → a_HP → Prop) : Rn 188 168 ls st σ Q = acR 188 (o_go 172 ls st σ) ls σ Q := rn_row rfl ls st σ Q
theorem r_188_171 (ls : a_LS) (st : List Value) (σ : a_HP) (Q : Option Value → a_HP → Prop) : Rn 188 171 ls st σ Q = acR 188 (o_ldi 2 172 ls st σ) ls σ Q := rn_row rfl ls st σ Q
theorem r_188_172 (ls : a_LS) (st : List Value) (σ : a_HP) (Q : Option Value → a_HP → Prop) : Rn 188 172 ls st σ Q = acR 188 (o_sti 2 173 ls st σ) ls σ Q := rn_row rfl ls st σ Q
theorem r_188_173 (ls : a_LS) (st : List Value) (σ : a_HP) (Q : Option Value → a_HP → Prop) : Rn 188 173 ls st σ Q = acR 188 (o_ldi 6 175 ls st σ) ls σ Q := rn_row rfl ls st σ Q
theorem r_188_175 (ls : a_LS) (st : List Value) (σ : a_HP) (Q : Option Value → a_HP → Prop) : Rn 188 175 ls st σ Q = acR 188 (o_eq 183 178 ls st σ) ls σ Q := rn_row rfl ls st σ Q
theorem r_188_178 (ls : a_LS) (st : List Value) (σ : a_HP) (Q : Option Value → a_HP → Prop) : Rn 188 178 ls st σ Q = acR 188 (o_ldi 5 180 ls st σ) ls σ Q := rn_row rfl ls st σ Q
theorem r_188_180 (ls : a_LS) (st : List Value) (σ : a_HP) (Q : Option Value → a_HP → Prop) : Rn 188 180 ls st σ Q = acR 188 (o_go 184 ls st σ) ls σ Q := rn_row rfl ls st σ Q
theorem r_188_183 (ls : a_LS) (st : List Value) (σ : a_HP) (Q : Option Value → a_HP → Prop) : Rn 188 183 ls st σ Q = acR 188 (o_ldi 3 184 ls st σ) ls σ Q := rn_row rfl ls st σ Q
theorem r_188_184 (ls : a_LS) (st : List Value) (σ : a_HP) (Q : Option Value → a_HP → Prop) : Rn 188 184 ls st σ Q = acR 188 (o_sti 3 185 ls st σ) ls σ Q := rn_row rfl ls st σ Q
theorem r_188_185 (ls : a_LS) (st : List Value) (σ : a_HP) (Q : Option Value → a_HP → Prop) : Rn 188 185 ls st σ Q = acR 188 (o_inc 4 (nI 1) 188 ls st σ) ls σ Q := rn_row rfl ls st σ Q
theorem r_188_188 (ls : a_LS) (st : List Value) (σ : a_HP) (Q : Option Value → a_HP → Prop) : Rn 188 188 ls st σ Q = acR 188 (o_go 13 ls st σ) ls σ Q := rn_row rfl ls st σ Q
theorem r_188_191 (ls : a_LS) (st : List Value) (σ : a_HP) (Q : Option Value → a_HP → Prop) : Rn 188 191 ls st σ Q = acR 188 (o_ldi 2 192 ls st σ) ls σ Q := rn_row rfl ls st σ Q
theorem r_188_192 (ls : a_LS) (st : List Value) (σ : a_HP) (Q : Option Value → a_HP → Prop) : Rn 188 192 ls st σ Q = acR 188 (o_ri ls st σ) ls σ Q := rn_row rfl ls st σ Q
/-! 189: NetLawModel.clausesAt(I)I -/
theorem cl_189 (x0 : Int32) (σ : a_HP) (Q : Option Value → a_HP → Prop) : Cl 189 [.int x0] σ Q = Rn 189 0 [some (.int x0), none, none] [] σ Q := cl_of (Nat.le_of_ble_eq_true rfl) rfl σ Q
theorem r_189_0 (ls : a_LS) (st : List Value) (σ : a_HP) (Q : Option Value → a_HP → Prop) : Rn 189 0 ls st σ Q = acR 189 (o_pi (nI 0) 1 ls st σ) ls σ Q := rn_row rfl ls st σ Q
theorem r_189_1 (ls : a_LS) (st : List Value) (σ : a_HP) (Q : Option Value → a_HP → Prop) : Rn 189 1 ls st σ Q = acR 189 (o_sti 1 2 ls st σ) ls σ Q := rn_row rfl ls st σ Q
theorem r_189_2 (ls : a_LS) (st : List Value) (σ : a_HP) (Q : Option Value → a_HP → Prop) : Rn 189 2 ls st σ Q = acR 189 (o_pi (nI 0) 3 ls st σ) ls σ Q := rn_row rfl ls st σ Q
theorem r_189_3 (ls : a_LS) (st : List Value) (σ : a_HP) (Q : Option Value → a_HP → Prop) : Rn 189 3 ls st σ Q = acR 189 (o_sti 2 4 ls st σ) ls σ Q := rn_row rfl ls st σ Q
theorem r_189_4 (ls : a_LS) (st : List Value) (σ : a_HP) (Q : Option Value → a_HP → Prop) : Rn 189 4 ls st σ Q = acR 189 (o_ldi 2 5 ls st σ) ls σ Q := rn_row rfl ls st σ Q
theorem r_189_5 (ls : a_LS) (st : List Value) (σ : a_HP) (Q : Option Value → a_HP → Prop) : Rn 189 5 ls st σ Q = acR 189 (o_pi (nI 9) 7 ls st σ) ls σ Q := rn_row rfl ls st σ Q
theorem r_189_7 (ls : a_LS) (st : List Value) (σ : a_HP) (Q : Option Value → a_HP → Prop) : Rn 189 7 ls st σ Q = acR 189 (o_cge 34 10 ls st σ) ls σ Q := rn_row rfl ls st σ Q
theorem r_189_10 (ls : a_LS) (st : List Value) (σ : a_HP) (Q : Option Value → a_HP → Prop) : Rn 189 10 ls st σ Q = acR 189 (o_ldi 1 11 ls st σ) ls σ Q := rn_row rfl ls st σ Q
theorem r_189_11 (ls : a_LS) (st : List Value) (σ : a_HP) (Q : Option Value → a_HP → Prop) : Rn 189 11 ls st σ Q = acR 189 (o_ldi 2 12 ls st σ) ls σ Q := rn_row rfl ls st σ Q
theorem r_189_12 (ls : a_LS) (st : List Value) (σ : a_HP) (Q : Option Value → a_HP → Prop) : Rn 189 12 ls st σ Q = acR 189 (o_ldi 0 13 ls st σ) ls σ Q := rn_row rfl ls st σ Q
theorem r_189_13 (ls : a_LS) (st : List Value) (σ : a_HP) (Q : Option Value → a_HP → Prop) : Rn 189 13 ls st σ Q = acR 189 (o_ivs 137 2 16 ls st σ) ls σ Q := rn_row rfl ls st σ Q
theorem r_189_16 (ls : a_LS) (st : List Value) (σ : a_HP) (Q : Option Value → a_HP → Prop) : Rn 189 16 ls st σ Q = acR 189 (o_eq 25 19 ls st σ) ls σ Q := rn_row rfl ls st σ Q
theorem r_189_19 (ls : a_LS) (st : List Value) (σ : a_HP) (Q : Option Value → a_HP → Prop) : Rn 189 19 ls st σ Q = acR 189 (o_pi (nI 1) 20 ls st σ) ls σ Q := rn_row rfl ls st σ Q
theorem r_189_20 (ls : a_LS) (st : List Value) (σ : a_HP) (Q : Option Value → a_HP → Prop) : Rn 189 20 ls st σ Q = acR 189 (o_ldi 2 21 ls st σ) ls σ Q := rn_row rfl ls st σ Q
theorem r_189_21 (ls : a_LS) (st : List Value) (σ : a_HP) (Q : Option Value → a_HP → Prop) : Rn 189 21 ls st σ Q = acR 189 (o_bi f_shl 22 ls st σ) ls σ Q := rn_row rfl ls st σ Q
theorem r_189_22 (ls : a_LS) (st : List Value) (σ : a_HP) (Q : Option Value → a_HP → Prop) : Rn 189 22 ls st σ Q = acR 189 (o_go 26 ls st σ) ls σ Q := rn_row rfl ls st σ Q
theorem r_189_25 (ls : a_LS) (st : List Value) (σ : a_HP) (Q : Option Value → a_HP → Prop) : Rn 189 25 ls st σ Q = acR 189 (o_pi (nI 0) 26 ls st σ) ls σ Q := rn_row rfl ls st σ Q
theorem r_189_26 (ls : a_LS) (st : List Value) (σ : a_HP) (Q : Option Value → a_HP → Prop) : Rn 189 26 ls st σ Q = acR 189 (o_bi f_or 27 ls st σ) ls σ Q := rn_row rfl ls st σ Q
theorem r_189_27 (ls : a_LS) (st : List Value) (σ : a_HP) (Q : Option Value → a_HP → Prop) : Rn 189 27 ls st σ Q = acR 189 (o_sti 1 28 ls st σ) ls σ Q := rn_row rfl ls st σ Q
theorem r_189_28 (ls : a_LS) (st : List Value) (σ : a_HP) (Q : Option Value → a_HP → Prop) : Rn 189 28 ls st σ Q = acR 189 (o_inc 2 (nI 1) 31 ls st σ) ls σ Q := rn_row rfl ls st σ Q
theorem r_189_31 (ls : a_LS) (st : List Value) (σ : a_HP) (Q : Option Value → a_HP → Prop) : Rn 189 31 ls st σ Q = acR 189 (o_go 4 ls st σ) ls σ Q := rn_row rfl ls st σ Q
theorem r_189_34 (ls : a_LS) (st : List Value) (σ : a_HP) (Q : Option Value → a_HP → Prop) : Rn 189 34 ls st σ Q = acR 189 (o_ldi 1 35 ls st σ) ls σ Q := rn_row rfl ls st σ Q
theorem r_189_35 (ls : a_LS) (st : List Value) (σ : a_HP) (Q : Option Value → a_HP → Prop) : Rn 189 35 ls st σ Q = acR 189 (o_ri ls st σ) ls σ Q := rn_row rfl ls st σ Q
/-! 190: NetLawModel.stood(III)I -/
theorem cl_190 (x0 : Nat) (x1 : Int32) (x2 : Int32) (x3 : Int32) (σ : a_HP) (Q : Option Value → a_HP → Prop) : Cl 190 [.ref x0, .int x1, .int x2, .int x3] σ Q = Rn 190 0 [some (.ref x0), some (.int x1), some (.int x2), some (.int x3), none, none, none, none, none] [] σ Q := cl_of (Nat.le_of_ble_eq_true rfl) rfl σ Q
theorem r_190_0 (ls : a_LS) (st : List Value) (σ : a_HP) (Q : Option Value → a_HP → Prop) : Rn 190 0 ls st σ Q = acR 190 (o_ldi 1 1 ls st σ) ls σ Q := rn_row rfl ls st σ Q
theorem r_190_1 (ls : a_LS) (st : List Value) (σ : a_HP) (Q : Option Value → a_HP → Prop) : Rn 190 1 ls st σ Q = acR 190 (o_ivs 141 1 4 ls st σ) ls σ Q := rn_row rfl ls st σ Q
theorem r_190_4 (ls : a_LS) (st : List Value) (σ : a_HP) (Q : Option Value → a_HP → Prop) : Rn 190 4 ls st σ Q = acR 190 (o_eq 37 7 ls st σ) ls σ Q := rn_row rfl ls st σ Q
theorem r_190_7 (ls : a_LS) (st : List Value) (σ : a_HP) (Q : Option Value → a_HP → Prop) : Rn 190 7 ls st σ Q = acR 190 (o_ldi 2 8 ls st σ) ls σ Q := rn_row rfl ls st σ Q
theorem r_190_8 (ls : a_LS) (st : List Value) (σ : a_HP) (Q : Option Value → a_HP → Prop) : Rn 190 8 ls st σ Q = acR 190 (o_i2l 9 ls st σ) ls σ Q := rn_row rfl ls st σ Q
theorem r_190_9 (ls : a_LS) (st : List Value) (σ : a_HP) (Q : Option Value → a_HP → Prop) : Rn 190 9 ls st σ Q = acR 190 (o_pl (lN 0) 10 ls st σ) ls σ Q := rn_row rfl ls st σ Q
theorem r_190_10 (ls : a_LS) (st : List Value) (σ : a_HP) (Q : Option Value → a_HP → Prop) : Rn 190 10 ls st σ Q = acR 190 (o_pl (lN 511) 13 ls st σ) ls σ Q := rn_row rfl ls st σ Q
theorem r_190_13 (ls : a_LS) (st : List Value) (σ : a_HP) (Q : Option Value → a_HP → Prop) : Rn 190 13 ls st σ Q = acR 190 (o_ivs 122 3 16 ls st σ) ls σ Q := rn_row rfl ls st σ Q
theorem r_190_16 (ls : a_LS) (st : List Value) (σ : a_HP) (Q : Option Value → a_HP → Prop) : Rn 190 16 ls st σ Q = acR 190 (o_eq 37 19 ls st σ) ls σ Q := rn_row rfl ls st σ Q
theorem r_190_19 (ls : a_LS) (st : List Value) (σ : a_HP) (Q : Option Value → a_HP → Prop) : Rn 190 19 ls st σ Q = acR 190 (o_ldi 2 20 ls st σ) ls σ Q := rn_row rfl ls st σ Q
theorem r_190_20 (ls : a_LS) (st : List Value) (σ : a_HP) (Q : Option Value → a_HP → Prop) : Rn 190 20 ls st σ Q = acR 190 (o_ldi 1 21 ls st σ) ls σ Q := rn_row rfl ls st σ Q
theorem r_190_21 (ls : a_LS) (st : List Value) (σ : a_HP) (Q : Option Value → a_HP → Prop) : Rn 190 21 ls st σ Q = acR 190 (o_ivs 189 1 24 ls st σ) ls σ Q := rn_row rfl ls st σ Q
theorem r_190_24 (ls : a_LS) (st : List Value) (σ : a_HP) (Q : Option Value → a_HP → Prop) : Rn 190 24 ls st σ Q = acR 190 (o_pi (-1) 25 ls st σ) ls σ Q := rn_row rfl ls st σ Q
theorem r_190_25 (ls : a_LS) (st : List Value) (σ : a_HP) (Q : Option Value → a_HP → Prop) : Rn 190 25 ls st σ Q = acR 190 (o_bi f_xor 26 ls st σ) ls σ Q := rn_row rfl ls st σ Q
theorem r_190_26 (ls : a_LS) (st : List Value) (σ : a_HP) (Q : Option Value → a_HP → Prop) : Rn 190 26 ls st σ Q = acR 190 (o_bi f_and 27 ls st σ) ls σ Q := rn_row rfl ls st σ Q
theorem r_190_27 (ls : a_LS) (st : List Value) (σ : a_HP) (Q : Option Value → a_HP → Prop) : Rn 190 27 ls st σ Q = acR 190 (o_ne 37 30 ls st σ) ls σ Q := rn_row rfl ls st σ Q
theorem r_190_30 (ls : a_LS) (st : List Value) (σ : a_HP) (Q : Option Value → a_HP → Prop) : Rn 190 30 ls st σ Q = acR 190 (o_ldi 3 31 ls st σ) ls σ Q := rn_row rfl ls st σ Q
theorem r_190_31 (ls : a_LS) (st : List Value) (σ : a_HP) (Q : Option Value → a_HP → Prop) : Rn 190 31 ls st σ Q = acR 190 (o_ivs 143 1 34 ls st σ) ls σ Q := rn_row rfl ls st σ Q
theorem r_190_34 (ls : a_LS) (st : List Value) (σ : a_HP) (Q : Option Value → a_HP → Prop) : Rn 190 34 ls st σ Q = acR 190 (o_ne 44 37 ls st σ) ls σ Q := rn_row rfl ls st σ Q
theorem r_190_37 (ls : a_LS) (st : List Value) (σ : a_HP) (Q : Option Value → a_HP → Prop) : Rn 190 37 ls st σ Q = acR 190 (o_lda 0 38 ls st σ) ls σ Q := rn_row rfl ls st σ Q
theorem r_190_38 (ls : a_LS) (st : List Value) (σ : a_HP) (Q : Option Value → a_HP → Prop) : Rn 190 38 ls st σ Q = acR 190 (o_pi (-10) 40 ls st σ) ls σ Q := rn_row rfl ls st σ Q
theorem r_190_40 (ls : a_LS) (st : List Value) (σ : a_HP) (Q : Option Value → a_HP → Prop) : Rn 190 40 ls st σ Q = acR 190 (o_ivv 8 126 1 43 ls st σ) ls σ Q := rn_row rfl ls st σ Q
theorem r_190_43 (ls : a_LS) (st : List Value) (σ : a_HP) (Q : Option Value → a_HP → Prop) : Rn 190 43 ls st σ Q = acR 190 (o_ri ls st σ) ls σ Q := rn_row rfl ls st σ Q
theorem r_190_44 (ls : a_LS) (st : List Value) (σ : a_HP) (Q : Option Value → a_HP → Prop) : Rn 190 44 ls st σ Q = acR 190 (o_lda 0 45 ls st σ) ls σ Q := rn_row rfl ls st σ Q
theorem r_190_45 (ls : a_LS) (st : List Value) (σ : a_HP) (Q : Option Value → a_HP → Prop) : Rn 190 45 ls st σ Q = acR 190 (o_get 8 0 48 ls st σ) ls σ Q := rn_row rfl ls st σ Q
theorem r_190_48 (ls : a_LS) (st : List Value) (σ : a_HP) (Q : Option Value → a_HP → Prop) : Rn 190 48 ls st σ Q = acR 190 (o_pi (nI 20) 50 ls st σ) ls σ Q := rn_row rfl ls st σ Q
theorem r_190_50 (ls : a_LS) (st : List Value) (σ : a_HP) (Q : Option Value → a_HP → Prop) : Rn 190 50 ls st σ Q = acR 190 (o_ldi 1 51 ls st σ) ls σ Q := rn_row rfl ls st σ Q
theorem r_190_51 (ls : a_LS) (st : List Value) (σ : a_HP) (Q : Option Value → a_HP → Prop) : Rn 190 51 ls st σ Q = acR 190 (o_bi f_add 52 ls st σ) ls σ Q := rn_row rfl ls st σ Q
theorem r_190_52 (ls : a_LS) (st : List Value) (σ : a_HP) (Q : Option Value → a_HP → Prop) : Rn 190 52 ls st σ Q = acR 190 (o_ial 53 ls st σ) ls σ Q := rn_row rfl ls st σ Q
theorem r_190_53 (ls : a_LS) (st : List Value) (σ : a_HP) (Q : Option Value → a_HP → Prop) : Rn 190 53 ls st σ Q = acR 190 (o_le 63 56 ls st σ) ls σ Q := rn_row rfl ls st σ Q
theorem r_190_56 (ls : a_LS) (st : List Value) (σ : a_HP) (Q : Option Value → a_HP → Prop) : Rn 190 56 ls st σ Q = acR 190 (o_lda 0 57 ls st σ) ls σ Q := rn_row rfl ls st σ Q
theorem r_190_57 (ls : a_LS) (st : List Value) (σ : a_HP) (Q : Option Value → a_HP → Prop) : Rn 190 57 ls st σ Q = acR 190 (o_pi (-20) 59 ls st σ) ls σ Q := rn_row rfl ls st σ Q
theorem r_190_59 (ls : a_LS) (st : List Value) (σ : a_HP) (Q : Option Value → a_HP → Prop) : Rn 190 59 ls st σ Q = acR 190 (o_ivv 8 127 1 62 ls st σ) ls σ Q := rn_row rfl ls st σ Q
theorem r_190_62 (ls : a_LS) (st : List Value) (σ : a_HP) (Q : Option Value → a_HP → Prop) : Rn 190 62 ls st σ Q = acR 190 (o_ri ls st σ) ls σ Q := rn_row rfl ls st σ Q
theorem r_190_63 (ls : a_LS) (st : List Value) (σ : a_HP) (Q : Option Value → a_HP → Prop) : Rn 190 63 ls st σ Q = acR 190 (o_pi (nI 0) 64 ls st σ) ls σ Q := rn_row rfl ls st σ Q
theorem r_190_64 (ls : a_LS) (st : List Value) (σ : a_HP) (Q : Option Value → a_HP → Prop) : Rn 190 64 ls st σ Q = acR 190 (o_sti 4 66 ls st σ) ls σ Q := rn_row rfl ls st σ Q
theorem r_190_66 (ls : a_LS) (st : List Value) (σ : a_HP) (Q : Option Value → a_HP → Prop) : Rn 190 66 ls st σ Q = acR 190 (o_pi (-1) 67 ls st σ) ls σ Q := rn_row rfl ls st σ Q
theorem r_190_67 (ls : a_LS) (st : List Value) (σ : a_HP) (Q : Option Value → a_HP → Prop) : Rn 190 67 ls st σ Q = acR 190 (o_sti 5 69 ls st σ) ls σ Q := rn_row rfl ls st σ Q
theorem r_190_69 (ls : a_LS) (st : List Value) (σ : a_HP) (Q : Option Value → a_HP → Prop) : Rn 190 69 ls st σ Q = acR 190 (o_pi (nI 0) 70 ls st σ) ls σ Q := rn_row rfl ls st σ Q
theorem r_190_70 (ls : a_LS) (st : List Value) (σ : a_HP) (Q : Option Value → a_HP → Prop) : Rn 190 70 ls st σ Q = acR 190 (o_sti 6 72 ls st σ) ls σ Q := rn_row rfl ls st σ Q
theorem r_190_72 (ls : a_LS) (st : List Value) (σ : a_HP) (Q : Option Value → a_HP → Prop) : Rn 190 72 ls st σ Q = acR 190 (o_ldi 6 74 ls st σ) ls σ Q := rn_row rfl ls st σ Q
theorem r_190_74 (ls : a_LS) (st : List Value) (σ : a_HP) (Q : Option Value → a_HP → Prop) : Rn 190 74 ls st σ Q = acR 190 (o_pi (nI 6) 76 ls st σ) ls σ Q := rn_row rfl ls st σ Q
theorem r_190_76 (ls : a_LS) (st : List Value) (σ : a_HP) (Q : Option Value → a_HP → Prop) : Rn 190 76 ls st σ Q = acR 190 (o_cge 182 79 ls st σ) ls σ Q := rn_row rfl ls st σ Q
theorem r_190_79 (ls : a_LS) (st : List Value) (σ : a_HP) (Q : Option Value → a_HP → Prop) : Rn 190 79 ls st σ Q = acR 190 (o_pi (nI 1) 80 ls st σ) ls σ Q := rn_row rfl ls st σ Q
theorem r_190_80 (ls : a_LS) (st : List Value) (σ : a_HP) (Q : Option Value → a_HP → Prop) : Rn 190 80 ls st σ Q = acR 190 (o_sti 7 82 ls st σ) ls σ Q := rn_row rfl ls st σ Q
theorem r_190_82 (ls : a_LS) (st : List Value) (σ : a_HP) (Q : Option Value → a_HP → Prop) : Rn 190 82 ls st σ Q = acR 190 (o_ldi 7 84 ls st σ) ls σ Q := rn_row rfl ls st σ Q
theorem r_190_84 (ls : a_LS) (st : List Value) (σ : a_HP) (Q : Option Value → a_HP → Prop) : Rn 190 84 ls st σ Q = acR 190 (o_pi (nI 10) 86 ls st σ) ls σ Q := rn_row rfl ls st σ Q
theorem r_190_86 (ls : a_LS) (st : List Value) (σ : a_HP) (Q : Option Value → a_HP → Prop) : Rn 190 86 ls st σ Q = acR 190 (o_cge 176 89 ls st σ) ls σ Q := rn_row rfl ls st σ Q
theorem r_190_89 (ls : a_LS) (st : List Value) (σ : a_HP) (Q : Option Value → a_HP → Prop) : Rn 190 89 ls st σ Q = acR 190 (o_lda 0 90 ls st σ) ls σ Q := rn_row rfl ls st σ Q
theorem r_190_90 (ls : a_LS) (st : List Value) (σ : a_HP) (Q : Option Value → a_HP → Prop) : Rn 190 90 ls st σ Q = acR 190 (o_ivv 8 170 0 93 ls st σ) ls σ Q := rn_row rfl ls st σ Q
theorem r_190_93 (ls : a_LS) (st : List Value) (σ : a_HP) (Q : Option Value → a_HP → Prop) : Rn 190 93 ls st σ Q = acR 190 (o_lda 0 94 ls st σ) ls σ Q := rn_row rfl ls st σ Q
theorem r_190_94 (ls : a_LS) (st : List Value) (σ : a_HP) (Q : Option Value → a_HP → Prop) : Rn 190 94 ls st σ Q = acR 190 (o_get 8 2 97 ls st σ) ls σ Q := rn_row rfl ls st σ Q
theorem r_190_97 (ls : a_LS) (st : List Value) (σ : a_HP) (Q : Option Value → a_HP → Prop) : Rn 190 97 ls st σ Q = acR 190 (o_ldi 1 98 ls st σ) ls σ Q := rn_row rfl ls st σ Q
theorem r_190_98 (ls : a_LS) (st : List Value) (σ : a_HP) (Q : Option Value → a_HP → Prop) : Rn 190 98 ls st σ Q = acR 190 (o_ldi 6 100 ls st σ) ls σ Q := rn_row rfl ls st σ Q
theorem r_190_100 (ls : a_LS) (st : List Value) (σ : a_HP) (Q : Option Value → a_HP → Prop) : Rn 190 100 ls st σ Q = acR 190 (o_ldi 7 102 ls st σ) ls σ Q := rn_row rfl ls st σ Q
theorem r_190_102 (ls : a_LS) (st : List Value) (σ : a_HP) (Q : Option Value → a_HP → Prop) : Rn 190 102 ls st σ Q = acR 190 (o_pi (nI 0) 103 ls st σ) ls σ Q := rn_row rfl ls st σ Q
theorem r_190_103 (ls : a_LS) (st : List Value) (σ : a_HP) (Q : Option Value → a_HP → Prop) : Rn 190 103 ls st σ Q = acR 190 (o_ivs 152 5 106 ls st σ) ls σ Q := rn_row rfl ls st σ Q
theorem r_190_106 (ls : a_LS) (st : List Value) (σ : a_HP) (Q : Option Value → a_HP → Prop) : Rn 190 106 ls st σ Q = acR 190 (o_lda 0 107 ls st σ) ls σ Q := rn_row rfl ls st σ Q
theorem r_190_107 (ls : a_LS) (st : List Value) (σ : a_HP) (Q : Option Value → a_HP → Prop) : Rn 190 107 ls st σ Q = acR 190 (o_get 8 2 110 ls st σ) ls σ Q := rn_row rfl ls st σ Q
theorem r_190_110 (ls : a_LS) (st : List Value) (σ : a_HP) (Q : Option Value → a_HP → Prop) : Rn 190 110 ls st σ Q = acR 190 (o_ivs 140 1 113 ls st σ) ls σ Q := rn_row rfl ls st σ Q
theorem r_190_113 (ls : a_LS) (st : List Value) (σ : a_HP) (Q : Option Value → a_HP → Prop) : Rn 190 113 ls st σ Q = acR 190 (o_ldi 1 114 ls st σ) ls σ Q := rn_row rfl ls st σ Q
theorem r_190_114 (ls : a_LS) (st : List Value) (σ : a_HP) (Q : Option Value → a_HP → Prop) : Rn 190 114 ls st σ Q = acR 190 (o_ivs 189 1 117 ls st σ) ls σ Q := rn_row rfl ls st σ Q
theorem r_190_117 (ls : a_LS) (st : List Value) (σ : a_HP) (Q : Option Value → a_HP → Prop) : Rn 190 117 ls st σ Q = acR 190 (o_bi f_and 118 ls st σ) ls σ Q := rn_row rfl ls st σ Q
theorem r_190_118 (ls : a_LS) (st : List Value) (σ : a_HP) (Q : Option Value → a_HP → Prop) : Rn 190 118 ls st σ Q = acR 190 (o_ldi 2 119 ls st σ) ls σ Q := rn_row rfl ls st σ Q
theorem r_190_119 (ls : a_LS) (st : List Value) (σ : a_HP) (Q : Option Value → a_HP → Prop) : Rn 190 119 ls st σ Q = acR 190 (o_cne 126 122 ls st σ) ls σ Q := rn_row rfl ls st σ Q
theorem r_190_122 (ls : a_LS) (st : List Value) (σ : a_HP) (Q : Option Value → a_HP → Prop) : Rn 190 122 ls st σ Q = acR 190 (o_pi (nI 1) 123 ls st σ) ls σ Q := rn_row rfl ls st σ Q
theorem r_190_123 (ls : a_LS) (st : List Value) (σ : a_HP) (Q : Option Value → a_HP → Prop) : Rn 190 123 ls st σ Q = acR 190 (o_go 127 ls st σ) ls σ Q := rn_row rfl ls st σ Q
theorem r_190_126 (ls : a_LS) (st : List Value) (σ : a_HP) (Q : Option Value → a_HP → Prop) : Rn 190 126 ls st σ Q = acR 190 (o_pi (nI 0) 127 ls st σ) ls σ Q := rn_row rfl ls st σ Q
theorem r_190_127 (ls : a_LS) (st : List Value) (σ : a_HP) (Q : Option Value → a_HP → Prop) : Rn 190 127 ls st σ Q = acR 190 (o_sti 8 129 ls st σ) ls σ Q := rn_row rfl ls st σ Q
theorem r_190_129 (ls : a_LS) (st : List Value) (σ : a_HP) (Q : Option Value → a_HP → Prop) : Rn 190 129 ls st σ Q = acR 190 (o_ldi 4 131 ls st σ) ls σ Q := rn_row rfl ls st σ Q
theorem r_190_131 (ls : a_LS) (st : List Value) (σ : a_HP) (Q : Option Value → a_HP → Prop) : Rn 190 131 ls st σ Q = acR 190 (o_ldi 8 133 ls st σ) ls σ Q := rn_row rfl ls st σ Q
theorem r_190_133 (ls : a_LS) (st : List Value) (σ : a_HP) (Q : Option Value → a_HP → Prop) : Rn 190 133 ls st σ Q = acR 190 (o_eq 140 136 ls st σ) ls σ Q := rn_row rfl ls st σ Q
theorem r_190_136 (ls : a_LS) (st : List Value) (σ : a_HP) (Q : Option Value → a_HP → Prop) : Rn 190 136 ls st σ Q = acR 190 (o_pi (nI 1) 137 ls st σ) ls σ Q := rn_row rfl ls st σ Q
theorem r_190_137 (ls : a_LS) (st : List Value) (σ : a_HP) (Q : Option Value → a_HP → Prop) : Rn 190 137 ls st σ Q = acR 190 (o_go 141 ls st σ) ls σ Q := rn_row rfl ls st σ Q
theorem r_190_140 (ls : a_LS) (st : List Value) (σ : a_HP) (Q : Option Value → a_HP → Prop) : Rn 190 140 ls st σ Q = acR 190 (o_pi (nI 0) 141 ls st σ) ls σ Q := rn_row rfl ls st σ Q
theorem r_190_141 (ls : a_LS) (st : List Value) (σ : a_HP) (Q : Option Value → a_HP → Prop) : Rn 190 141 ls st σ Q = acR 190 (o_bi f_add 142 ls st σ) ls σ Q := rn_row rfl ls st σ Q
theorem r_190_142 (ls : a_LS) (st : List Value) (σ : a_HP) (Q : Option Value → a_HP → Prop) : Rn 190 142 ls st σ Q = acR 190 (o_sti 4 144 ls st σ) ls σ Q := rn_row rfl ls st σ Q
theorem r_190_144 (ls : a_LS) (st : List Value) (σ : a_HP) (Q : Option Value → a_HP → Prop) : Rn 190 144 ls st σ Q = acR 190 (o_ldi 8 146 ls st σ) ls σ Q := rn_row rfl ls st σ Q
theorem r_190_146 (ls : a_LS) (st : List Value) (σ : a_HP) (Q : Option Value → a_HP → Prop) : Rn 190 146 ls st σ Q = acR 190 (o_eq 166 149 ls st σ) ls σ Q := rn_row rfl ls st σ Q
theorem r_190_149 (ls : a_LS) (st : List Value) (σ : a_HP) (Q : Option Value → a_HP → Prop) : Rn 190 149 ls st σ Q = acR 190 (o_ldi 5 151 ls st σ) ls σ Q := rn_row rfl ls st σ Q
theorem r_190_151 (ls : a_LS) (st : List Value) (σ : a_HP) (Q : Option Value → a_HP → Prop) : Rn 190 151 ls st σ Q = acR 190 (o_pi (-1) 152 ls st σ) ls σ Q := rn_row rfl ls st σ Q
theorem r_190_152 (ls : a_LS) (st : List Value) (σ : a_HP) (Q : Option Value → a_HP → Prop) : Rn 190 152 ls st σ Q = acR 190 (o_cne 166 155 ls st σ) ls σ Q := rn_row rfl ls st σ Q
theorem r_190_155 (ls : a_LS) (st : List Value) (σ : a_HP) (Q : Option Value → a_HP → Prop) : Rn 190 155 ls st σ Q = acR 190 (o_pi (nI 10) 157 ls st σ) ls σ Q := rn_row rfl ls st σ Q
theorem r_190_157 (ls : a_LS) (st : List Value) (σ : a_HP) (Q : Option Value → a_HP → Prop) : Rn 190 157 ls st σ Q = acR 190 (o_ldi 6 159 ls st σ) ls σ Q := rn_row rfl ls st σ Q
theorem r_190_159 (ls : a_LS) (st : List Value) (σ : a_HP) (Q : Option Value → a_HP → Prop) : Rn 190 159 ls st σ Q = acR 190 (o_bi f_mul 160 ls st σ) ls σ Q := rn_row rfl ls st σ Q
theorem r_190_160 (ls : a_LS) (st : List Value) (σ : a_HP) (Q : Option Value → a_HP → Prop) : Rn 190 160 ls st σ Q = acR 190 (o_ldi 7 162 ls st σ) ls σ Q := rn_row rfl ls st σ Q
theorem r_190_162 (ls : a_LS) (st : List Value) (σ : a_HP) (Q : Option Value → a_HP → Prop) : Rn 190 162 ls st σ Q = acR 190 (o_bi f_add 163 ls st σ) ls σ Q := rn_row rfl ls st σ Q
theorem r_190_163 (ls : a_LS) (st : List Value) (σ : a_HP) (Q : Option Value → a_HP → Prop) : Rn 190 163 ls st σ Q = acR 190 (o_go 168 ls st σ) ls σ Q := rn_row rfl ls st σ Q
theorem r_190_166 (ls : a_LS) (st : List Value) (σ : a_HP) (Q : Option Value → a_HP → Prop) : Rn 190 166 ls st σ Q = acR 190 (o_ldi 5 168 ls st σ) ls σ Q := rn_row rfl ls st σ Q
theorem r_190_168 (ls : a_LS) (st : List Value) (σ : a_HP) (Q : Option Value → a_HP → Prop) : Rn 190 168 ls st σ Q = acR 190 (o_sti 5 170 ls st σ) ls σ Q := rn_row rfl ls st σ Q
theorem r_190_170 (ls : a_LS) (st : List Value) (σ : a_HP) (Q : Option Value → a_HP → Prop) : Rn 190 170 ls st σ Q = acR 190 (o_inc 7 (nI 1) 173 ls st σ) ls σ Q := rn_row rfl ls st σ Q
theorem r_190_173 (ls : a_LS) (st : List Value) (σ : a_HP) (Q : Option Value → a_HP → Prop) : Rn 190 173 ls st σ Q = acR 190 (o_go 82 ls st σ) ls σ Q := rn_row rfl ls st σ Q
theorem r_190_176 (ls : a_LS) (st : List Value) (σ : a_HP) (Q : Option Value → a_HP → Prop) : Rn 190 176 ls st σ Q = acR 190 (o_inc 6 (nI 1) 179 ls st σ) ls σ Q := rn_row rfl ls st σ Q
theorem r_190_179 (ls : a_LS) (st : List Value) (σ : a_HP) (Q : Option Value → a_HP → Prop) : Rn 190 179 ls st σ Q = acR 190 (o_go 72 ls st σ) ls σ Q := rn_row rfl ls st σ Q
theorem r_190_182 (ls : a_LS) (st : List Value) (σ : a_HP) (Q : Option Value → a_HP → Prop) : Rn 190 182 ls st σ Q = acR 190 (o_ldi 3 183 ls st σ) ls σ Q := rn_row rfl ls st σ Q
theorem r_190_183 (ls : a_LS) (st : List Value) (σ : a_HP) (Q : Option Value → a_HP → Prop) : Rn 190 183 ls st σ Q = acR 190 (o_ne 191 186 ls st σ) ls σ Q := rn_row rfl ls st σ Q
theorem r_190_186 (ls : a_LS) (st : List Value) (σ : a_HP) (Q : Option Value → a_HP → Prop) : Rn 190 186 ls st σ Q = acR 190 (o_ldi 4 188 ls st σ) ls σ Q := rn_row rfl ls st σ Q
theorem r_190_188 (ls : a_LS) (st : List Value) (σ : a_HP) (Q : Option Value → a_HP → Prop) : Rn 190 188 ls st σ Q = acR 190 (o_go 193 ls st σ) ls σ Q := rn_row rfl ls st σ Q
theorem r_190_191 (ls : a_LS) (st : List Value) (σ : a_HP) (Q : Option Value → a_HP → Prop) : Rn 190 191 ls st σ Q = acR 190 (o_ldi 5 193 ls st σ) ls σ Q := rn_row rfl ls st σ Q
theorem r_190_193 (ls : a_LS) (st : List Value) (σ : a_HP) (Q : Option Value → a_HP → Prop) : Rn 190 193 ls st σ Q = acR 190 (o_ri ls st σ) ls σ Q := rn_row rfl ls st σ Q
/-! 191: NetLawModel.mayChoose(II)Z -/
theorem cl_191 (x0 : Nat) (x1 : Int32) (x2 : Int32) (σ : a_HP) (Q : Option Value → a_HP → Prop) : Cl 191 [.ref x0, .int x1, .int x2] σ Q = Rn 191 0 [some (.ref x0), some (.int x1), some (.int x2)] [] σ Q := cl_of (Nat.le_of_ble_eq_true rfl) rfl σ Q
theorem r_191_0 (ls : a_LS) (st : List Value) (σ : a_HP) (Q : Option Value → a_HP → Prop) : Rn 191 0 ls st σ Q = acR 191 (o_ldi 2 1 ls st σ) ls σ Q := rn_row rfl ls st σ Q
theorem r_191_1 (ls : a_LS) (st : List Value) (σ : a_HP) (Q : Option Value → a_HP → Prop) : Rn 191 1 ls st σ Q = acR 191 (o_pi (nI 16) 3 ls st σ) ls σ Q := rn_row rfl ls st σ Q
theorem r_191_3 (ls : a_LS) (st : List Value) (σ : a_HP) (Q : Option Value → a_HP → Prop) : Rn 191 3 ls st σ Q = acR 191 (o_ceq 26 6 ls st σ) ls σ Q := rn_row rfl ls st σ Q
theorem r_191_6 (ls : a_LS) (st : List Value) (σ : a_HP) (Q : Option Value → a_HP → Prop) : Rn 191 6 ls st σ Q = acR 191 (o_ldi 1 7 ls st σ) ls σ Q := rn_row rfl ls st σ Q
theorem r_191_7 (ls : a_LS) (st : List Value) (σ : a_HP) (Q : Option Value → a_HP → Prop) : Rn 191 7 ls st σ Q = acR 191 (o_ldi 2 8 ls st σ) ls σ Q := rn_row rfl ls st σ Q
theorem r_191_8 (ls : a_LS) (st : List Value) (σ : a_HP) (Q : Option Value → a_HP → Prop) : Rn 191 8 ls st σ Q = acR 191 (o_ivs 137 2 11 ls st σ) ls σ Q := rn_row rfl ls st σ Q
theorem r_191_11 (ls : a_LS) (st : List Value) (σ : a_HP) (Q : Option Value → a_HP → Prop) : Rn 191 11 ls st σ Q = acR 191 (o_eq 30 14 ls st σ) ls σ Q := rn_row rfl ls st σ Q
theorem r_191_14 (ls : a_LS) (st : List Value) (σ : a_HP) (Q : Option Value → a_HP → Prop) : Rn 191 14 ls st σ Q = acR 191 (o_lda 0 15 ls st σ) ls σ Q := rn_row rfl ls st σ Q
theorem r_191_15 (ls : a_LS) (st : List Value) (σ : a_HP) (Q : Option Value → a_HP → Prop) : Rn 191 15 ls st σ Q = acR 191 (o_get 8 0 18 ls st σ) ls σ Q := rn_row rfl ls st σ Q
theorem r_191_18 (ls : a_LS) (st : List Value) (σ : a_HP) (Q : Option Value → a_HP → Prop) : Rn 191 18 ls st σ Q = acR 191 (o_pi (nI 20) 20 ls st σ) ls σ Q := rn_row rfl ls st σ Q
theorem r_191_20 (ls : a_LS) (st : List Value) (σ : a_HP) (Q : Option Value → a_HP → Prop) : Rn 191 20 ls st σ Q = acR 191 (o_ldi 2 21 ls st σ) ls σ Q := rn_row rfl ls st σ Q
theorem r_191_21 (ls : a_LS) (st : List Value) (σ : a_HP) (Q : Option Value → a_HP → Prop) : Rn 191 21 ls st σ Q = acR 191 (o_bi f_add 22 ls st σ) ls σ Q := rn_row rfl ls st σ Q
theorem r_191_22 (ls : a_LS) (st : List Value) (σ : a_HP) (Q : Option Value → a_HP → Prop) : Rn 191 22 ls st σ Q = acR 191 (o_ial 23 ls st σ) ls σ Q := rn_row rfl ls st σ Q
theorem r_191_23 (ls : a_LS) (st : List Value) (σ : a_HP) (Q : Option Value → a_HP → Prop) : Rn 191 23 ls st σ Q = acR 191 (o_le 30 26 ls st σ) ls σ Q := rn_row rfl ls st σ Q
theorem r_191_26 (ls : a_LS) (st : List Value) (σ : a_HP) (Q : Option Value → a_HP → Prop) : Rn 191 26 ls st σ Q = acR 191 (o_pi (nI 1) 27 ls st σ) ls σ Q := rn_row rfl ls st σ Q
theorem r_191_27 (ls : a_LS) (st : List Value) (σ : a_HP) (Q : Option Value → a_HP → Prop) : Rn 191 27 ls st σ Q = acR 191 (o_go 31 ls st σ) ls σ Q := rn_row rfl ls st σ Q
theorem r_191_30 (ls : a_LS) (st : List Value) (σ : a_HP) (Q : Option Value → a_HP → Prop) : Rn 191 30 ls st σ Q = acR 191 (o_pi (nI 0) 31 ls st σ) ls σ Q := rn_row rfl ls st σ Q
theorem r_191_31 (ls : a_LS) (st : List Value) (σ : a_HP) (Q : Option Value → a_HP → Prop) : Rn 191 31 ls st σ Q = acR 191 (o_rz ls st σ) ls σ Q := rn_row rfl ls st σ Q
/-! 192: NetLawModel.mendsAside(II)V -/
theorem cl_192 (x0 : Nat) (x1 : Int32) (x2 : Int32) (σ : a_HP) (Q : Option Value → a_HP → Prop) : Cl 192 [.ref x0, .int x1, .int x2] σ Q = Rn 192 0 [some (.ref x0), some (.int x1), some (.int x2), none] [] σ Q := cl_of (Nat.le_of_ble_eq_true rfl) rfl σ Q
theorem r_192_0 (ls : a_LS) (st : List Value) (σ : a_HP) (Q : Option Value → a_HP → Prop) : Rn 192 0 ls st σ Q = acR 192 (o_ldi 1 1 ls st σ) ls σ Q := rn_row rfl ls st σ Q
theorem r_192_1 (ls : a_LS) (st : List Value) (σ : a_HP) (Q : Option Value → a_HP → Prop) : Rn 192 1 ls st σ Q = acR 192 (o_pi (nI 16) 3 ls st σ) ls σ Q := rn_row rfl ls st σ Q
theorem r_192_3 (ls : a_LS) (st : List Value) (σ : a_HP) (Q : Option Value → a_HP → Prop) : Rn 192 3 ls st σ Q = acR 192 (o_cge 39 6 ls st σ) ls σ Q := rn_row rfl ls st σ Q
theorem r_192_6 (ls : a_LS) (st : List Value) (σ : a_HP) (Q : Option Value → a_HP → Prop) : Rn 192 6 ls st σ Q = acR 192 (o_lda 0 7 ls st σ) ls σ Q := rn_row rfl ls st σ Q
theorem r_192_7 (ls : a_LS) (st : List Value) (σ : a_HP) (Q : Option Value → a_HP → Prop) : Rn 192 7 ls st σ Q = acR 192 (o_get 8 2 10 ls st σ) ls σ Q := rn_row rfl ls st σ Q
theorem r_192_10 (ls : a_LS) (st : List Value) (σ : a_HP) (Q : Option Value → a_HP → Prop) : Rn 192 10 ls st σ Q = acR 192 (o_pi (nI 20) 12 ls st σ) ls σ Q := rn_row rfl ls st σ Q
theorem r_192_12 (ls : a_LS) (st : List Value) (σ : a_HP) (Q : Option Value → a_HP → Prop) : Rn 192 12 ls st σ Q = acR 192 (o_ldi 1 13 ls st σ) ls σ Q := rn_row rfl ls st σ Q
theorem r_192_13 (ls : a_LS) (st : List Value) (σ : a_HP) (Q : Option Value → a_HP → Prop) : Rn 192 13 ls st σ Q = acR 192 (o_bi f_add 14 ls st σ) ls σ Q := rn_row rfl ls st σ Q
theorem r_192_14 (ls : a_LS) (st : List Value) (σ : a_HP) (Q : Option Value → a_HP → Prop) : Rn 192 14 ls st σ Q = acR 192 (o_ial 15 ls st σ) ls σ Q := rn_row rfl ls st σ Q
theorem r_192_15 (ls : a_LS) (st : List Value) (σ : a_HP) (Q : Option Value → a_HP → Prop) : Rn 192 15 ls st σ Q = acR 192 (o_ldi 2 16 ls st σ) ls σ Q := rn_row rfl ls st σ Q
theorem r_192_16 (ls : a_LS) (st : List Value) (σ : a_HP) (Q : Option Value → a_HP → Prop) : Rn 192 16 ls st σ Q = acR 192 (o_bi f_add 17 ls st σ) ls σ Q := rn_row rfl ls st σ Q
theorem r_192_17 (ls : a_LS) (st : List Value) (σ : a_HP) (Q : Option Value → a_HP → Prop) : Rn 192 17 ls st σ Q = acR 192 (o_sti 3 18 ls st σ) ls σ Q := rn_row rfl ls st σ Q
theorem r_192_18 (ls : a_LS) (st : List Value) (σ : a_HP) (Q : Option Value → a_HP → Prop) : Rn 192 18 ls st σ Q = acR 192 (o_lda 0 19 ls st σ) ls σ Q := rn_row rfl ls st σ Q
theorem r_192_19 (ls : a_LS) (st : List Value) (σ : a_HP) (Q : Option Value → a_HP → Prop) : Rn 192 19 ls st σ Q = acR 192 (o_get 8 2 22 ls st σ) ls σ Q := rn_row rfl ls st σ Q
theorem r_192_22 (ls : a_LS) (st : List Value) (σ : a_HP) (Q : Option Value → a_HP → Prop) : Rn 192 22 ls st σ Q = acR 192 (o_pi (nI 20) 24 ls st σ) ls σ Q := rn_row rfl ls st σ Q
theorem r_192_24 (ls : a_LS) (st : List Value) (σ : a_HP) (Q : Option Value → a_HP → Prop) : Rn 192 24 ls st σ Q = acR 192 (o_ldi 1 25 ls st σ) ls σ Q := rn_row rfl ls st σ Q
theorem r_192_25 (ls : a_LS) (st : List Value) (σ : a_HP) (Q : Option Value → a_HP → Prop) : Rn 192 25 ls st σ Q = acR 192 (o_bi f_add 26 ls st σ) ls σ Q := rn_row rfl ls st σ Q
theorem r_192_26 (ls : a_LS) (st : List Value) (σ : a_HP) (Q : Option Value → a_HP → Prop) : Rn 192 26 ls st σ Q = acR 192 (o_ldi 3 27 ls st σ) ls σ Q := rn_row rfl ls st σ Q
theorem r_192_27 (ls : a_LS) (st : List Value) (σ : a_HP) (Q : Option Value → a_HP → Prop) : Rn 192 27 ls st σ Q = acR 192 (o_pi (nI 9) 29 ls st σ) ls σ Q := rn_row rfl ls st σ Q
theorem r_192_29 (ls : a_LS) (st : List Value) (σ : a_HP) (Q : Option Value → a_HP → Prop) : Rn 192 29 ls st σ Q = acR 192 (o_cle 37 32 ls st σ) ls σ Q := rn_row rfl ls st σ Q
theorem r_192_32 (ls : a_LS) (st : List Value) (σ : a_HP) (Q : Option Value → a_HP → Prop) : Rn 192 32 ls st σ Q = acR 192 (o_pi (nI 9) 34 ls st σ) ls σ Q := rn_row rfl ls st σ Q
theorem r_192_34 (ls : a_LS) (st : List Value) (σ : a_HP) (Q : Option Value → a_HP → Prop) : Rn 192 34 ls st σ Q = acR 192 (o_go 38 ls st σ) ls σ Q := rn_row rfl ls st σ Q
theorem r_192_37 (ls : a_LS) (st : List Value) (σ : a_HP) (Q : Option Value → a_HP → Prop) : Rn 192 37 ls st σ Q = acR 192 (o_ldi 3 38 ls st σ) ls σ Q := rn_row rfl ls st σ Q
theorem r_192_38 (ls : a_LS) (st : List Value) (σ : a_HP) (Q : Option Value → a_HP → Prop) : Rn 192 38 ls st σ Q = acR 192 (o_ias 39 ls st σ) ls σ Q := rn_row rfl ls st σ Q
theorem r_192_39 (ls : a_LS) (st : List Value) (σ : a_HP) (Q : Option Value → a_HP → Prop) : Rn 192 39 ls st σ Q = acR 192 (o_rv ls st σ) ls σ Q := rn_row rfl ls st σ Q
/-! 193: NetLawModel.gets(IIII)I -/
theorem cl_193 (x0 : Nat) (x1 : Int32) (x2 : Int32) (x3 : Int32) (x4 : Int32) (σ : a_HP) (Q : Option Value → a_HP → Prop) : Cl 193 [.ref x0, .int x1, .int x2, .int x3, .int x4] σ Q = Rn 193 0 [some (.ref x0), some (.int x1), some (.int x2), some (.int x3), some (.int x4)] [] σ Q := cl_of (Nat.le_of_ble_eq_true rfl) rfl σ Q
theorem r_193_0 (ls : a_LS) (st : List Value) (σ : a_HP) (Q : Option Value → a_HP → Prop) : Rn 193 0 ls st σ Q = acR 193 (o_lda 0 1 ls st σ) ls σ Q := rn_row rfl ls st σ Q
theorem r_193_1 (ls : a_LS) (st : List Value) (σ : a_HP) (Q : Option Value → a_HP → Prop) : Rn 193 1 ls st σ Q = acR 193 (o_ivv 8 170 0 4 ls st σ) ls σ Q := rn_row rfl ls st σ Q
theorem r_193_4 (ls : a_LS) (st : List Value) (σ : a_HP) (Q : Option Value → a_HP → Prop) : Rn 193 4 ls st σ Q = acR 193 (o_lda 0 5 ls st σ) ls σ Q := rn_row rfl ls st σ Q
theorem r_193_5 (ls : a_LS) (st : List Value) (σ : a_HP) (Q : Option Value → a_HP → Prop) : Rn 193 5 ls st σ Q = acR 193 (o_ldi 2 6 ls st σ) ls σ Q := rn_row rfl ls st σ Q
theorem r_193_6 (ls : a_LS) (st : List Value) (σ : a_HP) (Q : Option Value → a_HP → Prop) : Rn 193 6 ls st σ Q = acR 193 (o_ldi 4 8 ls st σ) ls σ Q := rn_row rfl ls st σ Q
theorem r_193_8 (ls : a_LS) (st : List Value) (σ : a_HP) (Q : Option Value → a_HP → Prop) : Rn 193 8 ls st σ Q = acR 193 (o_ivv 8 192 2 11 ls st σ) ls σ Q := rn_row rfl ls st σ Q
theorem r_193_11 (ls : a_LS) (st : List Value) (σ : a_HP) (Q : Option Value → a_HP → Prop) : Rn 193 11 ls st σ Q = acR 193 (o_lda 0 12 ls st σ) ls σ Q := rn_row rfl ls st σ Q
theorem r_193_12 (ls : a_LS) (st : List Value) (σ : a_HP) (Q : Option Value → a_HP → Prop) : Rn 193 12 ls st σ Q = acR 193 (o_ldi 3 13 ls st σ) ls σ Q := rn_row rfl ls st σ Q
theorem r_193_13 (ls : a_LS) (st : List Value) (σ : a_HP) (Q : Option Value → a_HP → Prop) : Rn 193 13 ls st σ Q = acR 193 (o_ldi 4 15 ls st σ) ls σ Q := rn_row rfl ls st σ Q
theorem r_193_15 (ls : a_LS) (st : List Value) (σ : a_HP) (Q : Option Value → a_HP → Prop) : Rn 193 15 ls st σ Q = acR 193 (o_ivv 8 192 2 18 ls st σ) ls σ Q := rn_row rfl ls st σ Q
theorem r_193_18 (ls : a_LS) (st : List Value) (σ : a_HP) (Q : Option Value → a_HP → Prop) : Rn 193 18 ls st σ Q = acR 193 (o_lda 0 19 ls st σ) ls σ Q := rn_row rfl ls st σ Q
theorem r_193_19 (ls : a_LS) (st : List Value) (σ : a_HP) (Q : Option Value → a_HP → Prop) : Rn 193 19 ls st σ Q = acR 193 (o_get 8 2 22 ls st σ) ls σ Q := rn_row rfl ls st σ Q
theorem r_193_22 (ls : a_LS) (st : List Value) (σ : a_HP) (Q : Option Value → a_HP → Prop) : Rn 193 22 ls st σ Q = acR 193 (o_ldi 1 23 ls st σ) ls σ Q := rn_row rfl ls st σ Q
theorem r_193_23 (ls : a_LS) (st : List Value) (σ : a_HP) (Q : Option Value → a_HP → Prop) : Rn 193 23 ls st σ Q = acR 193 (o_ivs 139 2 26 ls st σ) ls σ Q := rn_row rfl ls st σ Q
theorem r_193_26 (ls : a_LS) (st : List Value) (σ : a_HP) (Q : Option Value → a_HP → Prop) : Rn 193 26 ls st σ Q = acR 193 (o_eq 34 29 ls st σ) ls σ Q := rn_row rfl ls st σ Q
theorem r_193_29 (ls : a_LS) (st : List Value) (σ : a_HP) (Q : Option Value → a_HP → Prop) : Rn 193 29 ls st σ Q = acR 193 (o_pi (nI 10) 31 ls st σ) ls σ Q := rn_row rfl ls st σ Q
theorem r_193_31 (ls : a_LS) (st : List Value) (σ : a_HP) (Q : Option Value → a_HP → Prop) : Rn 193 31 ls st σ Q = acR 193 (o_go 35 ls st σ) ls σ Q := rn_row rfl ls st σ Q
theorem r_193_34 (ls : a_LS) (st : List Value) (σ : a_HP) (Q : Option Value → a_HP → Prop) : Rn 193 34 ls st σ Q = acR 193 (o_pi (nI 0) 35 ls st σ) ls σ Q := rn_row rfl ls st σ Q
theorem r_193_35 (ls : a_LS) (st : List Value) (σ : a_HP) (Q : Option Value → a_HP → Prop) : Rn 193 35 ls st σ Q = acR 193 (o_ldi 2 36 ls st σ) ls σ Q := rn_row rfl ls st σ Q
theorem r_193_36 (ls : a_LS) (st : List Value) (σ : a_HP) (Q : Option Value → a_HP → Prop) : Rn 193 36 ls st σ Q = acR 193 (o_pi (nI 16) 38 ls st σ) ls σ Q := rn_row rfl ls st σ Q
theorem r_193_38 (ls : a_LS) (st : List Value) (σ : a_HP) (Q : Option Value → a_HP → Prop) : Rn 193 38 ls st σ Q = acR 193 (o_cge 46 41 ls st σ) ls σ Q := rn_row rfl ls st σ Q
theorem r_193_41 (ls : a_LS) (st : List Value) (σ : a_HP) (Q : Option Value → a_HP → Prop) : Rn 193 41 ls st σ Q = acR 193 (o_ldi 4 43 ls st σ) ls σ Q := rn_row rfl ls st σ Q
theorem r_193_43 (ls : a_LS) (st : List Value) (σ : a_HP) (Q : Option Value → a_HP → Prop) : Rn 193 43 ls st σ Q = acR 193 (o_go 47 ls st σ) ls σ Q := rn_row rfl ls st σ Q
theorem r_193_46 (ls : a_LS) (st : List Value) (σ : a_HP) (Q : Option Value → a_HP → Prop) : Rn 193 46 ls st σ Q = acR 193 (o_pi (nI 0) 47 ls st σ) ls σ Q := rn_row rfl ls st σ Q
theorem r_193_47 (ls : a_LS) (st : List Value) (σ : a_HP) (Q : Option Value → a_HP → Prop) : Rn 193 47 ls st σ Q = acR 193 (o_bi f_sub 48 ls st σ) ls σ Q := rn_row rfl ls st σ Q
theorem r_193_48 (ls : a_LS) (st : List Value) (σ : a_HP) (Q : Option Value → a_HP → Prop) : Rn 193 48 ls st σ Q = acR 193 (o_ri ls st σ) ls σ Q := rn_row rfl ls st σ Q
/-! 194: NetLawModel.rests(IIII)Z -/
theorem cl_194 (x0 : Nat) (x1 : Int32) (x2 : Int32) (x3 : Int32) (x4 : Int32) (σ : a_HP) (Q : Option Value → a_HP → Prop) : Cl 194 [.ref x0, .int x1, .int x2, .int x3, .int x4] σ Q = Rn 194 0 [some (.ref x0), some (.int x1), some (.int x2), some (.int x3), some (.int x4), none, none, none] [] σ Q := cl_of (Nat.le_of_ble_eq_true rfl) rfl σ Q
theorem r_194_0 (ls : a_LS) (st : List Value) (σ : a_HP) (Q : Option Value → a_HP → Prop) : Rn 194 0 ls st σ Q = acR 194 (o_lda 0 1 ls st σ) ls σ Q := rn_row rfl ls st σ Q
theorem r_194_1 (ls : a_LS) (st : List Value) (σ : a_HP) (Q : Option Value → a_HP → Prop) : Rn 194 1 ls st σ Q = acR 194 (o_ldi 1 2 ls st σ) ls σ Q := rn_row rfl ls st σ Q
theorem r_194_2 (ls : a_LS) (st : List Value) (σ : a_HP) (Q : Option Value → a_HP → Prop) : Rn 194 2 ls st σ Q = acR 194 (o_ldi 2 3 ls st σ) ls σ Q := rn_row rfl ls st σ Q
theorem r_194_3 (ls : a_LS) (st : List Value) (σ : a_HP) (Q : Option Value → a_HP → Prop) : Rn 194 3 ls st σ Q = acR 194 (o_ldi 3 4 ls st σ) ls σ Q := rn_row rfl ls st σ Q
theorem r_194_4 (ls : a_LS) (st : List Value) (σ : a_HP) (Q : Option Value → a_HP → Prop) : Rn 194 4 ls st σ Q = acR 194 (o_ldi 4 6 ls st σ) ls σ Q := rn_row rfl ls st σ Q
theorem r_194_6 (ls : a_LS) (st : List Value) (σ : a_HP) (Q : Option Value → a_HP → Prop) : Rn 194 6 ls st σ Q = acR 194 (o_ivv 8 193 4 9 ls st σ) ls σ Q := rn_row rfl ls st σ Q
theorem r_194_9 (ls : a_LS) (st : List Value) (σ : a_HP) (Q : Option Value → a_HP → Prop) : Rn 194 9 ls st σ Q = acR 194 (o_sti 5 11 ls st σ) ls σ Q := rn_row rfl ls st σ Q
theorem r_194_11 (ls : a_LS) (st : List Value) (σ : a_HP) (Q : Option Value → a_HP → Prop) : Rn 194 11 ls st σ Q = acR 194 (o_pi (nI 1) 12 ls st σ) ls σ Q := rn_row rfl ls st σ Q
theorem r_194_12 (ls : a_LS) (st : List Value) (σ : a_HP) (Q : Option Value → a_HP → Prop) : Rn 194 12 ls st σ Q = acR 194 (o_sti 6 14 ls st σ) ls σ Q := rn_row rfl ls st σ Q
theorem r_194_14 (ls : a_LS) (st : List Value) (σ : a_HP) (Q : Option Value → a_HP → Prop) : Rn 194 14 ls st σ Q = acR 194 (o_pi (nI 0) 15 ls st σ) ls σ Q := rn_row rfl ls st σ Q
theorem r_194_15 (ls : a_LS) (st : List Value) (σ : a_HP) (Q : Option Value → a_HP → Prop) : Rn 194 15 ls st σ Q = acR 194 (o_sti 7 17 ls st σ) ls σ Q := rn_row rfl ls st σ Q
theorem r_194_17 (ls : a_LS) (st : List Value) (σ : a_HP) (Q : Option Value → a_HP → Prop) : Rn 194 17 ls st σ Q = acR 194 (o_ldi 7 19 ls st σ) ls σ Q := rn_row rfl ls st σ Q
theorem r_194_19 (ls : a_LS) (st : List Value) (σ : a_HP) (Q : Option Value → a_HP → Prop) : Rn 194 19 ls st σ Q = acR 194 (o_pi (nI 17) 21 ls st σ) ls σ Q := rn_row rfl ls st σ Q
theorem r_194_21 (ls : a_LS) (st : List Value) (σ : a_HP) (Q : Option Value → a_HP → Prop) : Rn 194 21 ls st σ Q = acR 194 (o_cge 67 24 ls st σ) ls σ Q := rn_row rfl ls st σ Q
theorem r_194_24 (ls : a_LS) (st : List Value) (σ : a_HP) (Q : Option Value → a_HP → Prop) : Rn 194 24 ls st σ Q = acR 194 (o_ldi 6 26 ls st σ) ls σ Q := rn_row rfl ls st σ Q
theorem r_194_26 (ls : a_LS) (st : List Value) (σ : a_HP) (Q : Option Value → a_HP → Prop) : Rn 194 26 ls st σ Q = acR 194 (o_eq 58 29 ls st σ) ls σ Q := rn_row rfl ls st σ Q
theorem r_194_29 (ls : a_LS) (st : List Value) (σ : a_HP) (Q : Option Value → a_HP → Prop) : Rn 194 29 ls st σ Q = acR 194 (o_lda 0 30 ls st σ) ls σ Q := rn_row rfl ls st σ Q
theorem r_194_30 (ls : a_LS) (st : List Value) (σ : a_HP) (Q : Option Value → a_HP → Prop) : Rn 194 30 ls st σ Q = acR 194 (o_ldi 1 31 ls st σ) ls σ Q := rn_row rfl ls st σ Q
theorem r_194_31 (ls : a_LS) (st : List Value) (σ : a_HP) (Q : Option Value → a_HP → Prop) : Rn 194 31 ls st σ Q = acR 194 (o_ldi 7 33 ls st σ) ls σ Q := rn_row rfl ls st σ Q
theorem r_194_33 (ls : a_LS) (st : List Value) (σ : a_HP) (Q : Option Value → a_HP → Prop) : Rn 194 33 ls st σ Q = acR 194 (o_ivv 8 191 2 36 ls st σ) ls σ Q := rn_row rfl ls st σ Q
theorem r_194_36 (ls : a_LS) (st : List Value) (σ : a_HP) (Q : Option Value → a_HP → Prop) : Rn 194 36 ls st σ Q = acR 194 (o_eq 54 39 ls st σ) ls σ Q := rn_row rfl ls st σ Q
theorem r_194_39 (ls : a_LS) (st : List Value) (σ : a_HP) (Q : Option Value → a_HP → Prop) : Rn 194 39 ls st σ Q = acR 194 (o_lda 0 40 ls st σ) ls σ Q := rn_row rfl ls st σ Q
theorem r_194_40 (ls : a_LS) (st : List Value) (σ : a_HP) (Q : Option Value → a_HP → Prop) : Rn 194 40 ls st σ Q = acR 194 (o_ldi 1 41 ls st σ) ls σ Q := rn_row rfl ls st σ Q
theorem r_194_41 (ls : a_LS) (st : List Value) (σ : a_HP) (Q : Option Value → a_HP → Prop) : Rn 194 41 ls st σ Q = acR 194 (o_ldi 7 43 ls st σ) ls σ Q := rn_row rfl ls st σ Q
theorem r_194_43 (ls : a_LS) (st : List Value) (σ : a_HP) (Q : Option Value → a_HP → Prop) : Rn 194 43 ls st σ Q = acR 194 (o_ldi 3 44 ls st σ) ls σ Q := rn_row rfl ls st σ Q
theorem r_194_44 (ls : a_LS) (st : List Value) (σ : a_HP) (Q : Option Value → a_HP → Prop) : Rn 194 44 ls st σ Q = acR 194 (o_ldi 4 46 ls st σ) ls σ Q := rn_row rfl ls st σ Q
theorem r_194_46 (ls : a_LS) (st : List Value) (σ : a_HP) (Q : Option Value → a_HP → Prop) : Rn 194 46 ls st σ Q = acR 194 (o_ivv 8 193 4 49 ls st σ) ls σ Q := rn_row rfl ls st σ Q
theorem r_194_49 (ls : a_LS) (st : List Value) (σ : a_HP) (Q : Option Value → a_HP → Prop) : Rn 194 49 ls st σ Q = acR 194 (o_ldi 5 51 ls st σ) ls σ Q := rn_row rfl ls st σ Q
theorem r_194_51 (ls : a_LS) (st : List Value) (σ : a_HP) (Q : Option Value → a_HP → Prop) : Rn 194 51 ls st σ Q = acR 194 (o_cgt 58 54 ls st σ) ls σ Q := rn_row rfl ls st σ Q
theorem r_194_54 (ls : a_LS) (st : List Value) (σ : a_HP) (Q : Option Value → a_HP → Prop) : Rn 194 54 ls st σ Q = acR 194 (o_pi (nI 1) 55 ls st σ) ls σ Q := rn_row rfl ls st σ Q
theorem r_194_55 (ls : a_LS) (st : List Value) (σ : a_HP) (Q : Option Value → a_HP → Prop) : Rn 194 55 ls st σ Q = acR 194 (o_go 59 ls st σ) ls σ Q := rn_row rfl ls st σ Q
theorem r_194_58 (ls : a_LS) (st : List Value) (σ : a_HP) (Q : Option Value → a_HP → Prop) : Rn 194 58 ls st σ Q = acR 194 (o_pi (nI 0) 59 ls st σ) ls σ Q := rn_row rfl ls st σ Q
theorem r_194_59 (ls : a_LS) (st : List Value) (σ : a_HP) (Q : Option Value → a_HP → Prop) : Rn 194 59 ls st σ Q = acR 194 (o_sti 6 61 ls st σ) ls σ Q := rn_row rfl ls st σ Q
theorem r_194_61 (ls : a_LS) (st : List Value) (σ : a_HP) (Q : Option Value → a_HP → Prop) : Rn 194 61 ls st σ Q = acR 194 (o_inc 7 (nI 1) 64 ls st σ) ls σ Q := rn_row rfl ls st σ Q
theorem r_194_64 (ls : a_LS) (st : List Value) (σ : a_HP) (Q : Option Value → a_HP → Prop) : Rn 194 64 ls st σ Q = acR 194 (o_go 17 ls st σ) ls σ Q := rn_row rfl ls st σ Q
theorem r_194_67 (ls : a_LS) (st : List Value) (σ : a_HP) (Q : Option Value → a_HP → Prop) : Rn 194 67 ls st σ Q = acR 194 (o_ldi 6 69 ls st σ) ls σ Q := rn_row rfl ls st σ Q
theorem r_194_69 (ls : a_LS) (st : List Value) (σ : a_HP) (Q : Option Value → a_HP → Prop) : Rn 194 69 ls st σ Q = acR 194 (o_rz ls st σ) ls σ Q := rn_row rfl ls st σ Q
/-! 195: NetLawModel.menders(IIII)I -/
theorem cl_195 (x0 : Nat) (x1 : Int32) (x2 : Int32) (x3 : Int32) (x4 : Int32) (σ : a_HP) (Q : Option Value → a_HP → Prop) : Cl 195 [.ref x0, .int x1, .int x2, .int x3, .int x4] σ Q = Rn 195 0 [some (.ref x0), some (.int x1), some (.int x2), some (.int x3), some (.int x4), none, none, none, none] [] σ Q := cl_of (Nat.le_of_ble_eq_true rfl) rfl σ Q
theorem r_195_0 (ls : a_LS) (st : List Value) (σ : a_HP) (Q : Option Value → a_HP → Prop) : Rn 195 0 ls st σ Q = acR 195 (o_ldi 1 1 ls st σ) ls σ Q := rn_row rfl ls st σ Q
theorem r_195_1 (ls : a_LS) (st : List Value) (σ : a_HP) (Q : Option Value → a_HP → Prop) : Rn 195 1 ls st σ Q = acR 195 (o_ivs 142 1 4 ls st σ) ls σ Q := rn_row rfl ls st σ Q
theorem r_195_4 (ls : a_LS) (st : List Value) (σ : a_HP) (Q : Option Value → a_HP → Prop) : Rn 195 4 ls st σ Q = acR 195 (o_eq 39 7 ls st σ) ls σ Q := rn_row rfl ls st σ Q
theorem r_195_7 (ls : a_LS) (st : List Value) (σ : a_HP) (Q : Option Value → a_HP → Prop) : Rn 195 7 ls st σ Q = acR 195 (o_ldi 2 8 ls st σ) ls σ Q := rn_row rfl ls st σ Q
theorem r_195_8 (ls : a_LS) (st : List Value) (σ : a_HP) (Q : Option Value → a_HP → Prop) : Rn 195 8 ls st σ Q = acR 195 (o_ivs 142 1 11 ls st σ) ls σ Q := rn_row rfl ls st σ Q
theorem r_195_11 (ls : a_LS) (st : List Value) (σ : a_HP) (Q : Option Value → a_HP → Prop) : Rn 195 11 ls st σ Q = acR 195 (o_eq 39 14 ls st σ) ls σ Q := rn_row rfl ls st σ Q
theorem r_195_14 (ls : a_LS) (st : List Value) (σ : a_HP) (Q : Option Value → a_HP → Prop) : Rn 195 14 ls st σ Q = acR 195 (o_ldi 1 15 ls st σ) ls σ Q := rn_row rfl ls st σ Q
theorem r_195_15 (ls : a_LS) (st : List Value) (σ : a_HP) (Q : Option Value → a_HP → Prop) : Rn 195 15 ls st σ Q = acR 195 (o_ldi 2 16 ls st σ) ls σ Q := rn_row rfl ls st σ Q
theorem r_195_16 (ls : a_LS) (st : List Value) (σ : a_HP) (Q : Option Value → a_HP → Prop) : Rn 195 16 ls st σ Q = acR 195 (o_ceq 39 19 ls st σ) ls σ Q := rn_row rfl ls st σ Q
theorem r_195_19 (ls : a_LS) (st : List Value) (σ : a_HP) (Q : Option Value → a_HP → Prop) : Rn 195 19 ls st σ Q = acR 195 (o_ldi 3 20 ls st σ) ls σ Q := rn_row rfl ls st σ Q
theorem r_195_20 (ls : a_LS) (st : List Value) (σ : a_HP) (Q : Option Value → a_HP → Prop) : Rn 195 20 ls st σ Q = acR 195 (o_i2l 21 ls st σ) ls σ Q := rn_row rfl ls st σ Q
theorem r_195_21 (ls : a_LS) (st : List Value) (σ : a_HP) (Q : Option Value → a_HP → Prop) : Rn 195 21 ls st σ Q = acR 195 (o_pl (lN 1) 22 ls st σ) ls σ Q := rn_row rfl ls st σ Q
theorem r_195_22 (ls : a_LS) (st : List Value) (σ : a_HP) (Q : Option Value → a_HP → Prop) : Rn 195 22 ls st σ Q = acR 195 (o_pl (lN 9) 25 ls st σ) ls σ Q := rn_row rfl ls st σ Q
theorem r_195_25 (ls : a_LS) (st : List Value) (σ : a_HP) (Q : Option Value → a_HP → Prop) : Rn 195 25 ls st σ Q = acR 195 (o_ivs 122 3 28 ls st σ) ls σ Q := rn_row rfl ls st σ Q
theorem r_195_28 (ls : a_LS) (st : List Value) (σ : a_HP) (Q : Option Value → a_HP → Prop) : Rn 195 28 ls st σ Q = acR 195 (o_eq 39 31 ls st σ) ls σ Q := rn_row rfl ls st σ Q
theorem r_195_31 (ls : a_LS) (st : List Value) (σ : a_HP) (Q : Option Value → a_HP → Prop) : Rn 195 31 ls st σ Q = acR 195 (o_ldi 4 33 ls st σ) ls σ Q := rn_row rfl ls st σ Q
theorem r_195_33 (ls : a_LS) (st : List Value) (σ : a_HP) (Q : Option Value → a_HP → Prop) : Rn 195 33 ls st σ Q = acR 195 (o_ivs 143 1 36 ls st σ) ls σ Q := rn_row rfl ls st σ Q
theorem r_195_36 (ls : a_LS) (st : List Value) (σ : a_HP) (Q : Option Value → a_HP → Prop) : Rn 195 36 ls st σ Q = acR 195 (o_ne 46 39 ls st σ) ls σ Q := rn_row rfl ls st σ Q
theorem r_195_39 (ls : a_LS) (st : List Value) (σ : a_HP) (Q : Option Value → a_HP → Prop) : Rn 195 39 ls st σ Q = acR 195 (o_lda 0 40 ls st σ) ls σ Q := rn_row rfl ls st σ Q
theorem r_195_40 (ls : a_LS) (st : List Value) (σ : a_HP) (Q : Option Value → a_HP → Prop) : Rn 195 40 ls st σ Q = acR 195 (o_pi (-10) 42 ls st σ) ls σ Q := rn_row rfl ls st σ Q
theorem r_195_42 (ls : a_LS) (st : List Value) (σ : a_HP) (Q : Option Value → a_HP → Prop) : Rn 195 42 ls st σ Q = acR 195 (o_ivv 8 126 1 45 ls st σ) ls σ Q := rn_row rfl ls st σ Q
theorem r_195_45 (ls : a_LS) (st : List Value) (σ : a_HP) (Q : Option Value → a_HP → Prop) : Rn 195 45 ls st σ Q = acR 195 (o_ri ls st σ) ls σ Q := rn_row rfl ls st σ Q
theorem r_195_46 (ls : a_LS) (st : List Value) (σ : a_HP) (Q : Option Value → a_HP → Prop) : Rn 195 46 ls st σ Q = acR 195 (o_pi (nI 0) 47 ls st σ) ls σ Q := rn_row rfl ls st σ Q
theorem r_195_47 (ls : a_LS) (st : List Value) (σ : a_HP) (Q : Option Value → a_HP → Prop) : Rn 195 47 ls st σ Q = acR 195 (o_sti 5 49 ls st σ) ls σ Q := rn_row rfl ls st σ Q
theorem r_195_49 (ls : a_LS) (st : List Value) (σ : a_HP) (Q : Option Value → a_HP → Prop) : Rn 195 49 ls st σ Q = acR 195 (o_pi (-1) 50 ls st σ) ls σ Q := rn_row rfl ls st σ Q
theorem r_195_50 (ls : a_LS) (st : List Value) (σ : a_HP) (Q : Option Value → a_HP → Prop) : Rn 195 50 ls st σ Q = acR 195 (o_sti 6 52 ls st σ) ls σ Q := rn_row rfl ls st σ Q
theorem r_195_52 (ls : a_LS) (st : List Value) (σ : a_HP) (Q : Option Value → a_HP → Prop) : Rn 195 52 ls st σ Q = acR 195 (o_pi (nI 0) 53 ls st σ) ls σ Q := rn_row rfl ls st σ Q
theorem r_195_53 (ls : a_LS) (st : List Value) (σ : a_HP) (Q : Option Value → a_HP → Prop) : Rn 195 53 ls st σ Q = acR 195 (o_sti 7 55 ls st σ) ls σ Q := rn_row rfl ls st σ Q
theorem r_195_55 (ls : a_LS) (st : List Value) (σ : a_HP) (Q : Option Value → a_HP → Prop) : Rn 195 55 ls st σ Q = acR 195 (o_ldi 7 57 ls st σ) ls σ Q := rn_row rfl ls st σ Q
theorem r_195_57 (ls : a_LS) (st : List Value) (σ : a_HP) (Q : Option Value → a_HP → Prop) : Rn 195 57 ls st σ Q = acR 195 (o_pi (nI 17) 59 ls st σ) ls σ Q := rn_row rfl ls st σ Q
theorem r_195_59 (ls : a_LS) (st : List Value) (σ : a_HP) (Q : Option Value → a_HP → Prop) : Rn 195 59 ls st σ Q = acR 195 (o_cge 154 62 ls st σ) ls σ Q := rn_row rfl ls st σ Q
theorem r_195_62 (ls : a_LS) (st : List Value) (σ : a_HP) (Q : Option Value → a_HP → Prop) : Rn 195 62 ls st σ Q = acR 195 (o_pi (nI 0) 63 ls st σ) ls σ Q := rn_row rfl ls st σ Q
theorem r_195_63 (ls : a_LS) (st : List Value) (σ : a_HP) (Q : Option Value → a_HP → Prop) : Rn 195 63 ls st σ Q = acR 195 (o_sti 8 65 ls st σ) ls σ Q := rn_row rfl ls st σ Q
theorem r_195_65 (ls : a_LS) (st : List Value) (σ : a_HP) (Q : Option Value → a_HP → Prop) : Rn 195 65 ls st σ Q = acR 195 (o_ldi 8 67 ls st σ) ls σ Q := rn_row rfl ls st σ Q
theorem r_195_67 (ls : a_LS) (st : List Value) (σ : a_HP) (Q : Option Value → a_HP → Prop) : Rn 195 67 ls st σ Q = acR 195 (o_pi (nI 17) 69 ls st σ) ls σ Q := rn_row rfl ls st σ Q
theorem r_195_69 (ls : a_LS) (st : List Value) (σ : a_HP) (Q : Option Value → a_HP → Prop) : Rn 195 69 ls st σ Q = acR 195 (o_cge 148 72 ls st σ) ls σ Q := rn_row rfl ls st σ Q
theorem r_195_72 (ls : a_LS) (st : List Value) (σ : a_HP) (Q : Option Value → a_HP → Prop) : Rn 195 72 ls st σ Q = acR 195 (o_lda 0 73 ls st σ) ls σ Q := rn_row rfl ls st σ Q
theorem r_195_73 (ls : a_LS) (st : List Value) (σ : a_HP) (Q : Option Value → a_HP → Prop) : Rn 195 73 ls st σ Q = acR 195 (o_ldi 1 74 ls st σ) ls σ Q := rn_row rfl ls st σ Q
theorem r_195_74 (ls : a_LS) (st : List Value) (σ : a_HP) (Q : Option Value → a_HP → Prop) : Rn 195 74 ls st σ Q = acR 195 (o_ldi 7 76 ls st σ) ls σ Q := rn_row rfl ls st σ Q
theorem r_195_76 (ls : a_LS) (st : List Value) (σ : a_HP) (Q : Option Value → a_HP → Prop) : Rn 195 76 ls st σ Q = acR 195 (o_ivv 8 191 2 79 ls st σ) ls σ Q := rn_row rfl ls st σ Q
theorem r_195_79 (ls : a_LS) (st : List Value) (σ : a_HP) (Q : Option Value → a_HP → Prop) : Rn 195 79 ls st σ Q = acR 195 (o_eq 142 82 ls st σ) ls σ Q := rn_row rfl ls st σ Q
theorem r_195_82 (ls : a_LS) (st : List Value) (σ : a_HP) (Q : Option Value → a_HP → Prop) : Rn 195 82 ls st σ Q = acR 195 (o_lda 0 83 ls st σ) ls σ Q := rn_row rfl ls st σ Q
theorem r_195_83 (ls : a_LS) (st : List Value) (σ : a_HP) (Q : Option Value → a_HP → Prop) : Rn 195 83 ls st σ Q = acR 195 (o_ldi 2 84 ls st σ) ls σ Q := rn_row rfl ls st σ Q
theorem r_195_84 (ls : a_LS) (st : List Value) (σ : a_HP) (Q : Option Value → a_HP → Prop) : Rn 195 84 ls st σ Q = acR 195 (o_ldi 8 86 ls st σ) ls σ Q := rn_row rfl ls st σ Q
theorem r_195_86 (ls : a_LS) (st : List Value) (σ : a_HP) (Q : Option Value → a_HP → Prop) : Rn 195 86 ls st σ Q = acR 195 (o_ivv 8 191 2 89 ls st σ) ls σ Q := rn_row rfl ls st σ Q
theorem r_195_89 (ls : a_LS) (st : List Value) (σ : a_HP) (Q : Option Value → a_HP → Prop) : Rn 195 89 ls st σ Q = acR 195 (o_eq 142 92 ls st σ) ls σ Q := rn_row rfl ls st σ Q
theorem r_195_92 (ls : a_LS) (st : List Value) (σ : a_HP) (Q : Option Value → a_HP → Prop) : Rn 195 92 ls st σ Q = acR 195 (o_lda 0 93 ls st σ) ls σ Q := rn_row rfl ls st σ Q
theorem r_195_93 (ls : a_LS) (st : List Value) (σ : a_HP) (Q : Option Value → a_HP → Prop) : Rn 195 93 ls st σ Q = acR 195 (o_ldi 1 94 ls st σ) ls σ Q := rn_row rfl ls st σ Q
theorem r_195_94 (ls : a_LS) (st : List Value) (σ : a_HP) (Q : Option Value → a_HP → Prop) : Rn 195 94 ls st σ Q = acR 195 (o_ldi 7 96 ls st σ) ls σ Q := rn_row rfl ls st σ Q
theorem r_195_96 (ls : a_LS) (st : List Value) (σ : a_HP) (Q : Option Value → a_HP → Prop) : Rn 195 96 ls st σ Q = acR 195 (o_ldi 8 98 ls st σ) ls σ Q := rn_row rfl ls st σ Q
theorem r_195_98 (ls : a_LS) (st : List Value) (σ : a_HP) (Q : Option Value → a_HP → Prop) : Rn 195 98 ls st σ Q = acR 195 (o_ldi 3 99 ls st σ) ls σ Q := rn_row rfl ls st σ Q
theorem r_195_99 (ls : a_LS) (st : List Value) (σ : a_HP) (Q : Option Value → a_HP → Prop) : Rn 195 99 ls st σ Q = acR 195 (o_ivv 8 194 4 102 ls st σ) ls σ Q := rn_row rfl ls st σ Q
theorem r_195_102 (ls : a_LS) (st : List Value) (σ : a_HP) (Q : Option Value → a_HP → Prop) : Rn 195 102 ls st σ Q = acR 195 (o_eq 142 105 ls st σ) ls σ Q := rn_row rfl ls st σ Q
theorem r_195_105 (ls : a_LS) (st : List Value) (σ : a_HP) (Q : Option Value → a_HP → Prop) : Rn 195 105 ls st σ Q = acR 195 (o_lda 0 106 ls st σ) ls σ Q := rn_row rfl ls st σ Q
theorem r_195_106 (ls : a_LS) (st : List Value) (σ : a_HP) (Q : Option Value → a_HP → Prop) : Rn 195 106 ls st σ Q = acR 195 (o_ldi 2 107 ls st σ) ls σ Q := rn_row rfl ls st σ Q
theorem r_195_107 (ls : a_LS) (st : List Value) (σ : a_HP) (Q : Option Value → a_HP → Prop) : Rn 195 107 ls st σ Q = acR 195 (o_ldi 8 109 ls st σ) ls σ Q := rn_row rfl ls st σ Q
theorem r_195_109 (ls : a_LS) (st : List Value) (σ : a_HP) (Q : Option Value → a_HP → Prop) : Rn 195 109 ls st σ Q = acR 195 (o_ldi 7 111 ls st σ) ls σ Q := rn_row rfl ls st σ Q
theorem r_195_111 (ls : a_LS) (st : List Value) (σ : a_HP) (Q : Option Value → a_HP → Prop) : Rn 195 111 ls st σ Q = acR 195 (o_ldi 3 112 ls st σ) ls σ Q := rn_row rfl ls st σ Q
theorem r_195_112 (ls : a_LS) (st : List Value) (σ : a_HP) (Q : Option Value → a_HP → Prop) : Rn 195 112 ls st σ Q = acR 195 (o_ivv 8 194 4 115 ls st σ) ls σ Q := rn_row rfl ls st σ Q
theorem r_195_115 (ls : a_LS) (st : List Value) (σ : a_HP) (Q : Option Value → a_HP → Prop) : Rn 195 115 ls st σ Q = acR 195 (o_eq 142 118 ls st σ) ls σ Q := rn_row rfl ls st σ Q
theorem r_195_118 (ls : a_LS) (st : List Value) (σ : a_HP) (Q : Option Value → a_HP → Prop) : Rn 195 118 ls st σ Q = acR 195 (o_ldi 6 120 ls st σ) ls σ Q := rn_row rfl ls st σ Q
theorem r_195_120 (ls : a_LS) (st : List Value) (σ : a_HP) (Q : Option Value → a_HP → Prop) : Rn 195 120 ls st σ Q = acR 195 (o_pi (-1) 121 ls st σ) ls σ Q := rn_row rfl ls st σ Q
theorem r_195_121 (ls : a_LS) (st : List Value) (σ : a_HP) (Q : Option Value → a_HP → Prop) : Rn 195 121 ls st σ Q = acR 195 (o_cne 135 124 ls st σ) ls σ Q := rn_row rfl ls st σ Q
theorem r_195_124 (ls : a_LS) (st : List Value) (σ : a_HP) (Q : Option Value → a_HP → Prop) : Rn 195 124 ls st σ Q = acR 195 (o_pi (nI 17) 126 ls st σ) ls σ Q := rn_row rfl ls st σ Q
theorem r_195_126 (ls : a_LS) (st : List Value) (σ : a_HP) (Q : Option Value → a_HP → Prop) : Rn 195 126 ls st σ Q = acR 195 (o_ldi 7 128 ls st σ) ls σ Q := rn_row rfl ls st σ Q
theorem r_195_128 (ls : a_LS) (st : List Value) (σ : a_HP) (Q : Option Value → a_HP → Prop) : Rn 195 128 ls st σ Q = acR 195 (o_bi f_mul 129 ls st σ) ls σ Q := rn_row rfl ls st σ Q
theorem r_195_129 (ls : a_LS) (st : List Value) (σ : a_HP) (Q : Option Value → a_HP → Prop) : Rn 195 129 ls st σ Q = acR 195 (o_ldi 8 131 ls st σ) ls σ Q := rn_row rfl ls st σ Q
theorem r_195_131 (ls : a_LS) (st : List Value) (σ : a_HP) (Q : Option Value → a_HP → Prop) : Rn 195 131 ls st σ Q = acR 195 (o_bi f_add 132 ls st σ) ls σ Q := rn_row rfl ls st σ Q
theorem r_195_132 (ls : a_LS) (st : List Value) (σ : a_HP) (Q : Option Value → a_HP → Prop) : Rn 195 132 ls st σ Q = acR 195 (o_go 137 ls st σ) ls σ Q := rn_row rfl ls st σ Q
theorem r_195_135 (ls : a_LS) (st : List Value) (σ : a_HP) (Q : Option Value → a_HP → Prop) : Rn 195 135 ls st σ Q = acR 195 (o_ldi 6 137 ls st σ) ls σ Q := rn_row rfl ls st σ Q
theorem r_195_137 (ls : a_LS) (st : List Value) (σ : a_HP) (Q : Option Value → a_HP → Prop) : Rn 195 137 ls st σ Q = acR 195 (o_sti 6 139 ls st σ) ls σ Q := rn_row rfl ls st σ Q
theorem r_195_139 (ls : a_LS) (st : List Value) (σ : a_HP) (Q : Option Value → a_HP → Prop) : Rn 195 139 ls st σ Q = acR 195 (o_inc 5 (nI 1) 142 ls st σ) ls σ Q := rn_row rfl ls st σ Q
theorem r_195_142 (ls : a_LS) (st : List Value) (σ : a_HP) (Q : Option Value → a_HP → Prop) : Rn 195 142 ls st σ Q = acR 195 (o_inc 8 (nI 1) 145 ls st σ) ls σ Q := rn_row rfl ls st σ Q
theorem r_195_145 (ls : a_LS) (st : List Value) (σ : a_HP) (Q : Option Value → a_HP → Prop) : Rn 195 145 ls st σ Q = acR 195 (o_go 65 ls st σ) ls σ Q := rn_row rfl ls st σ Q
theorem r_195_148 (ls : a_LS) (st : List Value) (σ : a_HP) (Q : Option Value → a_HP → Prop) : Rn 195 148 ls st σ Q = acR 195 (o_inc 7 (nI 1) 151 ls st σ) ls σ Q := rn_row rfl ls st σ Q
theorem r_195_151 (ls : a_LS) (st : List Value) (σ : a_HP) (Q : Option Value → a_HP → Prop) : Rn 195 151 ls st σ Q = acR 195 (o_go 55 ls st σ) ls σ Q := rn_row rfl ls st σ Q
theorem r_195_154 (ls : a_LS) (st : List Value) (σ : a_HP) (Q : Option Value → a_HP → Prop) : Rn 195 154 ls st σ Q = acR 195 (o_ldi 4 156 ls st σ) ls σ Q := rn_row rfl ls st σ Q
theorem r_195_156 (ls : a_LS) (st : List Value) (σ : a_HP) (Q : Option Value → a_HP → Prop) : Rn 195 156 ls st σ Q = acR 195 (o_ne 164 159 ls st σ) ls σ Q := rn_row rfl ls st σ Q
theorem r_195_159 (ls : a_LS) (st : List Value) (σ : a_HP) (Q : Option Value → a_HP → Prop) : Rn 195 159 ls st σ Q = acR 195 (o_ldi 5 161 ls st σ) ls σ Q := rn_row rfl ls st σ Q
theorem r_195_161 (ls : a_LS) (st : List Value) (σ : a_HP) (Q : Option Value → a_HP → Prop) : Rn 195 161 ls st σ Q = acR 195 (o_go 166 ls st σ) ls σ Q := rn_row rfl ls st σ Q
theorem r_195_164 (ls : a_LS) (st : List Value) (σ : a_HP) (Q : Option Value → a_HP → Prop) : Rn 195 164 ls st σ Q = acR 195 (o_ldi 6 166 ls st σ) ls σ Q := rn_row rfl ls st σ Q
theorem r_195_166 (ls : a_LS) (st : List Value) (σ : a_HP) (Q : Option Value → a_HP → Prop) : Rn 195 166 ls st σ Q = acR 195 (o_ri ls st σ) ls σ Q := rn_row rfl ls st σ Q
/-! 196: NetLawModel.fraction(JJ)V -/
theorem cl_196 (x0 : Nat) (x1 : Int64) (x2 : Int64) (σ : a_HP) (Q : Option Value → a_HP → Prop) : Cl 196 [.ref x0, .long x1, .long x2] σ Q = Rn 196 0 [some (.ref x0), some (.long x1), none, some (.long x2), none, none, none, none, none, none, none] [] σ Q := cl_of (Nat.le_of_ble_eq_true rfl) rfl σ Q
theorem r_196_0 (ls : a_LS) (st : List Value) (σ : a_HP) (Q : Option Value → a_HP → Prop) : Rn 196 0 ls st σ Q = acR 196 (o_ldl 1 1 ls st σ) ls σ Q := rn_row rfl ls st σ Q
theorem r_196_1 (ls : a_LS) (st : List Value) (σ : a_HP) (Q : Option Value → a_HP → Prop) : Rn 196 1 ls st σ Q = acR 196 (o_stl 5 3 ls st σ) ls σ Q := rn_row rfl ls st σ Q
theorem r_196_3 (ls : a_LS) (st : List Value) (σ : a_HP) (Q : Option Value → a_HP → Prop) : Rn 196 3 ls st σ Q = acR 196 (o_ldl 3 4 ls st σ) ls σ Q := rn_row rfl ls st σ Q
theorem r_196_4 (ls : a_LS) (st : List Value) (σ : a_HP) (Q : Option Value → a_HP → Prop) : Rn 196 4 ls st σ Q = acR 196 (o_stl 7 6 ls st σ) ls σ Q := rn_row rfl ls st σ Q
theorem r_196_6 (ls : a_LS) (st : List Value) (σ : a_HP) (Q : Option Value → a_HP → Prop) : Rn 196 6 ls st σ Q = acR 196 (o_ldl 7 8 ls st σ) ls σ Q := rn_row rfl ls st σ Q
theorem r_196_8 (ls : a_LS) (st : List Value) (σ : a_HP) (Q : Option Value → a_HP → Prop) : Rn 196 8 ls st σ Q = acR 196 (o_pl (lN 0) 9 ls st σ) ls σ Q := rn_row rfl ls st σ Q
theorem r_196_9 (ls : a_LS) (st : List Value) (σ : a_HP) (Q : Option Value → a_HP → Prop) : Rn 196 9 ls st σ Q = acR 196 (o_lcmp 10 ls st σ) ls σ Q := rn_row rfl ls st σ Q
theorem r_196_10 (ls : a_LS) (st : List Value) (σ : a_HP) (Q : Option Value → a_HP → Prop) : Rn 196 10 ls st σ Q = acR 196 (o_eq 31 13 ls st σ) ls σ Q := rn_row rfl ls st σ Q
theorem r_196_13 (ls : a_LS) (st : List Value) (σ : a_HP) (Q : Option Value → a_HP → Prop) : Rn 196 13 ls st σ Q = acR 196 (o_ldl 5 15 ls st σ) ls σ Q := rn_row rfl ls st σ Q
theorem r_196_15 (ls : a_LS) (st : List Value) (σ : a_HP) (Q : Option Value → a_HP → Prop) : Rn 196 15 ls st σ Q = acR 196 (o_ldl 7 17 ls st σ) ls σ Q := rn_row rfl ls st σ Q
theorem r_196_17 (ls : a_LS) (st : List Value) (σ : a_HP) (Q : Option Value → a_HP → Prop) : Rn 196 17 ls st σ Q = acR 196 (o_bm g_rem 18 ls st σ) ls σ Q := rn_row rfl ls st σ Q
theorem r_196_18 (ls : a_LS) (st : List Value) (σ : a_HP) (Q : Option Value → a_HP → Prop) : Rn 196 18 ls st σ Q = acR 196 (o_stl 9 20 ls st σ) ls σ Q := rn_row rfl ls st σ Q
theorem r_196_20 (ls : a_LS) (st : List Value) (σ : a_HP) (Q : Option Value → a_HP → Prop) : Rn 196 20 ls st σ Q = acR 196 (o_ldl 7 22 ls st σ) ls σ Q := rn_row rfl ls st σ Q
theorem r_196_22 (ls : a_LS) (st : List Value) (σ : a_HP) (Q : Option Value → a_HP → Prop) : Rn 196 22 ls st σ Q = acR 196 (o_stl 5 24 ls st σ) ls σ Q := rn_row rfl ls st σ Q
theorem r_196_24 (ls : a_LS) (st : List Value) (σ : a_HP) (Q : Option Value → a_HP → Prop) : Rn 196 24 ls st σ Q = acR 196 (o_ldl 9 26 ls st σ) ls σ Q := rn_row rfl ls st σ Q
theorem r_196_26 (ls : a_LS) (st : List Value) (σ : a_HP) (Q : Option Value → a_HP → Prop) : Rn 196 26 ls st σ Q = acR 196 (o_stl 7 28 ls st σ) ls σ Q := rn_row rfl ls st σ Q
theorem r_196_28 (ls : a_LS) (st : List Value) (σ : a_HP) (Q : Option Value → a_HP → Prop) : Rn 196 28 ls st σ Q = acR 196 (o_go 6 ls st σ) ls σ Q := rn_row rfl ls st σ Q
theorem r_196_31 (ls : a_LS) (st : List Value) (σ : a_HP) (Q : Option Value → a_HP → Prop) : Rn 196 31 ls st σ Q = acR 196 (o_lda 0 32 ls st σ) ls σ Q := rn_row rfl ls st σ Q
theorem r_196_32 (ls : a_LS) (st : List Value) (σ : a_HP) (Q : Option Value → a_HP → Prop) : Rn 196 32 ls st σ Q = acR 196 (o_ldl 1 33 ls st σ) ls σ Q := rn_row rfl ls st σ Q
theorem r_196_33 (ls : a_LS) (st : List Value) (σ : a_HP) (Q : Option Value → a_HP → Prop) : Rn 196 33 ls st σ Q = acR 196 (o_ldl 5 35 ls st σ) ls σ Q := rn_row rfl ls st σ Q
theorem r_196_35 (ls : a_LS) (st : List Value) (σ : a_HP) (Q : Option Value → a_HP → Prop) : Rn 196 35 ls st σ Q = acR 196 (o_bm g_div 36 ls st σ) ls σ Q := rn_row rfl ls st σ Q
theorem r_196_36 (ls : a_LS) (st : List Value) (σ : a_HP) (Q : Option Value → a_HP → Prop) : Rn 196 36 ls st σ Q = acR 196 (o_putl 8 7 39 ls st σ) ls σ Q := rn_row rfl ls st σ Q
theorem r_196_39 (ls : a_LS) (st : List Value) (σ : a_HP) (Q : Option Value → a_HP → Prop) : Rn 196 39 ls st σ Q = acR 196 (o_lda 0 40 ls st σ) ls σ Q := rn_row rfl ls st σ Q
theorem r_196_40 (ls : a_LS) (st : List Value) (σ : a_HP) (Q : Option Value → a_HP → Prop) : Rn 196 40 ls st σ Q = acR 196 (o_ldl 3 41 ls st σ) ls σ Q := rn_row rfl ls st σ Q
theorem r_196_41 (ls : a_LS) (st : List Value) (σ : a_HP) (Q : Option Value → a_HP → Prop) : Rn 196 41 ls st σ Q = acR 196 (o_ldl 5 43 ls st σ) ls σ Q := rn_row rfl ls st σ Q
theorem r_196_43 (ls : a_LS) (st : List Value) (σ : a_HP) (Q : Option Value → a_HP → Prop) : Rn 196 43 ls st σ Q = acR 196 (o_bm g_div 44 ls st σ) ls σ Q := rn_row rfl ls st σ Q
theorem r_196_44 (ls : a_LS) (st : List Value) (σ : a_HP) (Q : Option Value → a_HP → Prop) : Rn 196 44 ls st σ Q = acR 196 (o_putl 8 8 47 ls st σ) ls σ Q := rn_row rfl ls st σ Q
theorem r_196_47 (ls : a_LS) (st : List Value) (σ : a_HP) (Q : Option Value → a_HP → Prop) : Rn 196 47 ls st σ Q = acR 196 (o_rv ls st σ) ls σ Q := rn_row rfl ls st σ Q
/-! 197: NetLawModel.odds(II)I -/
theorem cl_197 (x0 : Nat) (x1 : Int32) (x2 : Int32) (σ : a_HP) (Q : Option Value → a_HP → Prop) : Cl 197 [.ref x0, .int x1, .int x2] σ Q = Rn 197 0 [some (.ref x0), some (.int x1), some (.int x2), none, none, none, none, none, none, none, none, none, none] [] σ Q := cl_of (Nat.le_of_ble_eq_true rfl) rfl σ Q
theorem r_197_0 (ls : a_LS) (st : List Value) (σ : a_HP) (Q : Option Value → a_HP → Prop) : Rn 197 0 ls st σ Q = acR 197 (o_ldi 1 1 ls st σ) ls σ Q := rn_row rfl ls st σ Q
theorem r_197_1 (ls : a_LS) (st : List Value) (σ : a_HP) (Q : Option Value → a_HP → Prop) : Rn 197 1 ls st σ Q = acR 197 (o_ivs 142 1 4 ls st σ) ls σ Q := rn_row rfl ls st σ Q
theorem r_197_4 (ls : a_LS) (st : List Value) (σ : a_HP) (Q : Option Value → a_HP → Prop) : Rn 197 4 ls st σ Q = acR 197 (o_eq 19 7 ls st σ) ls σ Q := rn_row rfl ls st σ Q
theorem r_197_7 (ls : a_LS) (st : List Value) (σ : a_HP) (Q : Option Value → a_HP → Prop) : Rn 197 7 ls st σ Q = acR 197 (o_ldi 2 8 ls st σ) ls σ Q := rn_row rfl ls st σ Q
theorem r_197_8 (ls : a_LS) (st : List Value) (σ : a_HP) (Q : Option Value → a_HP → Prop) : Rn 197 8 ls st σ Q = acR 197 (o_i2l 9 ls st σ) ls σ Q := rn_row rfl ls st σ Q
theorem r_197_9 (ls : a_LS) (st : List Value) (σ : a_HP) (Q : Option Value → a_HP → Prop) : Rn 197 9 ls st σ Q = acR 197 (o_pl (lN 0) 10 ls st σ) ls σ Q := rn_row rfl ls st σ Q
theorem r_197_10 (ls : a_LS) (st : List Value) (σ : a_HP) (Q : Option Value → a_HP → Prop) : Rn 197 10 ls st σ Q = acR 197 (o_pl (lN 10) 13 ls st σ) ls σ Q := rn_row rfl ls st σ Q
theorem r_197_13 (ls : a_LS) (st : List Value) (σ : a_HP) (Q : Option Value → a_HP → Prop) : Rn 197 13 ls st σ Q = acR 197 (o_ivs 122 3 16 ls st σ) ls σ Q := rn_row rfl ls st σ Q
theorem r_197_16 (ls : a_LS) (st : List Value) (σ : a_HP) (Q : Option Value → a_HP → Prop) : Rn 197 16 ls st σ Q = acR 197 (o_ne 24 19 ls st σ) ls σ Q := rn_row rfl ls st σ Q
theorem r_197_19 (ls : a_LS) (st : List Value) (σ : a_HP) (Q : Option Value → a_HP → Prop) : Rn 197 19 ls st σ Q = acR 197 (o_lda 0 20 ls st σ) ls σ Q := rn_row rfl ls st σ Q
theorem r_197_20 (ls : a_LS) (st : List Value) (σ : a_HP) (Q : Option Value → a_HP → Prop) : Rn 197 20 ls st σ Q = acR 197 (o_ivv 8 125 0 23 ls st σ) ls σ Q := rn_row rfl ls st σ Q
theorem r_197_23 (ls : a_LS) (st : List Value) (σ : a_HP) (Q : Option Value → a_HP → Prop) : Rn 197 23 ls st σ Q = acR 197 (o_ri ls st σ) ls σ Q := rn_row rfl ls st σ Q
theorem r_197_24 (ls : a_LS) (st : List Value) (σ : a_HP) (Q : Option Value → a_HP → Prop) : Rn 197 24 ls st σ Q = acR 197 (o_pi (nI 0) 25 ls st σ) ls σ Q := rn_row rfl ls st σ Q
theorem r_197_25 (ls : a_LS) (st : List Value) (σ : a_HP) (Q : Option Value → a_HP → Prop) : Rn 197 25 ls st σ Q = acR 197 (o_sti 3 26 ls st σ) ls σ Q := rn_row rfl ls st σ Q
theorem r_197_26 (ls : a_LS) (st : List Value) (σ : a_HP) (Q : Option Value → a_HP → Prop) : Rn 197 26 ls st σ Q = acR 197 (o_pi (nI 0) 27 ls st σ) ls σ Q := rn_row rfl ls st σ Q
theorem r_197_27 (ls : a_LS) (st : List Value) (σ : a_HP) (Q : Option Value → a_HP → Prop) : Rn 197 27 ls st σ Q = acR 197 (o_sti 4 29 ls st σ) ls σ Q := rn_row rfl ls st σ Q
theorem r_197_29 (ls : a_LS) (st : List Value) (σ : a_HP) (Q : Option Value → a_HP → Prop) : Rn 197 29 ls st σ Q = acR 197 (o_ldi 4 31 ls st σ) ls σ Q := rn_row rfl ls st σ Q
theorem r_197_31 (ls : a_LS) (st : List Value) (σ : a_HP) (Q : Option Value → a_HP → Prop) : Rn 197 31 ls st σ Q = acR 197 (o_pi (nI 4) 32 ls st σ) ls σ Q := rn_row rfl ls st σ Q
theorem r_197_32 (ls : a_LS) (st : List Value) (σ : a_HP) (Q : Option Value → a_HP → Prop) : Rn 197 32 ls st σ Q = acR 197 (o_cge 77 35 ls st σ) ls σ Q := rn_row rfl ls st σ Q
theorem r_197_35 (ls : a_LS) (st : List Value) (σ : a_HP) (Q : Option Value → a_HP → Prop) : Rn 197 35 ls st σ Q = acR 197 (o_ldi 1 36 ls st σ) ls σ Q := rn_row rfl ls st σ Q
theorem r_197_36 (ls : a_LS) (st : List Value) (σ : a_HP) (Q : Option Value → a_HP → Prop) : Rn 197 36 ls st σ Q = acR 197 (o_ldi 4 38 ls st σ) ls σ Q := rn_row rfl ls st σ Q
theorem r_197_38 (ls : a_LS) (st : List Value) (σ : a_HP) (Q : Option Value → a_HP → Prop) : Rn 197 38 ls st σ Q = acR 197 (o_ivs 136 2 41 ls st σ) ls σ Q := rn_row rfl ls st σ Q
theorem r_197_41 (ls : a_LS) (st : List Value) (σ : a_HP) (Q : Option Value → a_HP → Prop) : Rn 197 41 ls st σ Q = acR 197 (o_sti 5 43 ls st σ) ls σ Q := rn_row rfl ls st σ Q
theorem r_197_43 (ls : a_LS) (st : List Value) (σ : a_HP) (Q : Option Value → a_HP → Prop) : Rn 197 43 ls st σ Q = acR 197 (o_ldi 3 44 ls st σ) ls σ Q := rn_row rfl ls st σ Q
theorem r_197_44 (ls : a_LS) (st : List Value) (σ : a_HP) (Q : Option Value → a_HP → Prop) : Rn 197 44 ls st σ Q = acR 197 (o_pi (nI 1) 45 ls st σ) ls σ Q := rn_row rfl ls st σ Q
theorem r_197_45 (ls : a_LS) (st : List Value) (σ : a_HP) (Q : Option Value → a_HP → Prop) : Rn 197 45 ls st σ Q = acR 197 (o_ldi 5 47 ls st σ) ls σ Q := rn_row rfl ls st σ Q
theorem r_197_47 (ls : a_LS) (st : List Value) (σ : a_HP) (Q : Option Value → a_HP → Prop) : Rn 197 47 ls st σ Q = acR 197 (o_bi f_shl 48 ls st σ) ls σ Q := rn_row rfl ls st σ Q
theorem r_197_48 (ls : a_LS) (st : List Value) (σ : a_HP) (Q : Option Value → a_HP → Prop) : Rn 197 48 ls st σ Q = acR 197 (o_bi f_or 49 ls st σ) ls σ Q := rn_row rfl ls st σ Q
theorem r_197_49 (ls : a_LS) (st : List Value) (σ : a_HP) (Q : Option Value → a_HP → Prop) : Rn 197 49 ls st σ Q = acR 197 (o_sti 3 50 ls st σ) ls σ Q := rn_row rfl ls st σ Q
theorem r_197_50 (ls : a_LS) (st : List Value) (σ : a_HP) (Q : Option Value → a_HP → Prop) : Rn 197 50 ls st σ Q = acR 197 (o_ldi 3 51 ls st σ) ls σ Q := rn_row rfl ls st σ Q
theorem r_197_51 (ls : a_LS) (st : List Value) (σ : a_HP) (Q : Option Value → a_HP → Prop) : Rn 197 51 ls st σ Q = acR 197 (o_ldi 5 53 ls st σ) ls σ Q := rn_row rfl ls st σ Q
theorem r_197_53 (ls : a_LS) (st : List Value) (σ : a_HP) (Q : Option Value → a_HP → Prop) : Rn 197 53 ls st σ Q = acR 197 (o_pi (nI 4) 54 ls st σ) ls σ Q := rn_row rfl ls st σ Q
theorem r_197_54 (ls : a_LS) (st : List Value) (σ : a_HP) (Q : Option Value → a_HP → Prop) : Rn 197 54 ls st σ Q = acR 197 (o_bd f_rem 55 ls st σ) ls σ Q := rn_row rfl ls st σ Q
theorem r_197_55 (ls : a_LS) (st : List Value) (σ : a_HP) (Q : Option Value → a_HP → Prop) : Rn 197 55 ls st σ Q = acR 197 (o_pi (nI 3) 56 ls st σ) ls σ Q := rn_row rfl ls st σ Q
theorem r_197_56 (ls : a_LS) (st : List Value) (σ : a_HP) (Q : Option Value → a_HP → Prop) : Rn 197 56 ls st σ Q = acR 197 (o_cge 68 59 ls st σ) ls σ Q := rn_row rfl ls st σ Q
theorem r_197_59 (ls : a_LS) (st : List Value) (σ : a_HP) (Q : Option Value → a_HP → Prop) : Rn 197 59 ls st σ Q = acR 197 (o_pi (nI 1) 60 ls st σ) ls σ Q := rn_row rfl ls st σ Q
theorem r_197_60 (ls : a_LS) (st : List Value) (σ : a_HP) (Q : Option Value → a_HP → Prop) : Rn 197 60 ls st σ Q = acR 197 (o_ldi 5 62 ls st σ) ls σ Q := rn_row rfl ls st σ Q
theorem r_197_62 (ls : a_LS) (st : List Value) (σ : a_HP) (Q : Option Value → a_HP → Prop) : Rn 197 62 ls st σ Q = acR 197 (o_pi (nI 1) 63 ls st σ) ls σ Q := rn_row rfl ls st σ Q
theorem r_197_63 (ls : a_LS) (st : List Value) (σ : a_HP) (Q : Option Value → a_HP → Prop) : Rn 197 63 ls st σ Q = acR 197 (o_bi f_add 64 ls st σ) ls σ Q := rn_row rfl ls st σ Q
theorem r_197_64 (ls : a_LS) (st : List Value) (σ : a_HP) (Q : Option Value → a_HP → Prop) : Rn 197 64 ls st σ Q = acR 197 (o_bi f_shl 65 ls st σ) ls σ Q := rn_row rfl ls st σ Q
theorem r_197_65 (ls : a_LS) (st : List Value) (σ : a_HP) (Q : Option Value → a_HP → Prop) : Rn 197 65 ls st σ Q = acR 197 (o_go 69 ls st σ) ls σ Q := rn_row rfl ls st σ Q
theorem r_197_68 (ls : a_LS) (st : List Value) (σ : a_HP) (Q : Option Value → a_HP → Prop) : Rn 197 68 ls st σ Q = acR 197 (o_pi (nI 0) 69 ls st σ) ls σ Q := rn_row rfl ls st σ Q
theorem r_197_69 (ls : a_LS) (st : List Value) (σ : a_HP) (Q : Option Value → a_HP → Prop) : Rn 197 69 ls st σ Q = acR 197 (o_bi f_or 70 ls st σ) ls σ Q := rn_row rfl ls st σ Q
theorem r_197_70 (ls : a_LS) (st : List Value) (σ : a_HP) (Q : Option Value → a_HP → Prop) : Rn 197 70 ls st σ Q = acR 197 (o_sti 3 71 ls st σ) ls σ Q := rn_row rfl ls st σ Q
theorem r_197_71 (ls : a_LS) (st : List Value) (σ : a_HP) (Q : Option Value → a_HP → Prop) : Rn 197 71 ls st σ Q = acR 197 (o_inc 4 (nI 1) 74 ls st σ) ls σ Q := rn_row rfl ls st σ Q
theorem r_197_74 (ls : a_LS) (st : List Value) (σ : a_HP) (Q : Option Value → a_HP → Prop) : Rn 197 74 ls st σ Q = acR 197 (o_go 29 ls st σ) ls σ Q := rn_row rfl ls st σ Q
theorem r_197_77 (ls : a_LS) (st : List Value) (σ : a_HP) (Q : Option Value → a_HP → Prop) : Rn 197 77 ls st σ Q = acR 197 (o_pi (nI 0) 78 ls st σ) ls σ Q := rn_row rfl ls st σ Q
theorem r_197_78 (ls : a_LS) (st : List Value) (σ : a_HP) (Q : Option Value → a_HP → Prop) : Rn 197 78 ls st σ Q = acR 197 (o_sti 4 80 ls st σ) ls σ Q := rn_row rfl ls st σ Q
theorem r_197_80 (ls : a_LS) (st : List Value) (σ : a_HP) (Q : Option Value → a_HP → Prop) : Rn 197 80 ls st σ Q = acR 197 (o_pl (lN 1) 81 ls st σ) ls σ Q := rn_row rfl ls st σ Q
theorem r_197_81 (ls : a_LS) (st : List Value) (σ : a_HP) (Q : Option Value → a_HP → Prop) : Rn 197 81 ls st σ Q = acR 197 (o_stl 5 83 ls st σ) ls σ Q := rn_row rfl ls st σ Q
theorem r_197_83 (ls : a_LS) (st : List Value) (σ : a_HP) (Q : Option Value → a_HP → Prop) : Rn 197 83 ls st σ Q = acR 197 (o_pi (nI 0) 84 ls st σ) ls σ Q := rn_row rfl ls st σ Q
theorem r_197_84 (ls : a_LS) (st : List Value) (σ : a_HP) (Q : Option Value → a_HP → Prop) : Rn 197 84 ls st σ Q = acR 197 (o_sti 7 86 ls st σ) ls σ Q := rn_row rfl ls st σ Q
theorem r_197_86 (ls : a_LS) (st : List Value) (σ : a_HP) (Q : Option Value → a_HP → Prop) : Rn 197 86 ls st σ Q = acR 197 (o_ldi 7 88 ls st σ) ls σ Q := rn_row rfl ls st σ Q
theorem r_197_88 (ls : a_LS) (st : List Value) (σ : a_HP) (Q : Option Value → a_HP → Prop) : Rn 197 88 ls st σ Q = acR 197 (o_pi (nI 16) 90 ls st σ) ls σ Q := rn_row rfl ls st σ Q
theorem r_197_90 (ls : a_LS) (st : List Value) (σ : a_HP) (Q : Option Value → a_HP → Prop) : Rn 197 90 ls st σ Q = acR 197 (o_cge 128 93 ls st σ) ls σ Q := rn_row rfl ls st σ Q
theorem r_197_93 (ls : a_LS) (st : List Value) (σ : a_HP) (Q : Option Value → a_HP → Prop) : Rn 197 93 ls st σ Q = acR 197 (o_ldi 3 94 ls st σ) ls σ Q := rn_row rfl ls st σ Q
theorem r_197_94 (ls : a_LS) (st : List Value) (σ : a_HP) (Q : Option Value → a_HP → Prop) : Rn 197 94 ls st σ Q = acR 197 (o_ldi 7 96 ls st σ) ls σ Q := rn_row rfl ls st σ Q
theorem r_197_96 (ls : a_LS) (st : List Value) (σ : a_HP) (Q : Option Value → a_HP → Prop) : Rn 197 96 ls st σ Q = acR 197 (o_ivs 123 2 99 ls st σ) ls σ Q := rn_row rfl ls st σ Q
theorem r_197_99 (ls : a_LS) (st : List Value) (σ : a_HP) (Q : Option Value → a_HP → Prop) : Rn 197 99 ls st σ Q = acR 197 (o_eq 122 102 ls st σ) ls σ Q := rn_row rfl ls st σ Q
theorem r_197_102 (ls : a_LS) (st : List Value) (σ : a_HP) (Q : Option Value → a_HP → Prop) : Rn 197 102 ls st σ Q = acR 197 (o_lda 0 103 ls st σ) ls σ Q := rn_row rfl ls st σ Q
theorem r_197_103 (ls : a_LS) (st : List Value) (σ : a_HP) (Q : Option Value → a_HP → Prop) : Rn 197 103 ls st σ Q = acR 197 (o_get 8 17 106 ls st σ) ls σ Q := rn_row rfl ls st σ Q
theorem r_197_106 (ls : a_LS) (st : List Value) (σ : a_HP) (Q : Option Value → a_HP → Prop) : Rn 197 106 ls st σ Q = acR 197 (o_ldi 4 108 ls st σ) ls σ Q := rn_row rfl ls st σ Q
theorem r_197_108 (ls : a_LS) (st : List Value) (σ : a_HP) (Q : Option Value → a_HP → Prop) : Rn 197 108 ls st σ Q = acR 197 (o_ldi 7 110 ls st σ) ls σ Q := rn_row rfl ls st σ Q
theorem r_197_110 (ls : a_LS) (st : List Value) (σ : a_HP) (Q : Option Value → a_HP → Prop) : Rn 197 110 ls st σ Q = acR 197 (o_ias 111 ls st σ) ls σ Q := rn_row rfl ls st σ Q
theorem r_197_111 (ls : a_LS) (st : List Value) (σ : a_HP) (Q : Option Value → a_HP → Prop) : Rn 197 111 ls st σ Q = acR 197 (o_inc 4 (nI 1) 114 ls st σ) ls σ Q := rn_row rfl ls st σ Q
theorem r_197_114 (ls : a_LS) (st : List Value) (σ : a_HP) (Q : Option Value → a_HP → Prop) : Rn 197 114 ls st σ Q = acR 197 (o_ldl 5 116 ls st σ) ls σ Q := rn_row rfl ls st σ Q
theorem r_197_116 (ls : a_LS) (st : List Value) (σ : a_HP) (Q : Option Value → a_HP → Prop) : Rn 197 116 ls st σ Q = acR 197 (o_pl (lN 10) 119 ls st σ) ls σ Q := rn_row rfl ls st σ Q
theorem r_197_119 (ls : a_LS) (st : List Value) (σ : a_HP) (Q : Option Value → a_HP → Prop) : Rn 197 119 ls st σ Q = acR 197 (o_bl g_mul 120 ls st σ) ls σ Q := rn_row rfl ls st σ Q
theorem r_197_120 (ls : a_LS) (st : List Value) (σ : a_HP) (Q : Option Value → a_HP → Prop) : Rn 197 120 ls st σ Q = acR 197 (o_stl 5 122 ls st σ) ls σ Q := rn_row rfl ls st σ Q
theorem r_197_122 (ls : a_LS) (st : List Value) (σ : a_HP) (Q : Option Value → a_HP → Prop) : Rn 197 122 ls st σ Q = acR 197 (o_inc 7 (nI 1) 125 ls st σ) ls σ Q := rn_row rfl ls st σ Q
theorem r_197_125 (ls : a_LS) (st : List Value) (σ : a_HP) (Q : Option Value → a_HP → Prop) : Rn 197 125 ls st σ Q = acR 197 (o_go 86 ls st σ) ls σ Q := rn_row rfl ls st σ Q
theorem r_197_128 (ls : a_LS) (st : List Value) (σ : a_HP) (Q : Option Value → a_HP → Prop) : Rn 197 128 ls st σ Q = acR 197 (o_pl (lN 0) 129 ls st σ) ls σ Q := rn_row rfl ls st σ Q
theorem r_197_129 (ls : a_LS) (st : List Value) (σ : a_HP) (Q : Option Value → a_HP → Prop) : Rn 197 129 ls st σ Q = acR 197 (o_stl 7 131 ls st σ) ls σ Q := rn_row rfl ls st σ Q
theorem r_197_131 (ls : a_LS) (st : List Value) (σ : a_HP) (Q : Option Value → a_HP → Prop) : Rn 197 131 ls st σ Q = acR 197 (o_pi (nI 0) 132 ls st σ) ls σ Q := rn_row rfl ls st σ Q
theorem r_197_132 (ls : a_LS) (st : List Value) (σ : a_HP) (Q : Option Value → a_HP → Prop) : Rn 197 132 ls st σ Q = acR 197 (o_sti 9 134 ls st σ) ls σ Q := rn_row rfl ls st σ Q
theorem r_197_134 (ls : a_LS) (st : List Value) (σ : a_HP) (Q : Option Value → a_HP → Prop) : Rn 197 134 ls st σ Q = acR 197 (o_ldi 9 136 ls st σ) ls σ Q := rn_row rfl ls st σ Q
theorem r_197_136 (ls : a_LS) (st : List Value) (σ : a_HP) (Q : Option Value → a_HP → Prop) : Rn 197 136 ls st σ Q = acR 197 (o_pi (nI 1) 137 ls st σ) ls σ Q := rn_row rfl ls st σ Q
theorem r_197_137 (ls : a_LS) (st : List Value) (σ : a_HP) (Q : Option Value → a_HP → Prop) : Rn 197 137 ls st σ Q = acR 197 (o_ldi 4 139 ls st σ) ls σ Q := rn_row rfl ls st σ Q
theorem r_197_139 (ls : a_LS) (st : List Value) (σ : a_HP) (Q : Option Value → a_HP → Prop) : Rn 197 139 ls st σ Q = acR 197 (o_bi f_shl 140 ls st σ) ls σ Q := rn_row rfl ls st σ Q
theorem r_197_140 (ls : a_LS) (st : List Value) (σ : a_HP) (Q : Option Value → a_HP → Prop) : Rn 197 140 ls st σ Q = acR 197 (o_cge 245 143 ls st σ) ls σ Q := rn_row rfl ls st σ Q
theorem r_197_143 (ls : a_LS) (st : List Value) (σ : a_HP) (Q : Option Value → a_HP → Prop) : Rn 197 143 ls st σ Q = acR 197 (o_lda 0 144 ls st σ) ls σ Q := rn_row rfl ls st σ Q
theorem r_197_144 (ls : a_LS) (st : List Value) (σ : a_HP) (Q : Option Value → a_HP → Prop) : Rn 197 144 ls st σ Q = acR 197 (o_ivv 8 170 0 147 ls st σ) ls σ Q := rn_row rfl ls st σ Q
theorem r_197_147 (ls : a_LS) (st : List Value) (σ : a_HP) (Q : Option Value → a_HP → Prop) : Rn 197 147 ls st σ Q = acR 197 (o_pl (lN 1) 148 ls st σ) ls σ Q := rn_row rfl ls st σ Q
theorem r_197_148 (ls : a_LS) (st : List Value) (σ : a_HP) (Q : Option Value → a_HP → Prop) : Rn 197 148 ls st σ Q = acR 197 (o_stl 10 150 ls st σ) ls σ Q := rn_row rfl ls st σ Q
theorem r_197_150 (ls : a_LS) (st : List Value) (σ : a_HP) (Q : Option Value → a_HP → Prop) : Rn 197 150 ls st σ Q = acR 197 (o_pi (nI 0) 151 ls st σ) ls σ Q := rn_row rfl ls st σ Q
theorem r_197_151 (ls : a_LS) (st : List Value) (σ : a_HP) (Q : Option Value → a_HP → Prop) : Rn 197 151 ls st σ Q = acR 197 (o_sti 12 153 ls st σ) ls σ Q := rn_row rfl ls st σ Q
theorem r_197_153 (ls : a_LS) (st : List Value) (σ : a_HP) (Q : Option Value → a_HP → Prop) : Rn 197 153 ls st σ Q = acR 197 (o_ldi 12 155 ls st σ) ls σ Q := rn_row rfl ls st σ Q
theorem r_197_155 (ls : a_LS) (st : List Value) (σ : a_HP) (Q : Option Value → a_HP → Prop) : Rn 197 155 ls st σ Q = acR 197 (o_ldi 4 157 ls st σ) ls σ Q := rn_row rfl ls st σ Q
theorem r_197_157 (ls : a_LS) (st : List Value) (σ : a_HP) (Q : Option Value → a_HP → Prop) : Rn 197 157 ls st σ Q = acR 197 (o_cge 217 160 ls st σ) ls σ Q := rn_row rfl ls st σ Q
theorem r_197_160 (ls : a_LS) (st : List Value) (σ : a_HP) (Q : Option Value → a_HP → Prop) : Rn 197 160 ls st σ Q = acR 197 (o_ldl 10 162 ls st σ) ls σ Q := rn_row rfl ls st σ Q
theorem r_197_162 (ls : a_LS) (st : List Value) (σ : a_HP) (Q : Option Value → a_HP → Prop) : Rn 197 162 ls st σ Q = acR 197 (o_ldi 9 164 ls st σ) ls σ Q := rn_row rfl ls st σ Q
theorem r_197_164 (ls : a_LS) (st : List Value) (σ : a_HP) (Q : Option Value → a_HP → Prop) : Rn 197 164 ls st σ Q = acR 197 (o_ldi 12 166 ls st σ) ls σ Q := rn_row rfl ls st σ Q
theorem r_197_166 (ls : a_LS) (st : List Value) (σ : a_HP) (Q : Option Value → a_HP → Prop) : Rn 197 166 ls st σ Q = acR 197 (o_ivs 123 2 169 ls st σ) ls σ Q := rn_row rfl ls st σ Q
theorem r_197_169 (ls : a_LS) (st : List Value) (σ : a_HP) (Q : Option Value → a_HP → Prop) : Rn 197 169 ls st σ Q = acR 197 (o_eq 177 172 ls st σ) ls σ Q := rn_row rfl ls st σ Q
theorem r_197_172 (ls : a_LS) (st : List Value) (σ : a_HP) (Q : Option Value → a_HP → Prop) : Rn 197 172 ls st σ Q = acR 197 (o_ldi 2 173 ls st σ) ls σ Q := rn_row rfl ls st σ Q
theorem r_197_173 (ls : a_LS) (st : List Value) (σ : a_HP) (Q : Option Value → a_HP → Prop) : Rn 197 173 ls st σ Q = acR 197 (o_i2l 174 ls st σ) ls σ Q := rn_row rfl ls st σ Q
theorem r_197_174 (ls : a_LS) (st : List Value) (σ : a_HP) (Q : Option Value → a_HP → Prop) : Rn 197 174 ls st σ Q = acR 197 (o_go 182 ls st σ) ls σ Q := rn_row rfl ls st σ Q
theorem r_197_177 (ls : a_LS) (st : List Value) (σ : a_HP) (Q : Option Value → a_HP → Prop) : Rn 197 177 ls st σ Q = acR 197 (o_pi (nI 10) 179 ls st σ) ls σ Q := rn_row rfl ls st σ Q
theorem r_197_179 (ls : a_LS) (st : List Value) (σ : a_HP) (Q : Option Value → a_HP → Prop) : Rn 197 179 ls st σ Q = acR 197 (o_ldi 2 180 ls st σ) ls σ Q := rn_row rfl ls st σ Q
theorem r_197_180 (ls : a_LS) (st : List Value) (σ : a_HP) (Q : Option Value → a_HP → Prop) : Rn 197 180 ls st σ Q = acR 197 (o_bi f_sub 181 ls st σ) ls σ Q := rn_row rfl ls st σ Q
theorem r_197_181 (ls : a_LS) (st : List Value) (σ : a_HP) (Q : Option Value → a_HP → Prop) : Rn 197 181 ls st σ Q = acR 197 (o_i2l 182 ls st σ) ls σ Q := rn_row rfl ls st σ Q
theorem r_197_182 (ls : a_LS) (st : List Value) (σ : a_HP) (Q : Option Value → a_HP → Prop) : Rn 197 182 ls st σ Q = acR 197 (o_bl g_mul 183 ls st σ) ls σ Q := rn_row rfl ls st σ Q
theorem r_197_183 (ls : a_LS) (st : List Value) (σ : a_HP) (Q : Option Value → a_HP → Prop) : Rn 197 183 ls st σ Q = acR 197 (o_stl 10 185 ls st σ) ls σ Q := rn_row rfl ls st σ Q
theorem r_197_185 (ls : a_LS) (st : List Value) (σ : a_HP) (Q : Option Value → a_HP → Prop) : Rn 197 185 ls st σ Q = acR 197 (o_ldi 9 187 ls st σ) ls σ Q := rn_row rfl ls st σ Q
theorem r_197_187 (ls : a_LS) (st : List Value) (σ : a_HP) (Q : Option Value → a_HP → Prop) : Rn 197 187 ls st σ Q = acR 197 (o_ldi 12 189 ls st σ) ls σ Q := rn_row rfl ls st σ Q
theorem r_197_189 (ls : a_LS) (st : List Value) (σ : a_HP) (Q : Option Value → a_HP → Prop) : Rn 197 189 ls st σ Q = acR 197 (o_ivs 123 2 192 ls st σ) ls σ Q := rn_row rfl ls st σ Q
theorem r_197_192 (ls : a_LS) (st : List Value) (σ : a_HP) (Q : Option Value → a_HP → Prop) : Rn 197 192 ls st σ Q = acR 197 (o_eq 211 195 ls st σ) ls σ Q := rn_row rfl ls st σ Q
theorem r_197_195 (ls : a_LS) (st : List Value) (σ : a_HP) (Q : Option Value → a_HP → Prop) : Rn 197 195 ls st σ Q = acR 197 (o_lda 0 196 ls st σ) ls σ Q := rn_row rfl ls st σ Q
theorem r_197_196 (ls : a_LS) (st : List Value) (σ : a_HP) (Q : Option Value → a_HP → Prop) : Rn 197 196 ls st σ Q = acR 197 (o_get 8 2 199 ls st σ) ls σ Q := rn_row rfl ls st σ Q
theorem r_197_199 (ls : a_LS) (st : List Value) (σ : a_HP) (Q : Option Value → a_HP → Prop) : Rn 197 199 ls st σ Q = acR 197 (o_pi (nI 20) 201 ls st σ) ls σ Q := rn_row rfl ls st σ Q
theorem r_197_201 (ls : a_LS) (st : List Value) (σ : a_HP) (Q : Option Value → a_HP → Prop) : Rn 197 201 ls st σ Q = acR 197 (o_lda 0 202 ls st σ) ls σ Q := rn_row rfl ls st σ Q
theorem r_197_202 (ls : a_LS) (st : List Value) (σ : a_HP) (Q : Option Value → a_HP → Prop) : Rn 197 202 ls st σ Q = acR 197 (o_get 8 17 205 ls st σ) ls σ Q := rn_row rfl ls st σ Q
theorem r_197_205 (ls : a_LS) (st : List Value) (σ : a_HP) (Q : Option Value → a_HP → Prop) : Rn 197 205 ls st σ Q = acR 197 (o_ldi 12 207 ls st σ) ls σ Q := rn_row rfl ls st σ Q
theorem r_197_207 (ls : a_LS) (st : List Value) (σ : a_HP) (Q : Option Value → a_HP → Prop) : Rn 197 207 ls st σ Q = acR 197 (o_ial 208 ls st σ) ls σ Q := rn_row rfl ls st σ Q
theorem r_197_208 (ls : a_LS) (st : List Value) (σ : a_HP) (Q : Option Value → a_HP → Prop) : Rn 197 208 ls st σ Q = acR 197 (o_bi f_add 209 ls st σ) ls σ Q := rn_row rfl ls st σ Q
theorem r_197_209 (ls : a_LS) (st : List Value) (σ : a_HP) (Q : Option Value → a_HP → Prop) : Rn 197 209 ls st σ Q = acR 197 (o_pi (nI 0) 210 ls st σ) ls σ Q := rn_row rfl ls st σ Q
theorem r_197_210 (ls : a_LS) (st : List Value) (σ : a_HP) (Q : Option Value → a_HP → Prop) : Rn 197 210 ls st σ Q = acR 197 (o_ias 211 ls st σ) ls σ Q := rn_row rfl ls st σ Q
theorem r_197_211 (ls : a_LS) (st : List Value) (σ : a_HP) (Q : Option Value → a_HP → Prop) : Rn 197 211 ls st σ Q = acR 197 (o_inc 12 (nI 1) 214 ls st σ) ls σ Q := rn_row rfl ls st σ Q
theorem r_197_214 (ls : a_LS) (st : List Value) (σ : a_HP) (Q : Option Value → a_HP → Prop) : Rn 197 214 ls st σ Q = acR 197 (o_go 153 ls st σ) ls σ Q := rn_row rfl ls st σ Q
theorem r_197_217 (ls : a_LS) (st : List Value) (σ : a_HP) (Q : Option Value → a_HP → Prop) : Rn 197 217 ls st σ Q = acR 197 (o_ldl 7 219 ls st σ) ls σ Q := rn_row rfl ls st σ Q
theorem r_197_219 (ls : a_LS) (st : List Value) (σ : a_HP) (Q : Option Value → a_HP → Prop) : Rn 197 219 ls st σ Q = acR 197 (o_lda 0 220 ls st σ) ls σ Q := rn_row rfl ls st σ Q
theorem r_197_220 (ls : a_LS) (st : List Value) (σ : a_HP) (Q : Option Value → a_HP → Prop) : Rn 197 220 ls st σ Q = acR 197 (o_get 8 2 223 ls st σ) ls σ Q := rn_row rfl ls st σ Q
theorem r_197_223 (ls : a_LS) (st : List Value) (σ : a_HP) (Q : Option Value → a_HP → Prop) : Rn 197 223 ls st σ Q = acR 197 (o_ldi 1 224 ls st σ) ls σ Q := rn_row rfl ls st σ Q
theorem r_197_224 (ls : a_LS) (st : List Value) (σ : a_HP) (Q : Option Value → a_HP → Prop) : Rn 197 224 ls st σ Q = acR 197 (o_ivs 139 2 227 ls st σ) ls σ Q := rn_row rfl ls st σ Q
theorem r_197_227 (ls : a_LS) (st : List Value) (σ : a_HP) (Q : Option Value → a_HP → Prop) : Rn 197 227 ls st σ Q = acR 197 (o_eq 235 230 ls st σ) ls σ Q := rn_row rfl ls st σ Q
theorem r_197_230 (ls : a_LS) (st : List Value) (σ : a_HP) (Q : Option Value → a_HP → Prop) : Rn 197 230 ls st σ Q = acR 197 (o_ldl 10 232 ls st σ) ls σ Q := rn_row rfl ls st σ Q
theorem r_197_232 (ls : a_LS) (st : List Value) (σ : a_HP) (Q : Option Value → a_HP → Prop) : Rn 197 232 ls st σ Q = acR 197 (o_go 236 ls st σ) ls σ Q := rn_row rfl ls st σ Q
theorem r_197_235 (ls : a_LS) (st : List Value) (σ : a_HP) (Q : Option Value → a_HP → Prop) : Rn 197 235 ls st σ Q = acR 197 (o_pl (lN 0) 236 ls st σ) ls σ Q := rn_row rfl ls st σ Q
theorem r_197_236 (ls : a_LS) (st : List Value) (σ : a_HP) (Q : Option Value → a_HP → Prop) : Rn 197 236 ls st σ Q = acR 197 (o_bl g_add 237 ls st σ) ls σ Q := rn_row rfl ls st σ Q
theorem r_197_237 (ls : a_LS) (st : List Value) (σ : a_HP) (Q : Option Value → a_HP → Prop) : Rn 197 237 ls st σ Q = acR 197 (o_stl 7 239 ls st σ) ls σ Q := rn_row rfl ls st σ Q
theorem r_197_239 (ls : a_LS) (st : List Value) (σ : a_HP) (Q : Option Value → a_HP → Prop) : Rn 197 239 ls st σ Q = acR 197 (o_inc 9 (nI 1) 242 ls st σ) ls σ Q := rn_row rfl ls st σ Q
theorem r_197_242 (ls : a_LS) (st : List Value) (σ : a_HP) (Q : Option Value → a_HP → Prop) : Rn 197 242 ls st σ Q = acR 197 (o_go 134 ls st σ) ls σ Q := rn_row rfl ls st σ Q
theorem r_197_245 (ls : a_LS) (st : List Value) (σ : a_HP) (Q : Option Value → a_HP → Prop) : Rn 197 245 ls st σ Q = acR 197 (o_lda 0 246 ls st σ) ls σ Q := rn_row rfl ls st σ Q
theorem r_197_246 (ls : a_LS) (st : List Value) (σ : a_HP) (Q : Option Value → a_HP → Prop) : Rn 197 246 ls st σ Q = acR 197 (o_ldl 7 248 ls st σ) ls σ Q := rn_row rfl ls st σ Q
theorem r_197_248 (ls : a_LS) (st : List Value) (σ : a_HP) (Q : Option Value → a_HP → Prop) : Rn 197 248 ls st σ Q = acR 197 (o_ldl 5 250 ls st σ) ls σ Q := rn_row rfl ls st σ Q
theorem r_197_250 (ls : a_LS) (st : List Value) (σ : a_HP) (Q : Option Value → a_HP → Prop) : Rn 197 250 ls st σ Q = acR 197 (o_ivv 8 196 2 253 ls st σ) ls σ Q := rn_row rfl ls st σ Q
theorem r_197_253 (ls : a_LS) (st : List Value) (σ : a_HP) (Q : Option Value → a_HP → Prop) : Rn 197 253 ls st σ Q = acR 197 (o_pi (nI 1) 254 ls st σ) ls σ Q := rn_row rfl ls st σ Q
theorem r_197_254 (ls : a_LS) (st : List Value) (σ : a_HP) (Q : Option Value → a_HP → Prop) : Rn 197 254 ls st σ Q = acR 197 (o_ri ls st σ) ls σ Q := rn_row rfl ls st σ Q
/-! 198: NetLawModel.drawn(II)I -/
theorem cl_198 (x0 : Nat) (x1 : Int32) (x2 : Int32) (σ : a_HP) (Q : Option Value → a_HP → Prop) : Cl 198 [.ref x0, .int x1, .int x2] σ Q = Rn 198 0 [some (.ref x0), some (.int x1), some (.int x2), none, none, none, none] [] σ Q := cl_of (Nat.le_of_ble_eq_true rfl) rfl σ Q
theorem r_198_0 (ls : a_LS) (st : List Value) (σ : a_HP) (Q : Option Value → a_HP → Prop) : Rn 198 0 ls st σ Q = acR 198 (o_ldi 1 1 ls st σ) ls σ Q := rn_row rfl ls st σ Q
theorem r_198_1 (ls : a_LS) (st : List Value) (σ : a_HP) (Q : Option Value → a_HP → Prop) : Rn 198 1 ls st σ Q = acR 198 (o_i2l 2 ls st σ) ls σ Q := rn_row rfl ls st σ Q
theorem r_198_2 (ls : a_LS) (st : List Value) (σ : a_HP) (Q : Option Value → a_HP → Prop) : Rn 198 2 ls st σ Q = acR 198 (o_pl (lN 0) 3 ls st σ) ls σ Q := rn_row rfl ls st σ Q
theorem r_198_3 (ls : a_LS) (st : List Value) (σ : a_HP) (Q : Option Value → a_HP → Prop) : Rn 198 3 ls st σ Q = acR 198 (o_pl (lN 999999) 6 ls st σ) ls σ Q := rn_row rfl ls st σ Q
theorem r_198_6 (ls : a_LS) (st : List Value) (σ : a_HP) (Q : Option Value → a_HP → Prop) : Rn 198 6 ls st σ Q = acR 198 (o_ivs 122 3 9 ls st σ) ls σ Q := rn_row rfl ls st σ Q
theorem r_198_9 (ls : a_LS) (st : List Value) (σ : a_HP) (Q : Option Value → a_HP → Prop) : Rn 198 9 ls st σ Q = acR 198 (o_eq 24 12 ls st σ) ls σ Q := rn_row rfl ls st σ Q
theorem r_198_12 (ls : a_LS) (st : List Value) (σ : a_HP) (Q : Option Value → a_HP → Prop) : Rn 198 12 ls st σ Q = acR 198 (o_ldi 2 13 ls st σ) ls σ Q := rn_row rfl ls st σ Q
theorem r_198_13 (ls : a_LS) (st : List Value) (σ : a_HP) (Q : Option Value → a_HP → Prop) : Rn 198 13 ls st σ Q = acR 198 (o_i2l 14 ls st σ) ls σ Q := rn_row rfl ls st σ Q
theorem r_198_14 (ls : a_LS) (st : List Value) (σ : a_HP) (Q : Option Value → a_HP → Prop) : Rn 198 14 ls st σ Q = acR 198 (o_pl (lN 0) 15 ls st σ) ls σ Q := rn_row rfl ls st σ Q
theorem r_198_15 (ls : a_LS) (st : List Value) (σ : a_HP) (Q : Option Value → a_HP → Prop) : Rn 198 15 ls st σ Q = acR 198 (o_pl (lN 30) 18 ls st σ) ls σ Q := rn_row rfl ls st σ Q
theorem r_198_18 (ls : a_LS) (st : List Value) (σ : a_HP) (Q : Option Value → a_HP → Prop) : Rn 198 18 ls st σ Q = acR 198 (o_ivs 122 3 21 ls st σ) ls σ Q := rn_row rfl ls st σ Q
theorem r_198_21 (ls : a_LS) (st : List Value) (σ : a_HP) (Q : Option Value → a_HP → Prop) : Rn 198 21 ls st σ Q = acR 198 (o_ne 29 24 ls st σ) ls σ Q := rn_row rfl ls st σ Q
theorem r_198_24 (ls : a_LS) (st : List Value) (σ : a_HP) (Q : Option Value → a_HP → Prop) : Rn 198 24 ls st σ Q = acR 198 (o_lda 0 25 ls st σ) ls σ Q := rn_row rfl ls st σ Q
theorem r_198_25 (ls : a_LS) (st : List Value) (σ : a_HP) (Q : Option Value → a_HP → Prop) : Rn 198 25 ls st σ Q = acR 198 (o_ivv 8 125 0 28 ls st σ) ls σ Q := rn_row rfl ls st σ Q
theorem r_198_28 (ls : a_LS) (st : List Value) (σ : a_HP) (Q : Option Value → a_HP → Prop) : Rn 198 28 ls st σ Q = acR 198 (o_ri ls st σ) ls σ Q := rn_row rfl ls st σ Q
theorem r_198_29 (ls : a_LS) (st : List Value) (σ : a_HP) (Q : Option Value → a_HP → Prop) : Rn 198 29 ls st σ Q = acR 198 (o_lda 0 30 ls st σ) ls σ Q := rn_row rfl ls st σ Q
theorem r_198_30 (ls : a_LS) (st : List Value) (σ : a_HP) (Q : Option Value → a_HP → Prop) : Rn 198 30 ls st σ Q = acR 198 (o_ivv 8 170 0 33 ls st σ) ls σ Q := rn_row rfl ls st σ Q
theorem r_198_33 (ls : a_LS) (st : List Value) (σ : a_HP) (Q : Option Value → a_HP → Prop) : Rn 198 33 ls st σ Q = acR 198 (o_ldi 1 34 ls st σ) ls σ Q := rn_row rfl ls st σ Q
theorem r_198_34 (ls : a_LS) (st : List Value) (σ : a_HP) (Q : Option Value → a_HP → Prop) : Rn 198 34 ls st σ Q = acR 198 (o_i2l 35 ls st σ) ls σ Q := rn_row rfl ls st σ Q
theorem r_198_35 (ls : a_LS) (st : List Value) (σ : a_HP) (Q : Option Value → a_HP → Prop) : Rn 198 35 ls st σ Q = acR 198 (o_stl 3 36 ls st σ) ls σ Q := rn_row rfl ls st σ Q
theorem r_198_36 (ls : a_LS) (st : List Value) (σ : a_HP) (Q : Option Value → a_HP → Prop) : Rn 198 36 ls st σ Q = acR 198 (o_pi (nI 0) 37 ls st σ) ls σ Q := rn_row rfl ls st σ Q
theorem r_198_37 (ls : a_LS) (st : List Value) (σ : a_HP) (Q : Option Value → a_HP → Prop) : Rn 198 37 ls st σ Q = acR 198 (o_sti 5 39 ls st σ) ls σ Q := rn_row rfl ls st σ Q
theorem r_198_39 (ls : a_LS) (st : List Value) (σ : a_HP) (Q : Option Value → a_HP → Prop) : Rn 198 39 ls st σ Q = acR 198 (o_ldi 5 41 ls st σ) ls σ Q := rn_row rfl ls st σ Q
theorem r_198_41 (ls : a_LS) (st : List Value) (σ : a_HP) (Q : Option Value → a_HP → Prop) : Rn 198 41 ls st σ Q = acR 198 (o_ldi 2 42 ls st σ) ls σ Q := rn_row rfl ls st σ Q
theorem r_198_42 (ls : a_LS) (st : List Value) (σ : a_HP) (Q : Option Value → a_HP → Prop) : Rn 198 42 ls st σ Q = acR 198 (o_cge 90 45 ls st σ) ls σ Q := rn_row rfl ls st σ Q
theorem r_198_45 (ls : a_LS) (st : List Value) (σ : a_HP) (Q : Option Value → a_HP → Prop) : Rn 198 45 ls st σ Q = acR 198 (o_ldl 3 46 ls st σ) ls σ Q := rn_row rfl ls st σ Q
theorem r_198_46 (ls : a_LS) (st : List Value) (σ : a_HP) (Q : Option Value → a_HP → Prop) : Rn 198 46 ls st σ Q = acR 198 (o_pl (lN 1103515245) 49 ls st σ) ls σ Q := rn_row rfl ls st σ Q
theorem r_198_49 (ls : a_LS) (st : List Value) (σ : a_HP) (Q : Option Value → a_HP → Prop) : Rn 198 49 ls st σ Q = acR 198 (o_bl g_mul 50 ls st σ) ls σ Q := rn_row rfl ls st σ Q
theorem r_198_50 (ls : a_LS) (st : List Value) (σ : a_HP) (Q : Option Value → a_HP → Prop) : Rn 198 50 ls st σ Q = acR 198 (o_pl (lN 12345) 53 ls st σ) ls σ Q := rn_row rfl ls st σ Q
theorem r_198_53 (ls : a_LS) (st : List Value) (σ : a_HP) (Q : Option Value → a_HP → Prop) : Rn 198 53 ls st σ Q = acR 198 (o_bl g_add 54 ls st σ) ls σ Q := rn_row rfl ls st σ Q
theorem r_198_54 (ls : a_LS) (st : List Value) (σ : a_HP) (Q : Option Value → a_HP → Prop) : Rn 198 54 ls st σ Q = acR 198 (o_pl (lN 2147483648) 57 ls st σ) ls σ Q := rn_row rfl ls st σ Q
theorem r_198_57 (ls : a_LS) (st : List Value) (σ : a_HP) (Q : Option Value → a_HP → Prop) : Rn 198 57 ls st σ Q = acR 198 (o_bm g_rem 58 ls st σ) ls σ Q := rn_row rfl ls st σ Q
theorem r_198_58 (ls : a_LS) (st : List Value) (σ : a_HP) (Q : Option Value → a_HP → Prop) : Rn 198 58 ls st σ Q = acR 198 (o_stl 3 59 ls st σ) ls σ Q := rn_row rfl ls st σ Q
theorem r_198_59 (ls : a_LS) (st : List Value) (σ : a_HP) (Q : Option Value → a_HP → Prop) : Rn 198 59 ls st σ Q = acR 198 (o_lda 0 60 ls st σ) ls σ Q := rn_row rfl ls st σ Q
theorem r_198_60 (ls : a_LS) (st : List Value) (σ : a_HP) (Q : Option Value → a_HP → Prop) : Rn 198 60 ls st σ Q = acR 198 (o_get 8 2 63 ls st σ) ls σ Q := rn_row rfl ls st σ Q
theorem r_198_63 (ls : a_LS) (st : List Value) (σ : a_HP) (Q : Option Value → a_HP → Prop) : Rn 198 63 ls st σ Q = acR 198 (o_pi (nI 2) 64 ls st σ) ls σ Q := rn_row rfl ls st σ Q
theorem r_198_64 (ls : a_LS) (st : List Value) (σ : a_HP) (Q : Option Value → a_HP → Prop) : Rn 198 64 ls st σ Q = acR 198 (o_ldl 3 65 ls st σ) ls σ Q := rn_row rfl ls st σ Q
theorem r_198_65 (ls : a_LS) (st : List Value) (σ : a_HP) (Q : Option Value → a_HP → Prop) : Rn 198 65 ls st σ Q = acR 198 (o_pl (lN 32768) 68 ls st σ) ls σ Q := rn_row rfl ls st σ Q
theorem r_198_68 (ls : a_LS) (st : List Value) (σ : a_HP) (Q : Option Value → a_HP → Prop) : Rn 198 68 ls st σ Q = acR 198 (o_bm g_div 69 ls st σ) ls σ Q := rn_row rfl ls st σ Q
theorem r_198_69 (ls : a_LS) (st : List Value) (σ : a_HP) (Q : Option Value → a_HP → Prop) : Rn 198 69 ls st σ Q = acR 198 (o_pl (lN 65536) 72 ls st σ) ls σ Q := rn_row rfl ls st σ Q
theorem r_198_72 (ls : a_LS) (st : List Value) (σ : a_HP) (Q : Option Value → a_HP → Prop) : Rn 198 72 ls st σ Q = acR 198 (o_bm g_rem 73 ls st σ) ls σ Q := rn_row rfl ls st σ Q
theorem r_198_73 (ls : a_LS) (st : List Value) (σ : a_HP) (Q : Option Value → a_HP → Prop) : Rn 198 73 ls st σ Q = acR 198 (o_l2i 74 ls st σ) ls σ Q := rn_row rfl ls st σ Q
theorem r_198_74 (ls : a_LS) (st : List Value) (σ : a_HP) (Q : Option Value → a_HP → Prop) : Rn 198 74 ls st σ Q = acR 198 (o_ias 75 ls st σ) ls σ Q := rn_row rfl ls st σ Q
theorem r_198_75 (ls : a_LS) (st : List Value) (σ : a_HP) (Q : Option Value → a_HP → Prop) : Rn 198 75 ls st σ Q = acR 198 (o_lda 0 76 ls st σ) ls σ Q := rn_row rfl ls st σ Q
theorem r_198_76 (ls : a_LS) (st : List Value) (σ : a_HP) (Q : Option Value → a_HP → Prop) : Rn 198 76 ls st σ Q = acR 198 (o_get 8 2 79 ls st σ) ls σ Q := rn_row rfl ls st σ Q
theorem r_198_79 (ls : a_LS) (st : List Value) (σ : a_HP) (Q : Option Value → a_HP → Prop) : Rn 198 79 ls st σ Q = acR 198 (o_ivs 156 1 82 ls st σ) ls σ Q := rn_row rfl ls st σ Q
theorem r_198_82 (ls : a_LS) (st : List Value) (σ : a_HP) (Q : Option Value → a_HP → Prop) : Rn 198 82 ls st σ Q = acR 198 (o_sti 6 84 ls st σ) ls σ Q := rn_row rfl ls st σ Q
theorem r_198_84 (ls : a_LS) (st : List Value) (σ : a_HP) (Q : Option Value → a_HP → Prop) : Rn 198 84 ls st σ Q = acR 198 (o_inc 5 (nI 1) 87 ls st σ) ls σ Q := rn_row rfl ls st σ Q
theorem r_198_87 (ls : a_LS) (st : List Value) (σ : a_HP) (Q : Option Value → a_HP → Prop) : Rn 198 87 ls st σ Q = acR 198 (o_go 39 ls st σ) ls σ Q := rn_row rfl ls st σ Q
theorem r_198_90 (ls : a_LS) (st : List Value) (σ : a_HP) (Q : Option Value → a_HP → Prop) : Rn 198 90 ls st σ Q = acR 198 (o_lda 0 91 ls st σ) ls σ Q := rn_row rfl ls st σ Q
theorem r_198_91 (ls : a_LS) (st : List Value) (σ : a_HP) (Q : Option Value → a_HP → Prop) : Rn 198 91 ls st σ Q = acR 198 (o_get 8 2 94 ls st σ) ls σ Q := rn_row rfl ls st σ Q
theorem r_198_94 (ls : a_LS) (st : List Value) (σ : a_HP) (Q : Option Value → a_HP → Prop) : Rn 198 94 ls st σ Q = acR 198 (o_ivs 140 1 97 ls st σ) ls σ Q := rn_row rfl ls st σ Q
theorem r_198_97 (ls : a_LS) (st : List Value) (σ : a_HP) (Q : Option Value → a_HP → Prop) : Rn 198 97 ls st σ Q = acR 198 (o_ivs 124 1 100 ls st σ) ls σ Q := rn_row rfl ls st σ Q
theorem r_198_100 (ls : a_LS) (st : List Value) (σ : a_HP) (Q : Option Value → a_HP → Prop) : Rn 198 100 ls st σ Q = acR 198 (o_ri ls st σ) ls σ Q := rn_row rfl ls st σ Q
/-! 199: NetLawModel.part(I)J -/
theorem cl_199 (x0 : Nat) (x1 : Int32) (σ : a_HP) (Q : Option Value → a_HP → Prop) : Cl 199 [.ref x0, .int x1] σ Q = Rn 199 0 [some (.ref x0), some (.int x1)] [] σ Q := cl_of (Nat.le_of_ble_eq_true rfl) rfl σ Q
theorem r_199_0 (ls : a_LS) (st : List Value) (σ : a_HP) (Q : Option Value → a_HP → Prop) : Rn 199 0 ls st σ Q = acR 199 (o_ldi 1 1 ls st σ) ls σ Q := rn_row rfl ls st σ Q
theorem r_199_1 (ls : a_LS) (st : List Value) (σ : a_HP) (Q : Option Value → a_HP → Prop) : Rn 199 1 ls st σ Q = acR 199 (o_ivs 143 1 4 ls st σ) ls σ Q := rn_row rfl ls st σ Q
theorem r_199_4 (ls : a_LS) (st : List Value) (σ : a_HP) (Q : Option Value → a_HP → Prop) : Rn 199 4 ls st σ Q = acR 199 (o_ne 13 7 ls st σ) ls σ Q := rn_row rfl ls st σ Q
theorem r_199_7 (ls : a_LS) (st : List Value) (σ : a_HP) (Q : Option Value → a_HP → Prop) : Rn 199 7 ls st σ Q = acR 199 (o_lda 0 8 ls st σ) ls σ Q := rn_row rfl ls st σ Q
theorem r_199_8 (ls : a_LS) (st : List Value) (σ : a_HP) (Q : Option Value → a_HP → Prop) : Rn 199 8 ls st σ Q = acR 199 (o_ivv 8 125 0 11 ls st σ) ls σ Q := rn_row rfl ls st σ Q
theorem r_199_11 (ls : a_LS) (st : List Value) (σ : a_HP) (Q : Option Value → a_HP → Prop) : Rn 199 11 ls st σ Q = acR 199 (o_i2l 12 ls st σ) ls σ Q := rn_row rfl ls st σ Q
theorem r_199_12 (ls : a_LS) (st : List Value) (σ : a_HP) (Q : Option Value → a_HP → Prop) : Rn 199 12 ls st σ Q = acR 199 (o_rl ls st σ) ls σ Q := rn_row rfl ls st σ Q
theorem r_199_13 (ls : a_LS) (st : List Value) (σ : a_HP) (Q : Option Value → a_HP → Prop) : Rn 199 13 ls st σ Q = acR 199 (o_ldi 1 14 ls st σ) ls σ Q := rn_row rfl ls st σ Q
theorem r_199_14 (ls : a_LS) (st : List Value) (σ : a_HP) (Q : Option Value → a_HP → Prop) : Rn 199 14 ls st σ Q = acR 199 (o_ne 24 17 ls st σ) ls σ Q := rn_row rfl ls st σ Q
theorem r_199_17 (ls : a_LS) (st : List Value) (σ : a_HP) (Q : Option Value → a_HP → Prop) : Rn 199 17 ls st σ Q = acR 199 (o_lda 0 18 ls st σ) ls σ Q := rn_row rfl ls st σ Q
theorem r_199_18 (ls : a_LS) (st : List Value) (σ : a_HP) (Q : Option Value → a_HP → Prop) : Rn 199 18 ls st σ Q = acR 199 (o_get 8 7 21 ls st σ) ls σ Q := rn_row rfl ls st σ Q
theorem r_199_21 (ls : a_LS) (st : List Value) (σ : a_HP) (Q : Option Value → a_HP → Prop) : Rn 199 21 ls st σ Q = acR 199 (o_go 28 ls st σ) ls σ Q := rn_row rfl ls st σ Q
theorem r_199_24 (ls : a_LS) (st : List Value) (σ : a_HP) (Q : Option Value → a_HP → Prop) : Rn 199 24 ls st σ Q = acR 199 (o_lda 0 25 ls st σ) ls σ Q := rn_row rfl ls st σ Q
theorem r_199_25 (ls : a_LS) (st : List Value) (σ : a_HP) (Q : Option Value → a_HP → Prop) : Rn 199 25 ls st σ Q = acR 199 (o_get 8 8 28 ls st σ) ls σ Q := rn_row rfl ls st σ Q
theorem r_199_28 (ls : a_LS) (st : List Value) (σ : a_HP) (Q : Option Value → a_HP → Prop) : Rn 199 28 ls st σ Q = acR 199 (o_rl ls st σ) ls σ Q := rn_row rfl ls st σ Q
/-! 200: NetLawModel.image(I)I -/
theorem cl_200 (x0 : Nat) (x1 : Int32) (σ : a_HP) (Q : Option Value → a_HP → Prop) : Cl 200 [.ref x0, .int x1] σ Q = Rn 200 0 [some (.ref x0), some (.int x1)] [] σ Q := cl_of (Nat.le_of_ble_eq_true rfl) rfl σ Q
theorem r_200_0 (ls : a_LS) (st : List Value) (σ : a_HP) (Q : Option Value → a_HP → Prop) : Rn 200 0 ls st σ Q = acR 200 (o_ldi 1 1 ls st σ) ls σ Q := rn_row rfl ls st σ Q
theorem r_200_1 (ls : a_LS) (st : List Value) (σ : a_HP) (Q : Option Value → a_HP → Prop) : Rn 200 1 ls st σ Q = acR 200 (o_ivs 143 1 4 ls st σ) ls σ Q := rn_row rfl ls st σ Q
theorem r_200_4 (ls : a_LS) (st : List Value) (σ : a_HP) (Q : Option Value → a_HP → Prop) : Rn 200 4 ls st σ Q = acR 200 (o_ne 12 7 ls st σ) ls σ Q := rn_row rfl ls st σ Q
theorem r_200_7 (ls : a_LS) (st : List Value) (σ : a_HP) (Q : Option Value → a_HP → Prop) : Rn 200 7 ls st σ Q = acR 200 (o_lda 0 8 ls st σ) ls σ Q := rn_row rfl ls st σ Q
theorem r_200_8 (ls : a_LS) (st : List Value) (σ : a_HP) (Q : Option Value → a_HP → Prop) : Rn 200 8 ls st σ Q = acR 200 (o_ivv 8 125 0 11 ls st σ) ls σ Q := rn_row rfl ls st σ Q
theorem r_200_11 (ls : a_LS) (st : List Value) (σ : a_HP) (Q : Option Value → a_HP → Prop) : Rn 200 11 ls st σ Q = acR 200 (o_ri ls st σ) ls σ Q := rn_row rfl ls st σ Q
theorem r_200_12 (ls : a_LS) (st : List Value) (σ : a_HP) (Q : Option Value → a_HP → Prop) : Rn 200 12 ls st σ Q = acR 200 (o_lda 0 13 ls st σ) ls σ Q := rn_row rfl ls st σ Q
theorem r_200_13 (ls : a_LS) (st : List Value) (σ : a_HP) (Q : Option Value → a_HP → Prop) : Rn 200 13 ls st σ Q = acR 200 (o_get 8 0 16 ls st σ) ls σ Q := rn_row rfl ls st σ Q
theorem r_200_16 (ls : a_LS) (st : List Value) (σ : a_HP) (Q : Option Value → a_HP → Prop) : Rn 200 16 ls st σ Q = acR 200 (o_pi (nI 0) 17 ls st σ) ls σ Q := rn_row rfl ls st σ Q
theorem r_200_17 (ls : a_LS) (st : List Value) (σ : a_HP) (Q : Option Value → a_HP → Prop) : Rn 200 17 ls st σ Q = acR 200 (o_lda 0 18 ls st σ) ls σ Q := rn_row rfl ls st σ Q
theorem r_200_18 (ls : a_LS) (st : List Value) (σ : a_HP) (Q : Option Value → a_HP → Prop) : Rn 200 18 ls st σ Q = acR 200 (o_get 8 3 21 ls st σ) ls σ Q := rn_row rfl ls st σ Q
theorem r_200_21 (ls : a_LS) (st : List Value) (σ : a_HP) (Q : Option Value → a_HP → Prop) : Rn 200 21 ls st σ Q = acR 200 (o_pi (nI 481) 24 ls st σ) ls σ Q := rn_row rfl ls st σ Q
theorem r_200_24 (ls : a_LS) (st : List Value) (σ : a_HP) (Q : Option Value → a_HP → Prop) : Rn 200 24 ls st σ Q = acR 200 (o_ldi 1 25 ls st σ) ls σ Q := rn_row rfl ls st σ Q
theorem r_200_25 (ls : a_LS) (st : List Value) (σ : a_HP) (Q : Option Value → a_HP → Prop) : Rn 200 25 ls st σ Q = acR 200 (o_bi f_mul 26 ls st σ) ls σ Q := rn_row rfl ls st σ Q
theorem r_200_26 (ls : a_LS) (st : List Value) (σ : a_HP) (Q : Option Value → a_HP → Prop) : Rn 200 26 ls st σ Q = acR 200 (o_pi (nI 481) 29 ls st σ) ls σ Q := rn_row rfl ls st σ Q
theorem r_200_29 (ls : a_LS) (st : List Value) (σ : a_HP) (Q : Option Value → a_HP → Prop) : Rn 200 29 ls st σ Q = acR 200 (o_ivs 130 5 32 ls st σ) ls σ Q := rn_row rfl ls st σ Q
theorem r_200_32 (ls : a_LS) (st : List Value) (σ : a_HP) (Q : Option Value → a_HP → Prop) : Rn 200 32 ls st σ Q = acR 200 (o_lda 0 33 ls st σ) ls σ Q := rn_row rfl ls st σ Q
theorem r_200_33 (ls : a_LS) (st : List Value) (σ : a_HP) (Q : Option Value → a_HP → Prop) : Rn 200 33 ls st σ Q = acR 200 (o_get 8 4 36 ls st σ) ls σ Q := rn_row rfl ls st σ Q
theorem r_200_36 (ls : a_LS) (st : List Value) (σ : a_HP) (Q : Option Value → a_HP → Prop) : Rn 200 36 ls st σ Q = acR 200 (o_ldi 1 37 ls st σ) ls σ Q := rn_row rfl ls st σ Q
theorem r_200_37 (ls : a_LS) (st : List Value) (σ : a_HP) (Q : Option Value → a_HP → Prop) : Rn 200 37 ls st σ Q = acR 200 (o_pi (nI 1) 38 ls st σ) ls σ Q := rn_row rfl ls st σ Q
theorem r_200_38 (ls : a_LS) (st : List Value) (σ : a_HP) (Q : Option Value → a_HP → Prop) : Rn 200 38 ls st σ Q = acR 200 (o_bas 39 ls st σ) ls σ Q := rn_row rfl ls st σ Q
theorem r_200_39 (ls : a_LS) (st : List Value) (σ : a_HP) (Q : Option Value → a_HP → Prop) : Rn 200 39 ls st σ Q = acR 200 (o_pi (nI 1) 40 ls st σ) ls σ Q := rn_row rfl ls st σ Q
theorem r_200_40 (ls : a_LS) (st : List Value) (σ : a_HP) (Q : Option Value → a_HP → Prop) : Rn 200 40 ls st σ Q = acR 200 (o_ri ls st σ) ls σ Q := rn_row rfl ls st σ Q
/-! 201: NetLawModel.from(I)I -/
theorem cl_201 (x0 : Nat) (x1 : Int32) (σ : a_HP) (Q : Option Value → a_HP → Prop) : Cl 201 [.ref x0, .int x1] σ Q = Rn 201 0 [some (.ref x0), some (.int x1)] [] σ Q := cl_of (Nat.le_of_ble_eq_true rfl) rfl σ Q
theorem r_201_0 (ls : a_LS) (st : List Value) (σ : a_HP) (Q : Option Value → a_HP → Prop) : Rn 201 0 ls st σ Q = acR 201 (o_ldi 1 1 ls st σ) ls σ Q := rn_row rfl ls st σ Q
theorem r_201_1 (ls : a_LS) (st : List Value) (σ : a_HP) (Q : Option Value → a_HP → Prop) : Rn 201 1 ls st σ Q = acR 201 (o_ivs 143 1 4 ls st σ) ls σ Q := rn_row rfl ls st σ Q
theorem r_201_4 (ls : a_LS) (st : List Value) (σ : a_HP) (Q : Option Value → a_HP → Prop) : Rn 201 4 ls st σ Q = acR 201 (o_ne 12 7 ls st σ) ls σ Q := rn_row rfl ls st σ Q
theorem r_201_7 (ls : a_LS) (st : List Value) (σ : a_HP) (Q : Option Value → a_HP → Prop) : Rn 201 7 ls st σ Q = acR 201 (o_lda 0 8 ls st σ) ls σ Q := rn_row rfl ls st σ Q
theorem r_201_8 (ls : a_LS) (st : List Value) (σ : a_HP) (Q : Option Value → a_HP → Prop) : Rn 201 8 ls st σ Q = acR 201 (o_ivv 8 125 0 11 ls st σ) ls σ Q := rn_row rfl ls st σ Q
theorem r_201_11 (ls : a_LS) (st : List Value) (σ : a_HP) (Q : Option Value → a_HP → Prop) : Rn 201 11 ls st σ Q = acR 201 (o_ri ls st σ) ls σ Q := rn_row rfl ls st σ Q
theorem r_201_12 (ls : a_LS) (st : List Value) (σ : a_HP) (Q : Option Value → a_HP → Prop) : Rn 201 12 ls st σ Q = acR 201 (o_lda 0 13 ls st σ) ls σ Q := rn_row rfl ls st σ Q
theorem r_201_13 (ls : a_LS) (st : List Value) (σ : a_HP) (Q : Option Value → a_HP → Prop) : Rn 201 13 ls st σ Q = acR 201 (o_get 8 4 16 ls st σ) ls σ Q := rn_row rfl ls st σ Q
theorem r_201_16 (ls : a_LS) (st : List Value) (σ : a_HP) (Q : Option Value → a_HP → Prop) : Rn 201 16 ls st σ Q = acR 201 (o_ldi 1 17 ls st σ) ls σ Q := rn_row rfl ls st σ Q
theorem r_201_17 (ls : a_LS) (st : List Value) (σ : a_HP) (Q : Option Value → a_HP → Prop) : Rn 201 17 ls st σ Q = acR 201 (o_bal 18 ls st σ) ls σ Q := rn_row rfl ls st σ Q
theorem r_201_18 (ls : a_LS) (st : List Value) (σ : a_HP) (Q : Option Value → a_HP → Prop) : Rn 201 18 ls st σ Q = acR 201 (o_ne 28 21 ls st σ) ls σ Q := rn_row rfl ls st σ Q
theorem r_201_21 (ls : a_LS) (st : List Value) (σ : a_HP) (Q : Option Value → a_HP → Prop) : Rn 201 21 ls st σ Q = acR 201 (o_lda 0 22 ls st σ) ls σ Q := rn_row rfl ls st σ Q
theorem r_201_22 (ls : a_LS) (st : List Value) (σ : a_HP) (Q : Option Value → a_HP → Prop) : Rn 201 22 ls st σ Q = acR 201 (o_pi (-3) 24 ls st σ) ls σ Q := rn_row rfl ls st σ Q
theorem r_201_24 (ls : a_LS) (st : List Value) (σ : a_HP) (Q : Option Value → a_HP → Prop) : Rn 201 24 ls st σ Q = acR 201 (o_ivv 8 127 1 27 ls st σ) ls σ Q := rn_row rfl ls st σ Q
theorem r_201_27 (ls : a_LS) (st : List Value) (σ : a_HP) (Q : Option Value → a_HP → Prop) : Rn 201 27 ls st σ Q = acR 201 (o_ri ls st σ) ls σ Q := rn_row rfl ls st σ Q
theorem r_201_28 (ls : a_LS) (st : List Value) (σ : a_HP) (Q : Option Value → a_HP → Prop) : Rn 201 28 ls st σ Q = acR 201 (o_lda 0 29 ls st σ) ls σ Q := rn_row rfl ls st σ Q
theorem r_201_29 (ls : a_LS) (st : List Value) (σ : a_HP) (Q : Option Value → a_HP → Prop) : Rn 201 29 ls st σ Q = acR 201 (o_get 8 3 32 ls st σ) ls σ Q := rn_row rfl ls st σ Q
theorem r_201_32 (ls : a_LS) (st : List Value) (σ : a_HP) (Q : Option Value → a_HP → Prop) : Rn 201 32 ls st σ Q = acR 201 (o_pi (nI 481) 35 ls st σ) ls σ Q := rn_row rfl ls st σ Q
theorem r_201_35 (ls : a_LS) (st : List Value) (σ : a_HP) (Q : Option Value → a_HP → Prop) : Rn 201 35 ls st σ Q = acR 201 (o_ldi 1 36 ls st σ) ls σ Q := rn_row rfl ls st σ Q
theorem r_201_36 (ls : a_LS) (st : List Value) (σ : a_HP) (Q : Option Value → a_HP → Prop) : Rn 201 36 ls st σ Q = acR 201 (o_bi f_mul 37 ls st σ) ls σ Q := rn_row rfl ls st σ Q
theorem r_201_37 (ls : a_LS) (st : List Value) (σ : a_HP) (Q : Option Value → a_HP → Prop) : Rn 201 37 ls st σ Q = acR 201 (o_lda 0 38 ls st σ) ls σ Q := rn_row rfl ls st σ Q
theorem r_201_38 (ls : a_LS) (st : List Value) (σ : a_HP) (Q : Option Value → a_HP → Prop) : Rn 201 38 ls st σ Q = acR 201 (o_get 8 0 41 ls st σ) ls σ Q := rn_row rfl ls st σ Q
theorem r_201_41 (ls : a_LS) (st : List Value) (σ : a_HP) (Q : Option Value → a_HP → Prop) : Rn 201 41 ls st σ Q = acR 201 (o_pi (nI 0) 42 ls st σ) ls σ Q := rn_row rfl ls st σ Q
theorem r_201_42 (ls : a_LS) (st : List Value) (σ : a_HP) (Q : Option Value → a_HP → Prop) : Rn 201 42 ls st σ Q = acR 201 (o_pi (nI 481) 45 ls st σ) ls σ Q := rn_row rfl ls st σ Q
theorem r_201_45 (ls : a_LS) (st : List Value) (σ : a_HP) (Q : Option Value → a_HP → Prop) : Rn 201 45 ls st σ Q = acR 201 (o_ivs 130 5 48 ls st σ) ls σ Q := rn_row rfl ls st σ Q
theorem r_201_48 (ls : a_LS) (st : List Value) (σ : a_HP) (Q : Option Value → a_HP → Prop) : Rn 201 48 ls st σ Q = acR 201 (o_pi (nI 1) 49 ls st σ) ls σ Q := rn_row rfl ls st σ Q
theorem r_201_49 (ls : a_LS) (st : List Value) (σ : a_HP) (Q : Option Value → a_HP → Prop) : Rn 201 49 ls st σ Q = acR 201 (o_ri ls st σ) ls σ Q := rn_row rfl ls st σ Q
/-! 202: NetLawModel.status(I)I -/
theorem cl_202 (x0 : Nat) (x1 : Int32) (σ : a_HP) (Q : Option Value → a_HP → Prop) : Cl 202 [.ref x0, .int x1] σ Q = Rn 202 0 [some (.ref x0), some (.int x1)] [] σ Q := cl_of (Nat.le_of_ble_eq_true rfl) rfl σ Q
theorem r_202_0 (ls : a_LS) (st : List Value) (σ : a_HP) (Q : Option Value → a_HP → Prop) : Rn 202 0 ls st σ Q = acR 202 (o_ldi 1 1 ls st σ) ls σ Q := rn_row rfl ls st σ Q
theorem r_202_1 (ls : a_LS) (st : List Value) (σ : a_HP) (Q : Option Value → a_HP → Prop) : Rn 202 1 ls st σ Q = acR 202 (o_i2l 2 ls st σ) ls σ Q := rn_row rfl ls st σ Q
theorem r_202_2 (ls : a_LS) (st : List Value) (σ : a_HP) (Q : Option Value → a_HP → Prop) : Rn 202 2 ls st σ Q = acR 202 (o_pl (lN 0) 3 ls st σ) ls σ Q := rn_row rfl ls st σ Q
theorem r_202_3 (ls : a_LS) (st : List Value) (σ : a_HP) (Q : Option Value → a_HP → Prop) : Rn 202 3 ls st σ Q = acR 202 (o_pl (lN 2) 6 ls st σ) ls σ Q := rn_row rfl ls st σ Q
theorem r_202_6 (ls : a_LS) (st : List Value) (σ : a_HP) (Q : Option Value → a_HP → Prop) : Rn 202 6 ls st σ Q = acR 202 (o_ivs 122 3 9 ls st σ) ls σ Q := rn_row rfl ls st σ Q
theorem r_202_9 (ls : a_LS) (st : List Value) (σ : a_HP) (Q : Option Value → a_HP → Prop) : Rn 202 9 ls st σ Q = acR 202 (o_eq 21 12 ls st σ) ls σ Q := rn_row rfl ls st σ Q
theorem r_202_12 (ls : a_LS) (st : List Value) (σ : a_HP) (Q : Option Value → a_HP → Prop) : Rn 202 12 ls st σ Q = acR 202 (o_lda 0 13 ls st σ) ls σ Q := rn_row rfl ls st σ Q
theorem r_202_13 (ls : a_LS) (st : List Value) (σ : a_HP) (Q : Option Value → a_HP → Prop) : Rn 202 13 ls st σ Q = acR 202 (o_get 8 9 16 ls st σ) ls σ Q := rn_row rfl ls st σ Q
theorem r_202_16 (ls : a_LS) (st : List Value) (σ : a_HP) (Q : Option Value → a_HP → Prop) : Rn 202 16 ls st σ Q = acR 202 (o_ldi 1 17 ls st σ) ls σ Q := rn_row rfl ls st σ Q
theorem r_202_17 (ls : a_LS) (st : List Value) (σ : a_HP) (Q : Option Value → a_HP → Prop) : Rn 202 17 ls st σ Q = acR 202 (o_ial 18 ls st σ) ls σ Q := rn_row rfl ls st σ Q
theorem r_202_18 (ls : a_LS) (st : List Value) (σ : a_HP) (Q : Option Value → a_HP → Prop) : Rn 202 18 ls st σ Q = acR 202 (o_go 26 ls st σ) ls σ Q := rn_row rfl ls st σ Q
theorem r_202_21 (ls : a_LS) (st : List Value) (σ : a_HP) (Q : Option Value → a_HP → Prop) : Rn 202 21 ls st σ Q = acR 202 (o_lda 0 22 ls st σ) ls σ Q := rn_row rfl ls st σ Q
theorem r_202_22 (ls : a_LS) (st : List Value) (σ : a_HP) (Q : Option Value → a_HP → Prop) : Rn 202 22 ls st σ Q = acR 202 (o_pi (-1) 23 ls st σ) ls σ Q := rn_row rfl ls st σ Q
theorem r_202_23 (ls : a_LS) (st : List Value) (σ : a_HP) (Q : Option Value → a_HP → Prop) : Rn 202 23 ls st σ Q = acR 202 (o_ivv 8 126 1 26 ls st σ) ls σ Q := rn_row rfl ls st σ Q
theorem r_202_26 (ls : a_LS) (st : List Value) (σ : a_HP) (Q : Option Value → a_HP → Prop) : Rn 202 26 ls st σ Q = acR 202 (o_ri ls st σ) ls σ Q := rn_row rfl ls st σ Q
/-! 203: NetLawModel.counted(I)I -/
theorem cl_203 (x0 : Nat) (x1 : Int32) (σ : a_HP) (Q : Option Value → a_HP → Prop) : Cl 203 [.ref x0, .int x1] σ Q = Rn 203 0 [some (.ref x0), some (.int x1)] [] σ Q := cl_of (Nat.le_of_ble_eq_true rfl) rfl σ Q
theorem r_203_0 (ls : a_LS) (st : List Value) (σ : a_HP) (Q : Option Value → a_HP → Prop) : Rn 203 0 ls st σ Q = acR 203 (o_ldi 1 1 ls st σ) ls σ Q := rn_row rfl ls st σ Q
theorem r_203_1 (ls : a_LS) (st : List Value) (σ : a_HP) (Q : Option Value → a_HP → Prop) : Rn 203 1 ls st σ Q = acR 203 (o_sw [((nI 0), 44), ((nI 1), 52), ((nI 2), 59), ((nI 3), 66), ((nI 4), 73), ((nI 5), 80), ((nI 6), 88)] 96 ls st σ) ls σ Q := rn_row rfl ls st σ Q
theorem r_203_44 (ls : a_LS) (st : List Value) (σ : a_HP) (Q : Option Value → a_HP → Prop) : Rn 203 44 ls st σ Q = acR 203 (o_lda 0 45 ls st σ) ls σ Q := rn_row rfl ls st σ Q
theorem r_203_45 (ls : a_LS) (st : List Value) (σ : a_HP) (Q : Option Value → a_HP → Prop) : Rn 203 45 ls st σ Q = acR 203 (o_get 8 0 48 ls st σ) ls σ Q := rn_row rfl ls st σ Q
theorem r_203_48 (ls : a_LS) (st : List Value) (σ : a_HP) (Q : Option Value → a_HP → Prop) : Rn 203 48 ls st σ Q = acR 203 (o_ivs 131 1 51 ls st σ) ls σ Q := rn_row rfl ls st σ Q
theorem r_203_51 (ls : a_LS) (st : List Value) (σ : a_HP) (Q : Option Value → a_HP → Prop) : Rn 203 51 ls st σ Q = acR 203 (o_ri ls st σ) ls σ Q := rn_row rfl ls st σ Q
theorem r_203_52 (ls : a_LS) (st : List Value) (σ : a_HP) (Q : Option Value → a_HP → Prop) : Rn 203 52 ls st σ Q = acR 203 (o_lda 0 53 ls st σ) ls σ Q := rn_row rfl ls st σ Q
theorem r_203_53 (ls : a_LS) (st : List Value) (σ : a_HP) (Q : Option Value → a_HP → Prop) : Rn 203 53 ls st σ Q = acR 203 (o_get 8 0 56 ls st σ) ls σ Q := rn_row rfl ls st σ Q
theorem r_203_56 (ls : a_LS) (st : List Value) (σ : a_HP) (Q : Option Value → a_HP → Prop) : Rn 203 56 ls st σ Q = acR 203 (o_pi (nI 0) 57 ls st σ) ls σ Q := rn_row rfl ls st σ Q
theorem r_203_57 (ls : a_LS) (st : List Value) (σ : a_HP) (Q : Option Value → a_HP → Prop) : Rn 203 57 ls st σ Q = acR 203 (o_ial 58 ls st σ) ls σ Q := rn_row rfl ls st σ Q
theorem r_203_58 (ls : a_LS) (st : List Value) (σ : a_HP) (Q : Option Value → a_HP → Prop) : Rn 203 58 ls st σ Q = acR 203 (o_ri ls st σ) ls σ Q := rn_row rfl ls st σ Q
theorem r_203_59 (ls : a_LS) (st : List Value) (σ : a_HP) (Q : Option Value → a_HP → Prop) : Rn 203 59 ls st σ Q = acR 203 (o_lda 0 60 ls st σ) ls σ Q := rn_row rfl ls st σ Q
theorem r_203_60 (ls : a_LS) (st : List Value) (σ : a_HP) (Q : Option Value → a_HP → Prop) : Rn 203 60 ls st σ Q = acR 203 (o_get 8 0 63 ls st σ) ls σ Q := rn_row rfl ls st σ Q
theorem r_203_63 (ls : a_LS) (st : List Value) (σ : a_HP) (Q : Option Value → a_HP → Prop) : Rn 203 63 ls st σ Q = acR 203 (o_pi (nI 1) 64 ls st σ) ls σ Q := rn_row rfl ls st σ Q
theorem r_203_64 (ls : a_LS) (st : List Value) (σ : a_HP) (Q : Option Value → a_HP → Prop) : Rn 203 64 ls st σ Q = acR 203 (o_ial 65 ls st σ) ls σ Q := rn_row rfl ls st σ Q
theorem r_203_65 (ls : a_LS) (st : List Value) (σ : a_HP) (Q : Option Value → a_HP → Prop) : Rn 203 65 ls st σ Q = acR 203 (o_ri ls st σ) ls σ Q := rn_row rfl ls st σ Q
theorem r_203_66 (ls : a_LS) (st : List Value) (σ : a_HP) (Q : Option Value → a_HP → Prop) : Rn 203 66 ls st σ Q = acR 203 (o_lda 0 67 ls st σ) ls σ Q := rn_row rfl ls st σ Q
theorem r_203_67 (ls : a_LS) (st : List Value) (σ : a_HP) (Q : Option Value → a_HP → Prop) : Rn 203 67 ls st σ Q = acR 203 (o_get 8 0 70 ls st σ) ls σ Q := rn_row rfl ls st σ Q
theorem r_203_70 (ls : a_LS) (st : List Value) (σ : a_HP) (Q : Option Value → a_HP → Prop) : Rn 203 70 ls st σ Q = acR 203 (o_pi (nI 2) 71 ls st σ) ls σ Q := rn_row rfl ls st σ Q
theorem r_203_71 (ls : a_LS) (st : List Value) (σ : a_HP) (Q : Option Value → a_HP → Prop) : Rn 203 71 ls st σ Q = acR 203 (o_ial 72 ls st σ) ls σ Q := rn_row rfl ls st σ Q
theorem r_203_72 (ls : a_LS) (st : List Value) (σ : a_HP) (Q : Option Value → a_HP → Prop) : Rn 203 72 ls st σ Q = acR 203 (o_ri ls st σ) ls σ Q := rn_row rfl ls st σ Q
theorem r_203_73 (ls : a_LS) (st : List Value) (σ : a_HP) (Q : Option Value → a_HP → Prop) : Rn 203 73 ls st σ Q = acR 203 (o_lda 0 74 ls st σ) ls σ Q := rn_row rfl ls st σ Q
theorem r_203_74 (ls : a_LS) (st : List Value) (σ : a_HP) (Q : Option Value → a_HP → Prop) : Rn 203 74 ls st σ Q = acR 203 (o_get 8 0 77 ls st σ) ls σ Q := rn_row rfl ls st σ Q
theorem r_203_77 (ls : a_LS) (st : List Value) (σ : a_HP) (Q : Option Value → a_HP → Prop) : Rn 203 77 ls st σ Q = acR 203 (o_pi (nI 3) 78 ls st σ) ls σ Q := rn_row rfl ls st σ Q
theorem r_203_78 (ls : a_LS) (st : List Value) (σ : a_HP) (Q : Option Value → a_HP → Prop) : Rn 203 78 ls st σ Q = acR 203 (o_ial 79 ls st σ) ls σ Q := rn_row rfl ls st σ Q
theorem r_203_79 (ls : a_LS) (st : List Value) (σ : a_HP) (Q : Option Value → a_HP → Prop) : Rn 203 79 ls st σ Q = acR 203 (o_ri ls st σ) ls σ Q := rn_row rfl ls st σ Q
theorem r_203_80 (ls : a_LS) (st : List Value) (σ : a_HP) (Q : Option Value → a_HP → Prop) : Rn 203 80 ls st σ Q = acR 203 (o_lda 0 81 ls st σ) ls σ Q := rn_row rfl ls st σ Q
theorem r_203_81 (ls : a_LS) (st : List Value) (σ : a_HP) (Q : Option Value → a_HP → Prop) : Rn 203 81 ls st σ Q = acR 203 (o_get 8 0 84 ls st σ) ls σ Q := rn_row rfl ls st σ Q
theorem r_203_84 (ls : a_LS) (st : List Value) (σ : a_HP) (Q : Option Value → a_HP → Prop) : Rn 203 84 ls st σ Q = acR 203 (o_pi (nI 61) 86 ls st σ) ls σ Q := rn_row rfl ls st σ Q
theorem r_203_86 (ls : a_LS) (st : List Value) (σ : a_HP) (Q : Option Value → a_HP → Prop) : Rn 203 86 ls st σ Q = acR 203 (o_ial 87 ls st σ) ls σ Q := rn_row rfl ls st σ Q
theorem r_203_87 (ls : a_LS) (st : List Value) (σ : a_HP) (Q : Option Value → a_HP → Prop) : Rn 203 87 ls st σ Q = acR 203 (o_ri ls st σ) ls σ Q := rn_row rfl ls st σ Q
theorem r_203_88 (ls : a_LS) (st : List Value) (σ : a_HP) (Q : Option Value → a_HP → Prop) : Rn 203 88 ls st σ Q = acR 203 (o_lda 0 89 ls st σ) ls σ Q := rn_row rfl ls st σ Q
theorem r_203_89 (ls : a_LS) (st : List Value) (σ : a_HP) (Q : Option Value → a_HP → Prop) : Rn 203 89 ls st σ Q = acR 203 (o_get 8 0 92 ls st σ) ls σ Q := rn_row rfl ls st σ Q
theorem r_203_92 (ls : a_LS) (st : List Value) (σ : a_HP) (Q : Option Value → a_HP → Prop) : Rn 203 92 ls st σ Q = acR 203 (o_pi (nI 80) 94 ls st σ) ls σ Q := rn_row rfl ls st σ Q
theorem r_203_94 (ls : a_LS) (st : List Value) (σ : a_HP) (Q : Option Value → a_HP → Prop) : Rn 203 94 ls st σ Q = acR 203 (o_ial 95 ls st σ) ls σ Q := rn_row rfl ls st σ Q
theorem r_203_95 (ls : a_LS) (st : List Value) (σ : a_HP) (Q : Option Value → a_HP → Prop) : Rn 203 95 ls st σ Q = acR 203 (o_ri ls st σ) ls σ Q := rn_row rfl ls st σ Q
theorem r_203_96 (ls : a_LS) (st : List Value) (σ : a_HP) (Q : Option Value → a_HP → Prop) : Rn 203 96 ls st σ Q = acR 203 (o_lda 0 97 ls st σ) ls σ Q := rn_row rfl ls st σ Q
theorem r_203_97 (ls : a_LS) (st : List Value) (σ : a_HP) (Q : Option Value → a_HP → Prop) : Rn 203 97 ls st σ Q = acR 203 (o_get 8 6 100 ls st σ) ls σ Q := rn_row rfl ls st σ Q
theorem r_203_100 (ls : a_LS) (st : List Value) (σ : a_HP) (Q : Option Value → a_HP → Prop) : Rn 203 100 ls st σ Q = acR 203 (o_ri ls st σ) ls σ Q := rn_row rfl ls st σ Q
/-! 204: NetLawModel.count(I)I -/
theorem cl_204 (x0 : Nat) (x1 : Int32) (σ : a_HP) (Q : Option Value → a_HP → Prop) : Cl 204 [.ref x0, .int x1] σ Q = Rn 204 0 [some (.ref x0), some (.int x1)] [] σ Q := cl_of (Nat.le_of_ble_eq_true rfl) rfl σ Q
theorem r_204_0 (ls : a_LS) (st : List Value) (σ : a_HP) (Q : Option Value → a_HP → Prop) : Rn 204 0 ls st σ Q = acR 204 (o_ldi 1 1 ls st σ) ls σ Q := rn_row rfl ls st σ Q
theorem r_204_1 (ls : a_LS) (st : List Value) (σ : a_HP) (Q : Option Value → a_HP → Prop) : Rn 204 1 ls st σ Q = acR 204 (o_i2l 2 ls st σ) ls σ Q := rn_row rfl ls st σ Q
theorem r_204_2 (ls : a_LS) (st : List Value) (σ : a_HP) (Q : Option Value → a_HP → Prop) : Rn 204 2 ls st σ Q = acR 204 (o_pl (lN 0) 3 ls st σ) ls σ Q := rn_row rfl ls st σ Q
theorem r_204_3 (ls : a_LS) (st : List Value) (σ : a_HP) (Q : Option Value → a_HP → Prop) : Rn 204 3 ls st σ Q = acR 204 (o_pl (lN 7) 6 ls st σ) ls σ Q := rn_row rfl ls st σ Q
theorem r_204_6 (ls : a_LS) (st : List Value) (σ : a_HP) (Q : Option Value → a_HP → Prop) : Rn 204 6 ls st σ Q = acR 204 (o_ivs 122 3 9 ls st σ) ls σ Q := rn_row rfl ls st σ Q
theorem r_204_9 (ls : a_LS) (st : List Value) (σ : a_HP) (Q : Option Value → a_HP → Prop) : Rn 204 9 ls st σ Q = acR 204 (o_eq 20 12 ls st σ) ls σ Q := rn_row rfl ls st σ Q
theorem r_204_12 (ls : a_LS) (st : List Value) (σ : a_HP) (Q : Option Value → a_HP → Prop) : Rn 204 12 ls st σ Q = acR 204 (o_lda 0 13 ls st σ) ls σ Q := rn_row rfl ls st σ Q
theorem r_204_13 (ls : a_LS) (st : List Value) (σ : a_HP) (Q : Option Value → a_HP → Prop) : Rn 204 13 ls st σ Q = acR 204 (o_ldi 1 14 ls st σ) ls σ Q := rn_row rfl ls st σ Q
theorem r_204_14 (ls : a_LS) (st : List Value) (σ : a_HP) (Q : Option Value → a_HP → Prop) : Rn 204 14 ls st σ Q = acR 204 (o_ivv 8 203 1 17 ls st σ) ls σ Q := rn_row rfl ls st σ Q
theorem r_204_17 (ls : a_LS) (st : List Value) (σ : a_HP) (Q : Option Value → a_HP → Prop) : Rn 204 17 ls st σ Q = acR 204 (o_go 24 ls st σ) ls σ Q := rn_row rfl ls st σ Q
theorem r_204_20 (ls : a_LS) (st : List Value) (σ : a_HP) (Q : Option Value → a_HP → Prop) : Rn 204 20 ls st σ Q = acR 204 (o_lda 0 21 ls st σ) ls σ Q := rn_row rfl ls st σ Q
theorem r_204_21 (ls : a_LS) (st : List Value) (σ : a_HP) (Q : Option Value → a_HP → Prop) : Rn 204 21 ls st σ Q = acR 204 (o_ivv 8 125 0 24 ls st σ) ls σ Q := rn_row rfl ls st σ Q
theorem r_204_24 (ls : a_LS) (st : List Value) (σ : a_HP) (Q : Option Value → a_HP → Prop) : Rn 204 24 ls st σ Q = acR 204 (o_ri ls st σ) ls σ Q := rn_row rfl ls st σ Q
/-! 205: NetLawModel.digest()J -/
theorem cl_205 (x0 : Nat) (σ : a_HP) (Q : Option Value → a_HP → Prop) : Cl 205 [.ref x0] σ Q = Rn 205 0 [some (.ref x0), none, none, none] [] σ Q := cl_of (Nat.le_of_ble_eq_true rfl) rfl σ Q
theorem r_205_0 (ls : a_LS) (st : List Value) (σ : a_HP) (Q : Option Value → a_HP → Prop) : Rn 205 0 ls st σ Q = acR 205 (o_pl (lN 1087) 3 ls st σ) ls σ Q := rn_row rfl ls st σ Q
theorem r_205_3 (ls : a_LS) (st : List Value) (σ : a_HP) (Q : Option Value → a_HP → Prop) : Rn 205 3 ls st σ Q = acR 205 (o_stl 1 4 ls st σ) ls σ Q := rn_row rfl ls st σ Q
theorem r_205_4 (ls : a_LS) (st : List Value) (σ : a_HP) (Q : Option Value → a_HP → Prop) : Rn 205 4 ls st σ Q = acR 205 (o_pi (nI 0) 5 ls st σ) ls σ Q := rn_row rfl ls st σ Q
theorem r_205_5 (ls : a_LS) (st : List Value) (σ : a_HP) (Q : Option Value → a_HP → Prop) : Rn 205 5 ls st σ Q = acR 205 (o_sti 3 6 ls st σ) ls σ Q := rn_row rfl ls st σ Q
theorem r_205_6 (ls : a_LS) (st : List Value) (σ : a_HP) (Q : Option Value → a_HP → Prop) : Rn 205 6 ls st σ Q = acR 205 (o_ldi 3 7 ls st σ) ls σ Q := rn_row rfl ls st σ Q
theorem r_205_7 (ls : a_LS) (st : List Value) (σ : a_HP) (Q : Option Value → a_HP → Prop) : Rn 205 7 ls st σ Q = acR 205 (o_pi (nI 8) 9 ls st σ) ls σ Q := rn_row rfl ls st σ Q
theorem r_205_9 (ls : a_LS) (st : List Value) (σ : a_HP) (Q : Option Value → a_HP → Prop) : Rn 205 9 ls st σ Q = acR 205 (o_cge 31 12 ls st σ) ls σ Q := rn_row rfl ls st σ Q
theorem r_205_12 (ls : a_LS) (st : List Value) (σ : a_HP) (Q : Option Value → a_HP → Prop) : Rn 205 12 ls st σ Q = acR 205 (o_pl (lN 31) 15 ls st σ) ls σ Q := rn_row rfl ls st σ Q
theorem r_205_15 (ls : a_LS) (st : List Value) (σ : a_HP) (Q : Option Value → a_HP → Prop) : Rn 205 15 ls st σ Q = acR 205 (o_ldl 1 16 ls st σ) ls σ Q := rn_row rfl ls st σ Q
theorem r_205_16 (ls : a_LS) (st : List Value) (σ : a_HP) (Q : Option Value → a_HP → Prop) : Rn 205 16 ls st σ Q = acR 205 (o_bl g_mul 17 ls st σ) ls σ Q := rn_row rfl ls st σ Q
theorem r_205_17 (ls : a_LS) (st : List Value) (σ : a_HP) (Q : Option Value → a_HP → Prop) : Rn 205 17 ls st σ Q = acR 205 (o_lda 0 18 ls st σ) ls σ Q := rn_row rfl ls st σ Q
theorem r_205_18 (ls : a_LS) (st : List Value) (σ : a_HP) (Q : Option Value → a_HP → Prop) : Rn 205 18 ls st σ Q = acR 205 (o_ldi 3 19 ls st σ) ls σ Q := rn_row rfl ls st σ Q
theorem r_205_19 (ls : a_LS) (st : List Value) (σ : a_HP) (Q : Option Value → a_HP → Prop) : Rn 205 19 ls st σ Q = acR 205 (o_ivv 8 203 1 22 ls st σ) ls σ Q := rn_row rfl ls st σ Q
theorem r_205_22 (ls : a_LS) (st : List Value) (σ : a_HP) (Q : Option Value → a_HP → Prop) : Rn 205 22 ls st σ Q = acR 205 (o_i2l 23 ls st σ) ls σ Q := rn_row rfl ls st σ Q
theorem r_205_23 (ls : a_LS) (st : List Value) (σ : a_HP) (Q : Option Value → a_HP → Prop) : Rn 205 23 ls st σ Q = acR 205 (o_bl g_add 24 ls st σ) ls σ Q := rn_row rfl ls st σ Q
theorem r_205_24 (ls : a_LS) (st : List Value) (σ : a_HP) (Q : Option Value → a_HP → Prop) : Rn 205 24 ls st σ Q = acR 205 (o_stl 1 25 ls st σ) ls σ Q := rn_row rfl ls st σ Q
theorem r_205_25 (ls : a_LS) (st : List Value) (σ : a_HP) (Q : Option Value → a_HP → Prop) : Rn 205 25 ls st σ Q = acR 205 (o_inc 3 (nI 1) 28 ls st σ) ls σ Q := rn_row rfl ls st σ Q
theorem r_205_28 (ls : a_LS) (st : List Value) (σ : a_HP) (Q : Option Value → a_HP → Prop) : Rn 205 28 ls st σ Q = acR 205 (o_go 6 ls st σ) ls σ Q := rn_row rfl ls st σ Q
theorem r_205_31 (ls : a_LS) (st : List Value) (σ : a_HP) (Q : Option Value → a_HP → Prop) : Rn 205 31 ls st σ Q = acR 205 (o_pi (nI 0) 32 ls st σ) ls σ Q := rn_row rfl ls st σ Q
theorem r_205_32 (ls : a_LS) (st : List Value) (σ : a_HP) (Q : Option Value → a_HP → Prop) : Rn 205 32 ls st σ Q = acR 205 (o_sti 3 33 ls st σ) ls σ Q := rn_row rfl ls st σ Q
theorem r_205_33 (ls : a_LS) (st : List Value) (σ : a_HP) (Q : Option Value → a_HP → Prop) : Rn 205 33 ls st σ Q = acR 205 (o_ldi 3 34 ls st σ) ls σ Q := rn_row rfl ls st σ Q
theorem r_205_34 (ls : a_LS) (st : List Value) (σ : a_HP) (Q : Option Value → a_HP → Prop) : Rn 205 34 ls st σ Q = acR 205 (o_pi (nI 16) 36 ls st σ) ls σ Q := rn_row rfl ls st σ Q
theorem r_205_36 (ls : a_LS) (st : List Value) (σ : a_HP) (Q : Option Value → a_HP → Prop) : Rn 205 36 ls st σ Q = acR 205 (o_cge 91 39 ls st σ) ls σ Q := rn_row rfl ls st σ Q
theorem r_205_39 (ls : a_LS) (st : List Value) (σ : a_HP) (Q : Option Value → a_HP → Prop) : Rn 205 39 ls st σ Q = acR 205 (o_pl (lN 31) 42 ls st σ) ls σ Q := rn_row rfl ls st σ Q
theorem r_205_42 (ls : a_LS) (st : List Value) (σ : a_HP) (Q : Option Value → a_HP → Prop) : Rn 205 42 ls st σ Q = acR 205 (o_pl (lN 31) 45 ls st σ) ls σ Q := rn_row rfl ls st σ Q
theorem r_205_45 (ls : a_LS) (st : List Value) (σ : a_HP) (Q : Option Value → a_HP → Prop) : Rn 205 45 ls st σ Q = acR 205 (o_pl (lN 31) 48 ls st σ) ls σ Q := rn_row rfl ls st σ Q
theorem r_205_48 (ls : a_LS) (st : List Value) (σ : a_HP) (Q : Option Value → a_HP → Prop) : Rn 205 48 ls st σ Q = acR 205 (o_ldl 1 49 ls st σ) ls σ Q := rn_row rfl ls st σ Q
theorem r_205_49 (ls : a_LS) (st : List Value) (σ : a_HP) (Q : Option Value → a_HP → Prop) : Rn 205 49 ls st σ Q = acR 205 (o_bl g_mul 50 ls st σ) ls σ Q := rn_row rfl ls st σ Q
theorem r_205_50 (ls : a_LS) (st : List Value) (σ : a_HP) (Q : Option Value → a_HP → Prop) : Rn 205 50 ls st σ Q = acR 205 (o_lda 0 51 ls st σ) ls σ Q := rn_row rfl ls st σ Q
theorem r_205_51 (ls : a_LS) (st : List Value) (σ : a_HP) (Q : Option Value → a_HP → Prop) : Rn 205 51 ls st σ Q = acR 205 (o_get 8 0 54 ls st σ) ls σ Q := rn_row rfl ls st σ Q
theorem r_205_54 (ls : a_LS) (st : List Value) (σ : a_HP) (Q : Option Value → a_HP → Prop) : Rn 205 54 ls st σ Q = acR 205 (o_pi (nI 4) 55 ls st σ) ls σ Q := rn_row rfl ls st σ Q
theorem r_205_55 (ls : a_LS) (st : List Value) (σ : a_HP) (Q : Option Value → a_HP → Prop) : Rn 205 55 ls st σ Q = acR 205 (o_ldi 3 56 ls st σ) ls σ Q := rn_row rfl ls st σ Q
theorem r_205_56 (ls : a_LS) (st : List Value) (σ : a_HP) (Q : Option Value → a_HP → Prop) : Rn 205 56 ls st σ Q = acR 205 (o_bi f_add 57 ls st σ) ls σ Q := rn_row rfl ls st σ Q
theorem r_205_57 (ls : a_LS) (st : List Value) (σ : a_HP) (Q : Option Value → a_HP → Prop) : Rn 205 57 ls st σ Q = acR 205 (o_ial 58 ls st σ) ls σ Q := rn_row rfl ls st σ Q
theorem r_205_58 (ls : a_LS) (st : List Value) (σ : a_HP) (Q : Option Value → a_HP → Prop) : Rn 205 58 ls st σ Q = acR 205 (o_i2l 59 ls st σ) ls σ Q := rn_row rfl ls st σ Q
theorem r_205_59 (ls : a_LS) (st : List Value) (σ : a_HP) (Q : Option Value → a_HP → Prop) : Rn 205 59 ls st σ Q = acR 205 (o_bl g_add 60 ls st σ) ls σ Q := rn_row rfl ls st σ Q
theorem r_205_60 (ls : a_LS) (st : List Value) (σ : a_HP) (Q : Option Value → a_HP → Prop) : Rn 205 60 ls st σ Q = acR 205 (o_bl g_mul 61 ls st σ) ls σ Q := rn_row rfl ls st σ Q
theorem r_205_61 (ls : a_LS) (st : List Value) (σ : a_HP) (Q : Option Value → a_HP → Prop) : Rn 205 61 ls st σ Q = acR 205 (o_lda 0 62 ls st σ) ls σ Q := rn_row rfl ls st σ Q
theorem r_205_62 (ls : a_LS) (st : List Value) (σ : a_HP) (Q : Option Value → a_HP → Prop) : Rn 205 62 ls st σ Q = acR 205 (o_get 8 0 65 ls st σ) ls σ Q := rn_row rfl ls st σ Q
theorem r_205_65 (ls : a_LS) (st : List Value) (σ : a_HP) (Q : Option Value → a_HP → Prop) : Rn 205 65 ls st σ Q = acR 205 (o_pi (nI 20) 67 ls st σ) ls σ Q := rn_row rfl ls st σ Q
theorem r_205_67 (ls : a_LS) (st : List Value) (σ : a_HP) (Q : Option Value → a_HP → Prop) : Rn 205 67 ls st σ Q = acR 205 (o_ldi 3 68 ls st σ) ls σ Q := rn_row rfl ls st σ Q
theorem r_205_68 (ls : a_LS) (st : List Value) (σ : a_HP) (Q : Option Value → a_HP → Prop) : Rn 205 68 ls st σ Q = acR 205 (o_bi f_add 69 ls st σ) ls σ Q := rn_row rfl ls st σ Q
theorem r_205_69 (ls : a_LS) (st : List Value) (σ : a_HP) (Q : Option Value → a_HP → Prop) : Rn 205 69 ls st σ Q = acR 205 (o_ial 70 ls st σ) ls σ Q := rn_row rfl ls st σ Q
theorem r_205_70 (ls : a_LS) (st : List Value) (σ : a_HP) (Q : Option Value → a_HP → Prop) : Rn 205 70 ls st σ Q = acR 205 (o_i2l 71 ls st σ) ls σ Q := rn_row rfl ls st σ Q
theorem r_205_71 (ls : a_LS) (st : List Value) (σ : a_HP) (Q : Option Value → a_HP → Prop) : Rn 205 71 ls st σ Q = acR 205 (o_bl g_add 72 ls st σ) ls σ Q := rn_row rfl ls st σ Q
theorem r_205_72 (ls : a_LS) (st : List Value) (σ : a_HP) (Q : Option Value → a_HP → Prop) : Rn 205 72 ls st σ Q = acR 205 (o_bl g_mul 73 ls st σ) ls σ Q := rn_row rfl ls st σ Q
theorem r_205_73 (ls : a_LS) (st : List Value) (σ : a_HP) (Q : Option Value → a_HP → Prop) : Rn 205 73 ls st σ Q = acR 205 (o_lda 0 74 ls st σ) ls σ Q := rn_row rfl ls st σ Q
theorem r_205_74 (ls : a_LS) (st : List Value) (σ : a_HP) (Q : Option Value → a_HP → Prop) : Rn 205 74 ls st σ Q = acR 205 (o_get 8 0 77 ls st σ) ls σ Q := rn_row rfl ls st σ Q
theorem r_205_77 (ls : a_LS) (st : List Value) (σ : a_HP) (Q : Option Value → a_HP → Prop) : Rn 205 77 ls st σ Q = acR 205 (o_pi (nI 36) 79 ls st σ) ls σ Q := rn_row rfl ls st σ Q
theorem r_205_79 (ls : a_LS) (st : List Value) (σ : a_HP) (Q : Option Value → a_HP → Prop) : Rn 205 79 ls st σ Q = acR 205 (o_ldi 3 80 ls st σ) ls σ Q := rn_row rfl ls st σ Q
theorem r_205_80 (ls : a_LS) (st : List Value) (σ : a_HP) (Q : Option Value → a_HP → Prop) : Rn 205 80 ls st σ Q = acR 205 (o_bi f_add 81 ls st σ) ls σ Q := rn_row rfl ls st σ Q
theorem r_205_81 (ls : a_LS) (st : List Value) (σ : a_HP) (Q : Option Value → a_HP → Prop) : Rn 205 81 ls st σ Q = acR 205 (o_ial 82 ls st σ) ls σ Q := rn_row rfl ls st σ Q
theorem r_205_82 (ls : a_LS) (st : List Value) (σ : a_HP) (Q : Option Value → a_HP → Prop) : Rn 205 82 ls st σ Q = acR 205 (o_i2l 83 ls st σ) ls σ Q := rn_row rfl ls st σ Q
theorem r_205_83 (ls : a_LS) (st : List Value) (σ : a_HP) (Q : Option Value → a_HP → Prop) : Rn 205 83 ls st σ Q = acR 205 (o_bl g_add 84 ls st σ) ls σ Q := rn_row rfl ls st σ Q
theorem r_205_84 (ls : a_LS) (st : List Value) (σ : a_HP) (Q : Option Value → a_HP → Prop) : Rn 205 84 ls st σ Q = acR 205 (o_stl 1 85 ls st σ) ls σ Q := rn_row rfl ls st σ Q
theorem r_205_85 (ls : a_LS) (st : List Value) (σ : a_HP) (Q : Option Value → a_HP → Prop) : Rn 205 85 ls st σ Q = acR 205 (o_inc 3 (nI 1) 88 ls st σ) ls σ Q := rn_row rfl ls st σ Q
theorem r_205_88 (ls : a_LS) (st : List Value) (σ : a_HP) (Q : Option Value → a_HP → Prop) : Rn 205 88 ls st σ Q = acR 205 (o_go 33 ls st σ) ls σ Q := rn_row rfl ls st σ Q
theorem r_205_91 (ls : a_LS) (st : List Value) (σ : a_HP) (Q : Option Value → a_HP → Prop) : Rn 205 91 ls st σ Q = acR 205 (o_pi (nI 0) 92 ls st σ) ls σ Q := rn_row rfl ls st σ Q
theorem r_205_92 (ls : a_LS) (st : List Value) (σ : a_HP) (Q : Option Value → a_HP → Prop) : Rn 205 92 ls st σ Q = acR 205 (o_sti 3 93 ls st σ) ls σ Q := rn_row rfl ls st σ Q
theorem r_205_93 (ls : a_LS) (st : List Value) (σ : a_HP) (Q : Option Value → a_HP → Prop) : Rn 205 93 ls st σ Q = acR 205 (o_ldi 3 94 ls st σ) ls σ Q := rn_row rfl ls st σ Q
theorem r_205_94 (ls : a_LS) (st : List Value) (σ : a_HP) (Q : Option Value → a_HP → Prop) : Rn 205 94 ls st σ Q = acR 205 (o_pi (nI 9) 96 ls st σ) ls σ Q := rn_row rfl ls st σ Q
theorem r_205_96 (ls : a_LS) (st : List Value) (σ : a_HP) (Q : Option Value → a_HP → Prop) : Rn 205 96 ls st σ Q = acR 205 (o_cge 122 99 ls st σ) ls σ Q := rn_row rfl ls st σ Q
theorem r_205_99 (ls : a_LS) (st : List Value) (σ : a_HP) (Q : Option Value → a_HP → Prop) : Rn 205 99 ls st σ Q = acR 205 (o_pl (lN 31) 102 ls st σ) ls σ Q := rn_row rfl ls st σ Q
theorem r_205_102 (ls : a_LS) (st : List Value) (σ : a_HP) (Q : Option Value → a_HP → Prop) : Rn 205 102 ls st σ Q = acR 205 (o_ldl 1 103 ls st σ) ls σ Q := rn_row rfl ls st σ Q
theorem r_205_103 (ls : a_LS) (st : List Value) (σ : a_HP) (Q : Option Value → a_HP → Prop) : Rn 205 103 ls st σ Q = acR 205 (o_bl g_mul 104 ls st σ) ls σ Q := rn_row rfl ls st σ Q
theorem r_205_104 (ls : a_LS) (st : List Value) (σ : a_HP) (Q : Option Value → a_HP → Prop) : Rn 205 104 ls st σ Q = acR 205 (o_lda 0 105 ls st σ) ls σ Q := rn_row rfl ls st σ Q
theorem r_205_105 (ls : a_LS) (st : List Value) (σ : a_HP) (Q : Option Value → a_HP → Prop) : Rn 205 105 ls st σ Q = acR 205 (o_get 8 0 108 ls st σ) ls σ Q := rn_row rfl ls st σ Q
theorem r_205_108 (ls : a_LS) (st : List Value) (σ : a_HP) (Q : Option Value → a_HP → Prop) : Rn 205 108 ls st σ Q = acR 205 (o_pi (nI 52) 110 ls st σ) ls σ Q := rn_row rfl ls st σ Q
theorem r_205_110 (ls : a_LS) (st : List Value) (σ : a_HP) (Q : Option Value → a_HP → Prop) : Rn 205 110 ls st σ Q = acR 205 (o_ldi 3 111 ls st σ) ls σ Q := rn_row rfl ls st σ Q
theorem r_205_111 (ls : a_LS) (st : List Value) (σ : a_HP) (Q : Option Value → a_HP → Prop) : Rn 205 111 ls st σ Q = acR 205 (o_bi f_add 112 ls st σ) ls σ Q := rn_row rfl ls st σ Q
theorem r_205_112 (ls : a_LS) (st : List Value) (σ : a_HP) (Q : Option Value → a_HP → Prop) : Rn 205 112 ls st σ Q = acR 205 (o_ial 113 ls st σ) ls σ Q := rn_row rfl ls st σ Q
theorem r_205_113 (ls : a_LS) (st : List Value) (σ : a_HP) (Q : Option Value → a_HP → Prop) : Rn 205 113 ls st σ Q = acR 205 (o_i2l 114 ls st σ) ls σ Q := rn_row rfl ls st σ Q
theorem r_205_114 (ls : a_LS) (st : List Value) (σ : a_HP) (Q : Option Value → a_HP → Prop) : Rn 205 114 ls st σ Q = acR 205 (o_bl g_add 115 ls st σ) ls σ Q := rn_row rfl ls st σ Q
theorem r_205_115 (ls : a_LS) (st : List Value) (σ : a_HP) (Q : Option Value → a_HP → Prop) : Rn 205 115 ls st σ Q = acR 205 (o_stl 1 116 ls st σ) ls σ Q := rn_row rfl ls st σ Q
theorem r_205_116 (ls : a_LS) (st : List Value) (σ : a_HP) (Q : Option Value → a_HP → Prop) : Rn 205 116 ls st σ Q = acR 205 (o_inc 3 (nI 1) 119 ls st σ) ls σ Q := rn_row rfl ls st σ Q
theorem r_205_119 (ls : a_LS) (st : List Value) (σ : a_HP) (Q : Option Value → a_HP → Prop) : Rn 205 119 ls st σ Q = acR 205 (o_go 93 ls st σ) ls σ Q := rn_row rfl ls st σ Q
theorem r_205_122 (ls : a_LS) (st : List Value) (σ : a_HP) (Q : Option Value → a_HP → Prop) : Rn 205 122 ls st σ Q = acR 205 (o_pi (nI 0) 123 ls st σ) ls σ Q := rn_row rfl ls st σ Q
theorem r_205_123 (ls : a_LS) (st : List Value) (σ : a_HP) (Q : Option Value → a_HP → Prop) : Rn 205 123 ls st σ Q = acR 205 (o_sti 3 124 ls st σ) ls σ Q := rn_row rfl ls st σ Q
theorem r_205_124 (ls : a_LS) (st : List Value) (σ : a_HP) (Q : Option Value → a_HP → Prop) : Rn 205 124 ls st σ Q = acR 205 (o_ldi 3 125 ls st σ) ls σ Q := rn_row rfl ls st σ Q
theorem r_205_125 (ls : a_LS) (st : List Value) (σ : a_HP) (Q : Option Value → a_HP → Prop) : Rn 205 125 ls st σ Q = acR 205 (o_pi (nI 3) 126 ls st σ) ls σ Q := rn_row rfl ls st σ Q
theorem r_205_126 (ls : a_LS) (st : List Value) (σ : a_HP) (Q : Option Value → a_HP → Prop) : Rn 205 126 ls st σ Q = acR 205 (o_lda 0 127 ls st σ) ls σ Q := rn_row rfl ls st σ Q
theorem r_205_127 (ls : a_LS) (st : List Value) (σ : a_HP) (Q : Option Value → a_HP → Prop) : Rn 205 127 ls st σ Q = acR 205 (o_get 8 0 130 ls st σ) ls σ Q := rn_row rfl ls st σ Q
theorem r_205_130 (ls : a_LS) (st : List Value) (σ : a_HP) (Q : Option Value → a_HP → Prop) : Rn 205 130 ls st σ Q = acR 205 (o_pi (nI 61) 132 ls st σ) ls σ Q := rn_row rfl ls st σ Q
theorem r_205_132 (ls : a_LS) (st : List Value) (σ : a_HP) (Q : Option Value → a_HP → Prop) : Rn 205 132 ls st σ Q = acR 205 (o_ial 133 ls st σ) ls σ Q := rn_row rfl ls st σ Q
theorem r_205_133 (ls : a_LS) (st : List Value) (σ : a_HP) (Q : Option Value → a_HP → Prop) : Rn 205 133 ls st σ Q = acR 205 (o_bi f_mul 134 ls st σ) ls σ Q := rn_row rfl ls st σ Q
theorem r_205_134 (ls : a_LS) (st : List Value) (σ : a_HP) (Q : Option Value → a_HP → Prop) : Rn 205 134 ls st σ Q = acR 205 (o_cge 160 137 ls st σ) ls σ Q := rn_row rfl ls st σ Q
theorem r_205_137 (ls : a_LS) (st : List Value) (σ : a_HP) (Q : Option Value → a_HP → Prop) : Rn 205 137 ls st σ Q = acR 205 (o_pl (lN 31) 140 ls st σ) ls σ Q := rn_row rfl ls st σ Q
theorem r_205_140 (ls : a_LS) (st : List Value) (σ : a_HP) (Q : Option Value → a_HP → Prop) : Rn 205 140 ls st σ Q = acR 205 (o_ldl 1 141 ls st σ) ls σ Q := rn_row rfl ls st σ Q
theorem r_205_141 (ls : a_LS) (st : List Value) (σ : a_HP) (Q : Option Value → a_HP → Prop) : Rn 205 141 ls st σ Q = acR 205 (o_bl g_mul 142 ls st σ) ls σ Q := rn_row rfl ls st σ Q
theorem r_205_142 (ls : a_LS) (st : List Value) (σ : a_HP) (Q : Option Value → a_HP → Prop) : Rn 205 142 ls st σ Q = acR 205 (o_lda 0 143 ls st σ) ls σ Q := rn_row rfl ls st σ Q
theorem r_205_143 (ls : a_LS) (st : List Value) (σ : a_HP) (Q : Option Value → a_HP → Prop) : Rn 205 143 ls st σ Q = acR 205 (o_get 8 0 146 ls st σ) ls σ Q := rn_row rfl ls st σ Q
theorem r_205_146 (ls : a_LS) (st : List Value) (σ : a_HP) (Q : Option Value → a_HP → Prop) : Rn 205 146 ls st σ Q = acR 205 (o_pi (nI 62) 148 ls st σ) ls σ Q := rn_row rfl ls st σ Q
theorem r_205_148 (ls : a_LS) (st : List Value) (σ : a_HP) (Q : Option Value → a_HP → Prop) : Rn 205 148 ls st σ Q = acR 205 (o_ldi 3 149 ls st σ) ls σ Q := rn_row rfl ls st σ Q
theorem r_205_149 (ls : a_LS) (st : List Value) (σ : a_HP) (Q : Option Value → a_HP → Prop) : Rn 205 149 ls st σ Q = acR 205 (o_bi f_add 150 ls st σ) ls σ Q := rn_row rfl ls st σ Q
theorem r_205_150 (ls : a_LS) (st : List Value) (σ : a_HP) (Q : Option Value → a_HP → Prop) : Rn 205 150 ls st σ Q = acR 205 (o_ial 151 ls st σ) ls σ Q := rn_row rfl ls st σ Q
theorem r_205_151 (ls : a_LS) (st : List Value) (σ : a_HP) (Q : Option Value → a_HP → Prop) : Rn 205 151 ls st σ Q = acR 205 (o_i2l 152 ls st σ) ls σ Q := rn_row rfl ls st σ Q
theorem r_205_152 (ls : a_LS) (st : List Value) (σ : a_HP) (Q : Option Value → a_HP → Prop) : Rn 205 152 ls st σ Q = acR 205 (o_bl g_add 153 ls st σ) ls σ Q := rn_row rfl ls st σ Q
theorem r_205_153 (ls : a_LS) (st : List Value) (σ : a_HP) (Q : Option Value → a_HP → Prop) : Rn 205 153 ls st σ Q = acR 205 (o_stl 1 154 ls st σ) ls σ Q := rn_row rfl ls st σ Q
theorem r_205_154 (ls : a_LS) (st : List Value) (σ : a_HP) (Q : Option Value → a_HP → Prop) : Rn 205 154 ls st σ Q = acR 205 (o_inc 3 (nI 1) 157 ls st σ) ls σ Q := rn_row rfl ls st σ Q
theorem r_205_157 (ls : a_LS) (st : List Value) (σ : a_HP) (Q : Option Value → a_HP → Prop) : Rn 205 157 ls st σ Q = acR 205 (o_go 124 ls st σ) ls σ Q := rn_row rfl ls st σ Q
theorem r_205_160 (ls : a_LS) (st : List Value) (σ : a_HP) (Q : Option Value → a_HP → Prop) : Rn 205 160 ls st σ Q = acR 205 (o_pl (lN 31) 163 ls st σ) ls σ Q := rn_row rfl ls st σ Q
theorem r_205_163 (ls : a_LS) (st : List Value) (σ : a_HP) (Q : Option Value → a_HP → Prop) : Rn 205 163 ls st σ Q = acR 205 (o_pl (lN 31) 166 ls st σ) ls σ Q := rn_row rfl ls st σ Q
theorem r_205_166 (ls : a_LS) (st : List Value) (σ : a_HP) (Q : Option Value → a_HP → Prop) : Rn 205 166 ls st σ Q = acR 205 (o_ldl 1 167 ls st σ) ls σ Q := rn_row rfl ls st σ Q
theorem r_205_167 (ls : a_LS) (st : List Value) (σ : a_HP) (Q : Option Value → a_HP → Prop) : Rn 205 167 ls st σ Q = acR 205 (o_bl g_mul 168 ls st σ) ls σ Q := rn_row rfl ls st σ Q
theorem r_205_168 (ls : a_LS) (st : List Value) (σ : a_HP) (Q : Option Value → a_HP → Prop) : Rn 205 168 ls st σ Q = acR 205 (o_lda 0 169 ls st σ) ls σ Q := rn_row rfl ls st σ Q
theorem r_205_169 (ls : a_LS) (st : List Value) (σ : a_HP) (Q : Option Value → a_HP → Prop) : Rn 205 169 ls st σ Q = acR 205 (o_get 8 7 172 ls st σ) ls σ Q := rn_row rfl ls st σ Q
theorem r_205_172 (ls : a_LS) (st : List Value) (σ : a_HP) (Q : Option Value → a_HP → Prop) : Rn 205 172 ls st σ Q = acR 205 (o_bl g_add 173 ls st σ) ls σ Q := rn_row rfl ls st σ Q
theorem r_205_173 (ls : a_LS) (st : List Value) (σ : a_HP) (Q : Option Value → a_HP → Prop) : Rn 205 173 ls st σ Q = acR 205 (o_bl g_mul 174 ls st σ) ls σ Q := rn_row rfl ls st σ Q
theorem r_205_174 (ls : a_LS) (st : List Value) (σ : a_HP) (Q : Option Value → a_HP → Prop) : Rn 205 174 ls st σ Q = acR 205 (o_lda 0 175 ls st σ) ls σ Q := rn_row rfl ls st σ Q
theorem r_205_175 (ls : a_LS) (st : List Value) (σ : a_HP) (Q : Option Value → a_HP → Prop) : Rn 205 175 ls st σ Q = acR 205 (o_get 8 8 178 ls st σ) ls σ Q := rn_row rfl ls st σ Q
theorem r_205_178 (ls : a_LS) (st : List Value) (σ : a_HP) (Q : Option Value → a_HP → Prop) : Rn 205 178 ls st σ Q = acR 205 (o_bl g_add 179 ls st σ) ls σ Q := rn_row rfl ls st σ Q
theorem r_205_179 (ls : a_LS) (st : List Value) (σ : a_HP) (Q : Option Value → a_HP → Prop) : Rn 205 179 ls st σ Q = acR 205 (o_rl ls st σ) ls σ Q := rn_row rfl ls st σ Q
/-! 206: java/lang/Integer.bitCount(I)I -/
theorem cl_206 (x0 : Int32) (σ : a_HP) (Q : Option Value → a_HP → Prop) : Cl 206 [.int x0] σ Q = Rn 206 0 [some (.int x0)] [] σ Q := cl_of (Nat.le_of_ble_eq_true rfl) rfl σ Q
theorem r_206_0 (ls : a_LS) (st : List Value) (σ : a_HP) (Q : Option Value → a_HP → Prop) : Rn 206 0 ls st σ Q = acR 206 (o_ldi 0 1 ls st σ) ls σ Q := rn_row rfl ls st σ Q
theorem r_206_1 (ls : a_LS) (st : List Value) (σ : a_HP) (Q : Option Value → a_HP → Prop) : Rn 206 1 ls st σ Q = acR 206 (o_ldi 0 2 ls st σ) ls σ Q := rn_row rfl ls st σ Q
theorem r_206_2 (ls : a_LS) (st : List Value) (σ : a_HP) (Q : Option Value → a_HP → Prop) : Rn 206 2 ls st σ Q = acR 206 (o_pi (nI 1) 3 ls st σ) ls σ Q := rn_row rfl ls st σ Q
theorem r_206_3 (ls : a_LS) (st : List Value) (σ : a_HP) (Q : Option Value → a_HP → Prop) : Rn 206 3 ls st σ Q = acR 206 (o_bi f_ush 4 ls st σ) ls σ Q := rn_row rfl ls st σ Q
theorem r_206_4 (ls : a_LS) (st : List Value) (σ : a_HP) (Q : Option Value → a_HP → Prop) : Rn 206 4 ls st σ Q = acR 206 (o_pi (1431655765) 7 ls st σ) ls σ Q := rn_row rfl ls st σ Q
theorem r_206_7 (ls : a_LS) (st : List Value) (σ : a_HP) (Q : Option Value → a_HP → Prop) : Rn 206 7 ls st σ Q = acR 206 (o_bi f_and 8 ls st σ) ls σ Q := rn_row rfl ls st σ Q
theorem r_206_8 (ls : a_LS) (st : List Value) (σ : a_HP) (Q : Option Value → a_HP → Prop) : Rn 206 8 ls st σ Q = acR 206 (o_bi f_sub 9 ls st σ) ls σ Q := rn_row rfl ls st σ Q
theorem r_206_9 (ls : a_LS) (st : List Value) (σ : a_HP) (Q : Option Value → a_HP → Prop) : Rn 206 9 ls st σ Q = acR 206 (o_sti 0 10 ls st σ) ls σ Q := rn_row rfl ls st σ Q
theorem r_206_10 (ls : a_LS) (st : List Value) (σ : a_HP) (Q : Option Value → a_HP → Prop) : Rn 206 10 ls st σ Q = acR 206 (o_ldi 0 11 ls st σ) ls σ Q := rn_row rfl ls st σ Q
theorem r_206_11 (ls : a_LS) (st : List Value) (σ : a_HP) (Q : Option Value → a_HP → Prop) : Rn 206 11 ls st σ Q = acR 206 (o_pi (858993459) 14 ls st σ) ls σ Q := rn_row rfl ls st σ Q
theorem r_206_14 (ls : a_LS) (st : List Value) (σ : a_HP) (Q : Option Value → a_HP → Prop) : Rn 206 14 ls st σ Q = acR 206 (o_bi f_and 15 ls st σ) ls σ Q := rn_row rfl ls st σ Q
theorem r_206_15 (ls : a_LS) (st : List Value) (σ : a_HP) (Q : Option Value → a_HP → Prop) : Rn 206 15 ls st σ Q = acR 206 (o_ldi 0 16 ls st σ) ls σ Q := rn_row rfl ls st σ Q
theorem r_206_16 (ls : a_LS) (st : List Value) (σ : a_HP) (Q : Option Value → a_HP → Prop) : Rn 206 16 ls st σ Q = acR 206 (o_pi (nI 2) 17 ls st σ) ls σ Q := rn_row rfl ls st σ Q
theorem r_206_17 (ls : a_LS) (st : List Value) (σ : a_HP) (Q : Option Value → a_HP → Prop) : Rn 206 17 ls st σ Q = acR 206 (o_bi f_ush 18 ls st σ) ls σ Q := rn_row rfl ls st σ Q
theorem r_206_18 (ls : a_LS) (st : List Value) (σ : a_HP) (Q : Option Value → a_HP → Prop) : Rn 206 18 ls st σ Q = acR 206 (o_pi (858993459) 21 ls st σ) ls σ Q := rn_row rfl ls st σ Q
theorem r_206_21 (ls : a_LS) (st : List Value) (σ : a_HP) (Q : Option Value → a_HP → Prop) : Rn 206 21 ls st σ Q = acR 206 (o_bi f_and 22 ls st σ) ls σ Q := rn_row rfl ls st σ Q
theorem r_206_22 (ls : a_LS) (st : List Value) (σ : a_HP) (Q : Option Value → a_HP → Prop) : Rn 206 22 ls st σ Q = acR 206 (o_bi f_add 23 ls st σ) ls σ Q := rn_row rfl ls st σ Q
theorem r_206_23 (ls : a_LS) (st : List Value) (σ : a_HP) (Q : Option Value → a_HP → Prop) : Rn 206 23 ls st σ Q = acR 206 (o_sti 0 24 ls st σ) ls σ Q := rn_row rfl ls st σ Q
theorem r_206_24 (ls : a_LS) (st : List Value) (σ : a_HP) (Q : Option Value → a_HP → Prop) : Rn 206 24 ls st σ Q = acR 206 (o_ldi 0 25 ls st σ) ls σ Q := rn_row rfl ls st σ Q
theorem r_206_25 (ls : a_LS) (st : List Value) (σ : a_HP) (Q : Option Value → a_HP → Prop) : Rn 206 25 ls st σ Q = acR 206 (o_ldi 0 26 ls st σ) ls σ Q := rn_row rfl ls st σ Q
theorem r_206_26 (ls : a_LS) (st : List Value) (σ : a_HP) (Q : Option Value → a_HP → Prop) : Rn 206 26 ls st σ Q = acR 206 (o_pi (nI 4) 27 ls st σ) ls σ Q := rn_row rfl ls st σ Q
theorem r_206_27 (ls : a_LS) (st : List Value) (σ : a_HP) (Q : Option Value → a_HP → Prop) : Rn 206 27 ls st σ Q = acR 206 (o_bi f_ush 28 ls st σ) ls σ Q := rn_row rfl ls st σ Q
theorem r_206_28 (ls : a_LS) (st : List Value) (σ : a_HP) (Q : Option Value → a_HP → Prop) : Rn 206 28 ls st σ Q = acR 206 (o_bi f_add 29 ls st σ) ls σ Q := rn_row rfl ls st σ Q
theorem r_206_29 (ls : a_LS) (st : List Value) (σ : a_HP) (Q : Option Value → a_HP → Prop) : Rn 206 29 ls st σ Q = acR 206 (o_pi (252645135) 32 ls st σ) ls σ Q := rn_row rfl ls st σ Q
theorem r_206_32 (ls : a_LS) (st : List Value) (σ : a_HP) (Q : Option Value → a_HP → Prop) : Rn 206 32 ls st σ Q = acR 206 (o_bi f_and 33 ls st σ) ls σ Q := rn_row rfl ls st σ Q
theorem r_206_33 (ls : a_LS) (st : List Value) (σ : a_HP) (Q : Option Value → a_HP → Prop) : Rn 206 33 ls st σ Q = acR 206 (o_sti 0 34 ls st σ) ls σ Q := rn_row rfl ls st σ Q
theorem r_206_34 (ls : a_LS) (st : List Value) (σ : a_HP) (Q : Option Value → a_HP → Prop) : Rn 206 34 ls st σ Q = acR 206 (o_ldi 0 35 ls st σ) ls σ Q := rn_row rfl ls st σ Q
theorem r_206_35 (ls : a_LS) (st : List Value) (σ : a_HP) (Q : Option Value → a_HP → Prop) : Rn 206 35 ls st σ Q = acR 206 (o_ldi 0 36 ls st σ) ls σ Q := rn_row rfl ls st σ Q
theorem r_206_36 (ls : a_LS) (st : List Value) (σ : a_HP) (Q : Option Value → a_HP → Prop) : Rn 206 36 ls st σ Q = acR 206 (o_pi (nI 8) 38 ls st σ) ls σ Q := rn_row rfl ls st σ Q
theorem r_206_38 (ls : a_LS) (st : List Value) (σ : a_HP) (Q : Option Value → a_HP → Prop) : Rn 206 38 ls st σ Q = acR 206 (o_bi f_ush 39 ls st σ) ls σ Q := rn_row rfl ls st σ Q
theorem r_206_39 (ls : a_LS) (st : List Value) (σ : a_HP) (Q : Option Value → a_HP → Prop) : Rn 206 39 ls st σ Q = acR 206 (o_bi f_add 40 ls st σ) ls σ Q := rn_row rfl ls st σ Q
theorem r_206_40 (ls : a_LS) (st : List Value) (σ : a_HP) (Q : Option Value → a_HP → Prop) : Rn 206 40 ls st σ Q = acR 206 (o_sti 0 41 ls st σ) ls σ Q := rn_row rfl ls st σ Q
theorem r_206_41 (ls : a_LS) (st : List Value) (σ : a_HP) (Q : Option Value → a_HP → Prop) : Rn 206 41 ls st σ Q = acR 206 (o_ldi 0 42 ls st σ) ls σ Q := rn_row rfl ls st σ Q
theorem r_206_42 (ls : a_LS) (st : List Value) (σ : a_HP) (Q : Option Value → a_HP → Prop) : Rn 206 42 ls st σ Q = acR 206 (o_ldi 0 43 ls st σ) ls σ Q := rn_row rfl ls st σ Q
theorem r_206_43 (ls : a_LS) (st : List Value) (σ : a_HP) (Q : Option Value → a_HP → Prop) : Rn 206 43 ls st σ Q = acR 206 (o_pi (nI 16) 45 ls st σ) ls σ Q := rn_row rfl ls st σ Q
theorem r_206_45 (ls : a_LS) (st : List Value) (σ : a_HP) (Q : Option Value → a_HP → Prop) : Rn 206 45 ls st σ Q = acR 206 (o_bi f_ush 46 ls st σ) ls σ Q := rn_row rfl ls st σ Q
theorem r_206_46 (ls : a_LS) (st : List Value) (σ : a_HP) (Q : Option Value → a_HP → Prop) : Rn 206 46 ls st σ Q = acR 206 (o_bi f_add 47 ls st σ) ls σ Q := rn_row rfl ls st σ Q
theorem r_206_47 (ls : a_LS) (st : List Value) (σ : a_HP) (Q : Option Value → a_HP → Prop) : Rn 206 47 ls st σ Q = acR 206 (o_sti 0 48 ls st σ) ls σ Q := rn_row rfl ls st σ Q
theorem r_206_48 (ls : a_LS) (st : List Value) (σ : a_HP) (Q : Option Value → a_HP → Prop) : Rn 206 48 ls st σ Q = acR 206 (o_ldi 0 49 ls st σ) ls σ Q := rn_row rfl ls st σ Q
theorem r_206_49 (ls : a_LS) (st : List Value) (σ : a_HP) (Q : Option Value → a_HP → Prop) : Rn 206 49 ls st σ Q = acR 206 (o_pi (nI 63) 51 ls st σ) ls σ Q := rn_row rfl ls st σ Q
theorem r_206_51 (ls : a_LS) (st : List Value) (σ : a_HP) (Q : Option Value → a_HP → Prop) : Rn 206 51 ls st σ Q = acR 206 (o_bi f_and 52 ls st σ) ls σ Q := rn_row rfl ls st σ Q
theorem r_206_52 (ls : a_LS) (st : List Value) (σ : a_HP) (Q : Option Value → a_HP → Prop) : Rn 206 52 ls st σ Q = acR 206 (o_ri ls st σ) ls σ Q := rn_row rfl ls st σ Q
/-! 207: java/lang/Math.max(II)I -/
theorem cl_207 (x0 : Int32) (x1 : Int32) (σ : a_HP) (Q : Option Value → a_HP → Prop) : Cl 207 [.int x0, .int x1] σ Q = Rn 207 0 [some (.int x0), some (.int x1)] [] σ Q := cl_of (Nat.le_of_ble_eq_true rfl) rfl σ Q
theorem r_207_0 (ls : a_LS) (st : List Value) (σ : a_HP) (Q : Option Value → a_HP → Prop) : Rn 207 0 ls st σ Q = acR 207 (o_ldi 0 1 ls st σ) ls σ Q := rn_row rfl ls st σ Q
theorem r_207_1 (ls : a_LS) (st : List Value) (σ : a_HP) (Q : Option Value → a_HP → Prop) : Rn 207 1 ls st σ Q = acR 207 (o_ldi 1 2 ls st σ) ls σ Q := rn_row rfl ls st σ Q
theorem r_207_2 (ls : a_LS) (st : List Value) (σ : a_HP) (Q : Option Value → a_HP → Prop) : Rn 207 2 ls st σ Q = acR 207 (o_clt 9 5 ls st σ) ls σ Q := rn_row rfl ls st σ Q
theorem r_207_5 (ls : a_LS) (st : List Value) (σ : a_HP) (Q : Option Value → a_HP → Prop) : Rn 207 5 ls st σ Q = acR 207 (o_ldi 0 6 ls st σ) ls σ Q := rn_row rfl ls st σ Q
theorem r_207_6 (ls : a_LS) (st : List Value) (σ : a_HP) (Q : Option Value → a_HP → Prop) : Rn 207 6 ls st σ Q = acR 207 (o_go 10 ls st σ) ls σ Q := rn_row rfl ls st σ Q
theorem r_207_9 (ls : a_LS) (st : List Value) (σ : a_HP) (Q : Option Value → a_HP → Prop) : Rn 207 9 ls st σ Q = acR 207 (o_ldi 1 10 ls st σ) ls σ Q := rn_row rfl ls st σ Q
theorem r_207_10 (ls : a_LS) (st : List Value) (σ : a_HP) (Q : Option Value → a_HP → Prop) : Rn 207 10 ls st σ Q = acR 207 (o_ri ls st σ) ls σ Q := rn_row rfl ls st σ Q
/-! 208: java/lang/Math.min(II)I -/
theorem cl_208 (x0 : Int32) (x1 : Int32) (σ : a_HP) (Q : Option Value → a_HP → Prop) : Cl 208 [.int x0, .int x1] σ Q = Rn 208 0 [some (.int x0), some (.int x1)] [] σ Q := cl_of (Nat.le_of_ble_eq_true rfl) rfl σ Q
theorem r_208_0 (ls : a_LS) (st : List Value) (σ : a_HP) (Q : Option Value → a_HP → Prop) : Rn 208 0 ls st σ Q = acR 208 (o_ldi 0 1 ls st σ) ls σ Q := rn_row rfl ls st σ Q
theorem r_208_1 (ls : a_LS) (st : List Value) (σ : a_HP) (Q : Option Value → a_HP → Prop) : Rn 208 1 ls st σ Q = acR 208 (o_ldi 1 2 ls st σ) ls σ Q := rn_row rfl ls st σ Q
theorem r_208_2 (ls : a_LS) (st : List Value) (σ : a_HP) (Q : Option Value → a_HP → Prop) : Rn 208 2 ls st σ Q = acR 208 (o_cgt 9 5 ls st σ) ls σ Q := rn_row rfl ls st σ Q
theorem r_208_5 (ls : a_LS) (st : List Value) (σ : a_HP) (Q : Option Value → a_HP → Prop) : Rn 208 5 ls st σ Q = acR 208 (o_ldi 0 6 ls st σ) ls σ Q := rn_row rfl ls st σ Q
theorem r_208_6 (ls : a_LS) (st : List Value) (σ : a_HP) (Q : Option Value → a_HP → Prop) : Rn 208 6 ls st σ Q = acR 208 (o_go 10 ls st σ) ls σ Q := rn_row rfl ls st σ Q
theorem r_208_9 (ls : a_LS) (st : List Value) (σ : a_HP) (Q : Option Value → a_HP → Prop) : Rn 208 9 ls st σ Q = acR 208 (o_ldi 1 10 ls st σ) ls σ Q := rn_row rfl ls st σ Q
theorem r_208_10 (ls : a_LS) (st : List Value) (σ : a_HP) (Q : Option Value → a_HP → Prop) : Rn 208 10 ls st σ Q = acR 208 (o_ri ls st σ) ls σ Q := rn_row rfl ls st σ Q
/-! 209: java/util/Arrays.fill([II)V -/
theorem cl_209 (x0 : Nat) (x1 : Int32) (σ : a_HP) (Q : Option Value → a_HP → Prop) : Cl 209 [.ref x0, .int x1] σ Q = Rn 209 0 [some (.ref x0), some (.int x1), none, none] [] σ Q := cl_of (Nat.le_of_ble_eq_true rfl) rfl σ Q
theorem r_209_0 (ls : a_LS) (st : List Value) (σ : a_HP) (Q : Option Value → a_HP → Prop) : Rn 209 0 ls st σ Q = acR 209 (o_pi (nI 0) 1 ls st σ) ls σ Q := rn_row rfl ls st σ Q
theorem r_209_1 (ls : a_LS) (st : List Value) (σ : a_HP) (Q : Option Value → a_HP → Prop) : Rn 209 1 ls st σ Q = acR 209 (o_sti 2 2 ls st σ) ls σ Q := rn_row rfl ls st σ Q
theorem r_209_2 (ls : a_LS) (st : List Value) (σ : a_HP) (Q : Option Value → a_HP → Prop) : Rn 209 2 ls st σ Q = acR 209 (o_lda 0 3 ls st σ) ls σ Q := rn_row rfl ls st σ Q
theorem r_209_3 (ls : a_LS) (st : List Value) (σ : a_HP) (Q : Option Value → a_HP → Prop) : Rn 209 3 ls st σ Q = acR 209 (o_len 4 ls st σ) ls σ Q := rn_row rfl ls st σ Q
theorem r_209_4 (ls : a_LS) (st : List Value) (σ : a_HP) (Q : Option Value → a_HP → Prop) : Rn 209 4 ls st σ Q = acR 209 (o_sti 3 5 ls st σ) ls σ Q := rn_row rfl ls st σ Q
theorem r_209_5 (ls : a_LS) (st : List Value) (σ : a_HP) (Q : Option Value → a_HP → Prop) : Rn 209 5 ls st σ Q = acR 209 (o_ldi 2 6 ls st σ) ls σ Q := rn_row rfl ls st σ Q
theorem r_209_6 (ls : a_LS) (st : List Value) (σ : a_HP) (Q : Option Value → a_HP → Prop) : Rn 209 6 ls st σ Q = acR 209 (o_ldi 3 7 ls st σ) ls σ Q := rn_row rfl ls st σ Q
theorem r_209_7 (ls : a_LS) (st : List Value) (σ : a_HP) (Q : Option Value → a_HP → Prop) : Rn 209 7 ls st σ Q = acR 209 (o_cge 20 10 ls st σ) ls σ Q := rn_row rfl ls st σ Q
theorem r_209_10 (ls : a_LS) (st : List Value) (σ : a_HP) (Q : Option Value → a_HP → Prop) : Rn 209 10 ls st σ Q = acR 209 (o_lda 0 11 ls st σ) ls σ Q := rn_row rfl ls st σ Q
theorem r_209_11 (ls : a_LS) (st : List Value) (σ : a_HP) (Q : Option Value → a_HP → Prop) : Rn 209 11 ls st σ Q = acR 209 (o_ldi 2 12 ls st σ) ls σ Q := rn_row rfl ls st σ Q
theorem r_209_12 (ls : a_LS) (st : List Value) (σ : a_HP) (Q : Option Value → a_HP → Prop) : Rn 209 12 ls st σ Q = acR 209 (o_ldi 1 13 ls st σ) ls σ Q := rn_row rfl ls st σ Q
theorem r_209_13 (ls : a_LS) (st : List Value) (σ : a_HP) (Q : Option Value → a_HP → Prop) : Rn 209 13 ls st σ Q = acR 209 (o_ias 14 ls st σ) ls σ Q := rn_row rfl ls st σ Q
theorem r_209_14 (ls : a_LS) (st : List Value) (σ : a_HP) (Q : Option Value → a_HP → Prop) : Rn 209 14 ls st σ Q = acR 209 (o_inc 2 (nI 1) 17 ls st σ) ls σ Q := rn_row rfl ls st σ Q
theorem r_209_17 (ls : a_LS) (st : List Value) (σ : a_HP) (Q : Option Value → a_HP → Prop) : Rn 209 17 ls st σ Q = acR 209 (o_go 5 ls st σ) ls σ Q := rn_row rfl ls st σ Q
theorem r_209_20 (ls : a_LS) (st : List Value) (σ : a_HP) (Q : Option Value → a_HP → Prop) : Rn 209 20 ls st σ Q = acR 209 (o_rv ls st σ) ls σ Q := rn_row rfl ls st σ Q
