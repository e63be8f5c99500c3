/-! the methods' instructions, and that each is sound. By program. -/
/-! 0: NetLaw$Fraction.become(JJ)V -/
def tb_0 : List (Nat × a_OP) := [(0, o_ldl 1 1), (1, o_ldl 3 2), (2, o_ivs 1 2 5), (5, o_stl 5 7), (7, o_ldl 5 9), (9, o_pl (lN 0) 10), (10, o_lcmp 11), (11, o_le 30 14), (14, o_lda 0 15), (15, o_ldl 1 16), (16, o_ldl 5 18), (18, o_bm g_div 19), (19, o_putl 0 0 22), (22, o_lda 0 23), (23, o_ldl 3 24), (24, o_ldl 5 26), (26, o_bm g_div 27), (27, o_putl 0 1 30), (30, o_rv)]
theorem s_0_0 : a_Snd 0 0 (o_ldl 1 1) := s_ldln (show decode cX0_become 0 = .ok (.lload_n 1, 1) by decide +kernel) rfl rfl
theorem s_0_1 : a_Snd 0 1 (o_ldl 3 2) := s_ldln (show decode cX0_become 1 = .ok (.lload_n 3, 1) by decide +kernel) rfl rfl
theorem s_0_2 : a_Snd 0 2 (o_ivs 1 2 5) := s_ivs mk_1 wd_775 wd_774 (And.intro (by decide +kernel) (by decide +kernel)) (show decode cX0_become 2 = .ok (.invokestatic 16, 3) by decide +kernel) rfl
theorem s_0_5 : a_Snd 0 5 (o_stl 5 7) := s_stl (show decode cX0_become 5 = .ok (.lstore 5, 2) by decide +kernel) rfl (by decide)
theorem s_0_7 : a_Snd 0 7 (o_ldl 5 9) := s_ldl (show decode cX0_become 7 = .ok (.lload 5, 2) by decide +kernel) rfl
theorem s_0_9 : a_Snd 0 9 (o_pl (lN 0) 10) := s_plc (show decode cX0_become 9 = .ok (.lconst 0, 1) by decide +kernel) (by decide) rfl
theorem s_0_10 : a_Snd 0 10 (o_lcmp 11) := s_lcmp (show decode cX0_become 10 = .ok (.lcmp, 1) by decide +kernel) rfl
theorem s_0_11 : a_Snd 0 11 (o_le 30 14) := s_ile (show decode cX0_become 11 = .ok (.ifCond .le 19, 3) by decide +kernel) (by decide) rfl
theorem s_0_14 : a_Snd 0 14 (o_lda 0 15) := s_ldan (show decode cX0_become 14 = .ok (.aload_n 0, 1) by decide +kernel) rfl rfl
theorem s_0_15 : a_Snd 0 15 (o_ldl 1 16) := s_ldln (show decode cX0_become 15 = .ok (.lload_n 1, 1) by decide +kernel) rfl rfl
theorem s_0_16 : a_Snd 0 16 (o_ldl 5 18) := s_ldl (show decode cX0_become 16 = .ok (.lload 5, 2) by decide +kernel) rfl
theorem s_0_18 : a_Snd 0 18 (o_bm g_div 19) := s_ldiv (show decode cX0_become 18 = .ok (.ldiv, 1) by decide +kernel) rfl
theorem s_0_19 : a_Snd 0 19 (o_putl 0 0 22) := s_putl (T := TX0) (N := 2) rfl fin0 tyX0_ok nmX0 (by decide) wd_154 rfl rfl (show decode cX0_become 19 = .ok (.putfield 7, 3) by decide +kernel) rfl
theorem s_0_22 : a_Snd 0 22 (o_lda 0 23) := s_ldan (show decode cX0_become 22 = .ok (.aload_n 0, 1) by decide +kernel) rfl rfl
theorem s_0_23 : a_Snd 0 23 (o_ldl 3 24) := s_ldln (show decode cX0_become 23 = .ok (.lload_n 3, 1) by decide +kernel) rfl rfl
theorem s_0_24 : a_Snd 0 24 (o_ldl 5 26) := s_ldl (show decode cX0_become 24 = .ok (.lload 5, 2) by decide +kernel) rfl
theorem s_0_26 : a_Snd 0 26 (o_bm g_div 27) := s_ldiv (show decode cX0_become 26 = .ok (.ldiv, 1) by decide +kernel) rfl
theorem s_0_27 : a_Snd 0 27 (o_putl 0 1 30) := s_putl (T := TX0) (N := 2) rfl fin0 tyX0_ok nmX0 (by decide) wd_156 rfl rfl (show decode cX0_become 27 = .ok (.putfield 13, 3) by decide +kernel) rfl
theorem s_0_30 : a_Snd 0 30 (o_rv) := s_rv (show decode cX0_become 30 = .ok (.return_, 1) by decide +kernel) rfl
theorem ts_0 : a_All 0 tb_0 := And.intro s_0_0 (And.intro s_0_1 (And.intro s_0_2 (And.intro s_0_5 (And.intro s_0_7 (And.intro s_0_9 (And.intro s_0_10 (And.intro s_0_11 (And.intro s_0_14 (And.intro s_0_15 (And.intro s_0_16 (And.intro s_0_18 (And.intro s_0_19 (And.intro s_0_22 (And.intro s_0_23 (And.intro s_0_24 (And.intro s_0_26 (And.intro s_0_27 (And.intro s_0_30 (trivial)))))))))))))))))))
/-! 1: NetLaw$Fraction.commonDivisor(JJ)J -/
def tb_1 : List (Nat × a_OP) := [(0, o_ldl 0 1), (1, o_stl 4 3), (3, o_ldl 2 4), (4, o_stl 6 6), (6, o_pi (nI 0) 7), (7, o_sti 8 9), (9, o_ldi 8 11), (11, o_pi (nI 100) 13), (13, o_cge 44 16), (16, o_ldl 6 18), (18, o_pl (lN 0) 19), (19, o_lcmp 20), (20, o_eq 44 23), (23, o_ldl 4 25), (25, o_ldl 6 27), (27, o_bm g_rem 28), (28, o_stl 9 30), (30, o_ldl 6 32), (32, o_stl 4 34), (34, o_ldl 9 36), (36, o_stl 6 38), (38, o_inc 8 (nI 1) 41), (41, o_go 9), (44, o_ldl 4 46), (46, o_rl)]
theorem s_1_0 : a_Snd 1 0 (o_ldl 0 1) := s_ldln (show decode cX0_commonDivisor 0 = .ok (.lload_n 0, 1) by decide +kernel) rfl rfl
theorem s_1_1 : a_Snd 1 1 (o_stl 4 3) := s_stl (show decode cX0_commonDivisor 1 = .ok (.lstore 4, 2) by decide +kernel) rfl (by decide)
theorem s_1_3 : a_Snd 1 3 (o_ldl 2 4) := s_ldln (show decode cX0_commonDivisor 3 = .ok (.lload_n 2, 1) by decide +kernel) rfl rfl
theorem s_1_4 : a_Snd 1 4 (o_stl 6 6) := s_stl (show decode cX0_commonDivisor 4 = .ok (.lstore 6, 2) by decide +kernel) rfl (by decide)
theorem s_1_6 : a_Snd 1 6 (o_pi (nI 0) 7) := s_pic (show decode cX0_commonDivisor 6 = .ok (.iconst 0, 1) by decide +kernel) (by decide) rfl
theorem s_1_7 : a_Snd 1 7 (o_sti 8 9) := s_sti (show decode cX0_commonDivisor 7 = .ok (.istore 8, 2) by decide +kernel) rfl (by decide)
theorem s_1_9 : a_Snd 1 9 (o_ldi 8 11) := s_ldi (show decode cX0_commonDivisor 9 = .ok (.iload 8, 2) by decide +kernel) rfl
theorem s_1_11 : a_Snd 1 11 (o_pi (nI 100) 13) := s_pib (show decode cX0_commonDivisor 11 = .ok (.bipush 100, 2) by decide +kernel) (by decide) rfl
theorem s_1_13 : a_Snd 1 13 (o_cge 44 16) := s_cge (show decode cX0_commonDivisor 13 = .ok (.if_icmp .ge 31, 3) by decide +kernel) (by decide) rfl
theorem s_1_16 : a_Snd 1 16 (o_ldl 6 18) := s_ldl (show decode cX0_commonDivisor 16 = .ok (.lload 6, 2) by decide +kernel) rfl
theorem s_1_18 : a_Snd 1 18 (o_pl (lN 0) 19) := s_plc (show decode cX0_commonDivisor 18 = .ok (.lconst 0, 1) by decide +kernel) (by decide) rfl
theorem s_1_19 : a_Snd 1 19 (o_lcmp 20) := s_lcmp (show decode cX0_commonDivisor 19 = .ok (.lcmp, 1) by decide +kernel) rfl
theorem s_1_20 : a_Snd 1 20 (o_eq 44 23) := s_ieq (show decode cX0_commonDivisor 20 = .ok (.ifCond .eq 24, 3) by decide +kernel) (by decide) rfl
theorem s_1_23 : a_Snd 1 23 (o_ldl 4 25) := s_ldl (show decode cX0_commonDivisor 23 = .ok (.lload 4, 2) by decide +kernel) rfl
theorem s_1_25 : a_Snd 1 25 (o_ldl 6 27) := s_ldl (show decode cX0_commonDivisor 25 = .ok (.lload 6, 2) by decide +kernel) rfl
theorem s_1_27 : a_Snd 1 27 (o_bm g_rem 28) := s_lrem (show decode cX0_commonDivisor 27 = .ok (.lrem, 1) by decide +kernel) rfl
theorem s_1_28 : a_Snd 1 28 (o_stl 9 30) := s_stl (show decode cX0_commonDivisor 28 = .ok (.lstore 9, 2) by decide +kernel) rfl (by decide)
theorem s_1_30 : a_Snd 1 30 (o_ldl 6 32) := s_ldl (show decode cX0_commonDivisor 30 = .ok (.lload 6, 2) by decide +kernel) rfl
theorem s_1_32 : a_Snd 1 32 (o_stl 4 34) := s_stl (show decode cX0_commonDivisor 32 = .ok (.lstore 4, 2) by decide +kernel) rfl (by decide)
theorem s_1_34 : a_Snd 1 34 (o_ldl 9 36) := s_ldl (show decode cX0_commonDivisor 34 = .ok (.lload 9, 2) by decide +kernel) rfl
theorem s_1_36 : a_Snd 1 36 (o_stl 6 38) := s_stl (show decode cX0_commonDivisor 36 = .ok (.lstore 6, 2) by decide +kernel) rfl (by decide)
theorem s_1_38 : a_Snd 1 38 (o_inc 8 (nI 1) 41) := s_inc (show decode cX0_commonDivisor 38 = .ok (.iinc 8 1, 3) by decide +kernel) (by decide) rfl (by decide)
theorem s_1_41 : a_Snd 1 41 (o_go 9) := s_go (show decode cX0_commonDivisor 41 = .ok (.goto (-32), 3) by decide +kernel) (by decide)
theorem s_1_44 : a_Snd 1 44 (o_ldl 4 46) := s_ldl (show decode cX0_commonDivisor 44 = .ok (.lload 4, 2) by decide +kernel) rfl
theorem s_1_46 : a_Snd 1 46 (o_rl) := s_rl (show decode cX0_commonDivisor 46 = .ok (.lreturn, 1) by decide +kernel) rfl
theorem ts_1 : a_All 1 tb_1 := And.intro s_1_0 (And.intro s_1_1 (And.intro s_1_3 (And.intro s_1_4 (And.intro s_1_6 (And.intro s_1_7 (And.intro s_1_9 (And.intro s_1_11 (And.intro s_1_13 (And.intro s_1_16 (And.intro s_1_18 (And.intro s_1_19 (And.intro s_1_20 (And.intro s_1_23 (And.intro s_1_25 (And.intro s_1_27 (And.intro s_1_28 (And.intro s_1_30 (And.intro s_1_32 (And.intro s_1_34 (And.intro s_1_36 (And.intro s_1_38 (And.intro s_1_41 (And.intro s_1_44 (And.intro s_1_46 (trivial)))))))))))))))))))))))))
/-! 2: NetLaw$Mending.leastTwine(LNetLaw$Net;II)I -/
def tb_2 : List (Nat × a_OP) := [(0, o_lda 0 1), (1, o_get 2 4 4), (4, o_pi (nI 0) 5), (5, o_pi (nI 0) 6), (6, o_ias 7), (7, o_lda 0 8), (8, o_get 2 4 11), (11, o_pi (nI 1) 12), (12, o_pi (nI 0) 13), (13, o_ias 14), (14, o_lda 0 15), (15, o_pi (nI 0) 16), (16, o_put 2 6 19), (19, o_pi (nI 0) 20), (20, o_sti 4 22), (22, o_ldi 4 24), (24, o_pi (nI 4) 25), (25, o_cge 43 28), (28, o_lda 0 29), (29, o_lda 1 30), (30, o_ldi 2 31), (31, o_ldi 3 32), (32, o_ldi 4 34), (34, o_ivv 2 3 4 37), (37, o_inc 4 (nI 1) 40), (40, o_go 22), (43, o_lda 0 44), (44, o_get 2 2 47), (47, o_pi (nI 0) 48), (48, o_lda 1 49), (49, o_get 3 7 52), (52, o_ldi 2 53), (53, o_ial 54), (54, o_lda 1 55), (55, o_ldi 2 56), (56, o_ivv 3 24 1 59), (59, o_bi f_sub 60), (60, o_ias 61), (61, o_lda 0 62), (62, o_get 2 2 65), (65, o_pi (nI 1) 66), (66, o_lda 1 67), (67, o_get 3 7 70), (70, o_ldi 3 71), (71, o_ial 72), (72, o_lda 1 73), (73, o_ldi 3 74), (74, o_ivv 3 24 1 77), (77, o_bi f_sub 78), (78, o_ias 79), (79, o_ldi 2 80), (80, o_ldi 3 81), (81, o_cne 91 84), (84, o_lda 0 85), (85, o_get 2 2 88), (88, o_pi (nI 1) 89), (89, o_pi (nI 0) 90), (90, o_ias 91), (91, o_lda 0 92), (92, o_pi (nI 0) 93), (93, o_ivv 2 7 1 96), (96, o_lda 0 97), (97, o_pi (nI 1) 98), (98, o_ivv 2 7 1 101), (101, o_lda 0 102), (102, o_ivv 2 11 0 105), (105, o_ri)]
theorem s_2_0 : a_Snd 2 0 (o_lda 0 1) := s_ldan (show decode cX2_leastTwine 0 = .ok (.aload_n 0, 1) by decide +kernel) rfl rfl
theorem s_2_1 : a_Snd 2 1 (o_get 2 4 4) := s_get (T := TX2) (N := 10) rfl fin2 (by decide) wd_174 (show decode cX2_leastTwine 1 = .ok (.getfield 24, 3) by decide +kernel) rfl
theorem s_2_4 : a_Snd 2 4 (o_pi (nI 0) 5) := s_pic (show decode cX2_leastTwine 4 = .ok (.iconst 0, 1) by decide +kernel) (by decide) rfl
theorem s_2_5 : a_Snd 2 5 (o_pi (nI 0) 6) := s_pic (show decode cX2_leastTwine 5 = .ok (.iconst 0, 1) by decide +kernel) (by decide) rfl
theorem s_2_6 : a_Snd 2 6 (o_ias 7) := s_ias (show decode cX2_leastTwine 6 = .ok (.iastore, 1) by decide +kernel) rfl
theorem s_2_7 : a_Snd 2 7 (o_lda 0 8) := s_ldan (show decode cX2_leastTwine 7 = .ok (.aload_n 0, 1) by decide +kernel) rfl rfl
theorem s_2_8 : a_Snd 2 8 (o_get 2 4 11) := s_get (T := TX2) (N := 10) rfl fin2 (by decide) wd_174 (show decode cX2_leastTwine 8 = .ok (.getfield 24, 3) by decide +kernel) rfl
theorem s_2_11 : a_Snd 2 11 (o_pi (nI 1) 12) := s_pic (show decode cX2_leastTwine 11 = .ok (.iconst 1, 1) by decide +kernel) (by decide) rfl
theorem s_2_12 : a_Snd 2 12 (o_pi (nI 0) 13) := s_pic (show decode cX2_leastTwine 12 = .ok (.iconst 0, 1) by decide +kernel) (by decide) rfl
theorem s_2_13 : a_Snd 2 13 (o_ias 14) := s_ias (show decode cX2_leastTwine 13 = .ok (.iastore, 1) by decide +kernel) rfl
theorem s_2_14 : a_Snd 2 14 (o_lda 0 15) := s_ldan (show decode cX2_leastTwine 14 = .ok (.aload_n 0, 1) by decide +kernel) rfl rfl
theorem s_2_15 : a_Snd 2 15 (o_pi (nI 0) 16) := s_pic (show decode cX2_leastTwine 15 = .ok (.iconst 0, 1) by decide +kernel) (by decide) rfl
theorem s_2_16 : a_Snd 2 16 (o_put 2 6 19) := s_put (T := TX2) (N := 10) rfl fin2 tyX2_ok nmX2 (by decide) wd_176 rfl rfl (show decode cX2_leastTwine 16 = .ok (.putfield 39, 3) by decide +kernel) rfl
theorem s_2_19 : a_Snd 2 19 (o_pi (nI 0) 20) := s_pic (show decode cX2_leastTwine 19 = .ok (.iconst 0, 1) by decide +kernel) (by decide) rfl
theorem s_2_20 : a_Snd 2 20 (o_sti 4 22) := s_sti (show decode cX2_leastTwine 20 = .ok (.istore 4, 2) by decide +kernel) rfl (by decide)
theorem s_2_22 : a_Snd 2 22 (o_ldi 4 24) := s_ldi (show decode cX2_leastTwine 22 = .ok (.iload 4, 2) by decide +kernel) rfl
theorem s_2_24 : a_Snd 2 24 (o_pi (nI 4) 25) := s_pic (show decode cX2_leastTwine 24 = .ok (.iconst 4, 1) by decide +kernel) (by decide) rfl
theorem s_2_25 : a_Snd 2 25 (o_cge 43 28) := s_cge (show decode cX2_leastTwine 25 = .ok (.if_icmp .ge 18, 3) by decide +kernel) (by decide) rfl
theorem s_2_28 : a_Snd 2 28 (o_lda 0 29) := s_ldan (show decode cX2_leastTwine 28 = .ok (.aload_n 0, 1) by decide +kernel) rfl rfl
theorem s_2_29 : a_Snd 2 29 (o_lda 1 30) := s_ldan (show decode cX2_leastTwine 29 = .ok (.aload_n 1, 1) by decide +kernel) rfl rfl
theorem s_2_30 : a_Snd 2 30 (o_ldi 2 31) := s_ldin (show decode cX2_leastTwine 30 = .ok (.iload_n 2, 1) by decide +kernel) rfl rfl
theorem s_2_31 : a_Snd 2 31 (o_ldi 3 32) := s_ldin (show decode cX2_leastTwine 31 = .ok (.iload_n 3, 1) by decide +kernel) rfl rfl
theorem s_2_32 : a_Snd 2 32 (o_ldi 4 34) := s_ldi (show decode cX2_leastTwine 32 = .ok (.iload 4, 2) by decide +kernel) rfl
theorem s_2_34 : a_Snd 2 34 (o_ivv 2 3 4 37) := s_ivv (ci := 2) rfl mk_3 wd_589 wp_15 wd_587 (And.intro (by decide +kernel) (by decide +kernel)) (show decode cX2_leastTwine 34 = .ok (.invokevirtual 43, 3) by decide +kernel) rfl
theorem s_2_37 : a_Snd 2 37 (o_inc 4 (nI 1) 40) := s_inc (show decode cX2_leastTwine 37 = .ok (.iinc 4 1, 3) by decide +kernel) (by decide) rfl (by decide)
theorem s_2_40 : a_Snd 2 40 (o_go 22) := s_go (show decode cX2_leastTwine 40 = .ok (.goto (-18), 3) by decide +kernel) (by decide)
theorem s_2_43 : a_Snd 2 43 (o_lda 0 44) := s_ldan (show decode cX2_leastTwine 43 = .ok (.aload_n 0, 1) by decide +kernel) rfl rfl
theorem s_2_44 : a_Snd 2 44 (o_get 2 2 47) := s_get (T := TX2) (N := 10) rfl fin2 (by decide) wd_172 (show decode cX2_leastTwine 44 = .ok (.getfield 18, 3) by decide +kernel) rfl
theorem s_2_47 : a_Snd 2 47 (o_pi (nI 0) 48) := s_pic (show decode cX2_leastTwine 47 = .ok (.iconst 0, 1) by decide +kernel) (by decide) rfl
theorem s_2_48 : a_Snd 2 48 (o_lda 1 49) := s_ldan (show decode cX2_leastTwine 48 = .ok (.aload_n 1, 1) by decide +kernel) rfl rfl
theorem s_2_49 : a_Snd 2 49 (o_get 3 7 52) := s_get (T := TX3) (N := 8) rfl fin3 (by decide) wd_58 (show decode cX2_leastTwine 49 = .ok (.getfield 47, 3) by decide +kernel) rfl
theorem s_2_52 : a_Snd 2 52 (o_ldi 2 53) := s_ldin (show decode cX2_leastTwine 52 = .ok (.iload_n 2, 1) by decide +kernel) rfl rfl
theorem s_2_53 : a_Snd 2 53 (o_ial 54) := s_ial (show decode cX2_leastTwine 53 = .ok (.iaload, 1) by decide +kernel) rfl
theorem s_2_54 : a_Snd 2 54 (o_lda 1 55) := s_ldan (show decode cX2_leastTwine 54 = .ok (.aload_n 1, 1) by decide +kernel) rfl rfl
theorem s_2_55 : a_Snd 2 55 (o_ldi 2 56) := s_ldin (show decode cX2_leastTwine 55 = .ok (.iload_n 2, 1) by decide +kernel) rfl rfl
theorem s_2_56 : a_Snd 2 56 (o_ivv 3 24 1 59) := s_ivv (ci := 3) rfl mk_24 wd_527 wd_528 wd_606 (And.intro (by decide +kernel) (by decide +kernel)) (show decode cX2_leastTwine 56 = .ok (.invokevirtual 52, 3) by decide +kernel) rfl
theorem s_2_59 : a_Snd 2 59 (o_bi f_sub 60) := s_isub (show decode cX2_leastTwine 59 = .ok (.isub, 1) by decide +kernel) rfl
theorem s_2_60 : a_Snd 2 60 (o_ias 61) := s_ias (show decode cX2_leastTwine 60 = .ok (.iastore, 1) by decide +kernel) rfl
theorem s_2_61 : a_Snd 2 61 (o_lda 0 62) := s_ldan (show decode cX2_leastTwine 61 = .ok (.aload_n 0, 1) by decide +kernel) rfl rfl
theorem s_2_62 : a_Snd 2 62 (o_get 2 2 65) := s_get (T := TX2) (N := 10) rfl fin2 (by decide) wd_172 (show decode cX2_leastTwine 62 = .ok (.getfield 18, 3) by decide +kernel) rfl
theorem s_2_65 : a_Snd 2 65 (o_pi (nI 1) 66) := s_pic (show decode cX2_leastTwine 65 = .ok (.iconst 1, 1) by decide +kernel) (by decide) rfl
theorem s_2_66 : a_Snd 2 66 (o_lda 1 67) := s_ldan (show decode cX2_leastTwine 66 = .ok (.aload_n 1, 1) by decide +kernel) rfl rfl
theorem s_2_67 : a_Snd 2 67 (o_get 3 7 70) := s_get (T := TX3) (N := 8) rfl fin3 (by decide) wd_58 (show decode cX2_leastTwine 67 = .ok (.getfield 47, 3) by decide +kernel) rfl
theorem s_2_70 : a_Snd 2 70 (o_ldi 3 71) := s_ldin (show decode cX2_leastTwine 70 = .ok (.iload_n 3, 1) by decide +kernel) rfl rfl
theorem s_2_71 : a_Snd 2 71 (o_ial 72) := s_ial (show decode cX2_leastTwine 71 = .ok (.iaload, 1) by decide +kernel) rfl
theorem s_2_72 : a_Snd 2 72 (o_lda 1 73) := s_ldan (show decode cX2_leastTwine 72 = .ok (.aload_n 1, 1) by decide +kernel) rfl rfl
theorem s_2_73 : a_Snd 2 73 (o_ldi 3 74) := s_ldin (show decode cX2_leastTwine 73 = .ok (.iload_n 3, 1) by decide +kernel) rfl rfl
theorem s_2_74 : a_Snd 2 74 (o_ivv 3 24 1 77) := s_ivv (ci := 3) rfl mk_24 wd_527 wd_528 wd_606 (And.intro (by decide +kernel) (by decide +kernel)) (show decode cX2_leastTwine 74 = .ok (.invokevirtual 52, 3) by decide +kernel) rfl
theorem s_2_77 : a_Snd 2 77 (o_bi f_sub 78) := s_isub (show decode cX2_leastTwine 77 = .ok (.isub, 1) by decide +kernel) rfl
theorem s_2_78 : a_Snd 2 78 (o_ias 79) := s_ias (show decode cX2_leastTwine 78 = .ok (.iastore, 1) by decide +kernel) rfl
theorem s_2_79 : a_Snd 2 79 (o_ldi 2 80) := s_ldin (show decode cX2_leastTwine 79 = .ok (.iload_n 2, 1) by decide +kernel) rfl rfl
theorem s_2_80 : a_Snd 2 80 (o_ldi 3 81) := s_ldin (show decode cX2_leastTwine 80 = .ok (.iload_n 3, 1) by decide +kernel) rfl rfl
theorem s_2_81 : a_Snd 2 81 (o_cne 91 84) := s_cne (show decode cX2_leastTwine 81 = .ok (.if_icmp .ne 10, 3) by decide +kernel) (by decide) rfl
theorem s_2_84 : a_Snd 2 84 (o_lda 0 85) := s_ldan (show decode cX2_leastTwine 84 = .ok (.aload_n 0, 1) by decide +kernel) rfl rfl
theorem s_2_85 : a_Snd 2 85 (o_get 2 2 88) := s_get (T := TX2) (N := 10) rfl fin2 (by decide) wd_172 (show decode cX2_leastTwine 85 = .ok (.getfield 18, 3) by decide +kernel) rfl
theorem s_2_88 : a_Snd 2 88 (o_pi (nI 1) 89) := s_pic (show decode cX2_leastTwine 88 = .ok (.iconst 1, 1) by decide +kernel) (by decide) rfl
theorem s_2_89 : a_Snd 2 89 (o_pi (nI 0) 90) := s_pic (show decode cX2_leastTwine 89 = .ok (.iconst 0, 1) by decide +kernel) (by decide) rfl
theorem s_2_90 : a_Snd 2 90 (o_ias 91) := s_ias (show decode cX2_leastTwine 90 = .ok (.iastore, 1) by decide +kernel) rfl
theorem s_2_91 : a_Snd 2 91 (o_lda 0 92) := s_ldan (show decode cX2_leastTwine 91 = .ok (.aload_n 0, 1) by decide +kernel) rfl rfl
theorem s_2_92 : a_Snd 2 92 (o_pi (nI 0) 93) := s_pic (show decode cX2_leastTwine 92 = .ok (.iconst 0, 1) by decide +kernel) (by decide) rfl
theorem s_2_93 : a_Snd 2 93 (o_ivv 2 7 1 96) := s_ivv (ci := 2) rfl mk_7 wd_609 wp_18 wd_607 (And.intro (by decide +kernel) (by decide +kernel)) (show decode cX2_leastTwine 93 = .ok (.invokevirtual 56, 3) by decide +kernel) rfl
theorem s_2_96 : a_Snd 2 96 (o_lda 0 97) := s_ldan (show decode cX2_leastTwine 96 = .ok (.aload_n 0, 1) by decide +kernel) rfl rfl
theorem s_2_97 : a_Snd 2 97 (o_pi (nI 1) 98) := s_pic (show decode cX2_leastTwine 97 = .ok (.iconst 1, 1) by decide +kernel) (by decide) rfl
theorem s_2_98 : a_Snd 2 98 (o_ivv 2 7 1 101) := s_ivv (ci := 2) rfl mk_7 wd_609 wp_18 wd_607 (And.intro (by decide +kernel) (by decide +kernel)) (show decode cX2_leastTwine 98 = .ok (.invokevirtual 56, 3) by decide +kernel) rfl
theorem s_2_101 : a_Snd 2 101 (o_lda 0 102) := s_ldan (show decode cX2_leastTwine 101 = .ok (.aload_n 0, 1) by decide +kernel) rfl rfl
theorem s_2_102 : a_Snd 2 102 (o_ivv 2 11 0 105) := s_ivv (ci := 2) rfl mk_11 wd_633 wp_23 wd_631 (And.intro (by decide +kernel) (by decide +kernel)) (show decode cX2_leastTwine 102 = .ok (.invokevirtual 60, 3) by decide +kernel) rfl
theorem s_2_105 : a_Snd 2 105 (o_ri) := s_ri (show decode cX2_leastTwine 105 = .ok (.ireturn, 1) by decide +kernel) rfl
theorem ts_2 : a_All 2 tb_2 := And.intro s_2_0 (And.intro s_2_1 (And.intro s_2_4 (And.intro s_2_5 (And.intro s_2_6 (And.intro s_2_7 (And.intro s_2_8 (And.intro s_2_11 (And.intro s_2_12 (And.intro s_2_13 (And.intro s_2_14 (And.intro s_2_15 (And.intro s_2_16 (And.intro s_2_19 (And.intro s_2_20 (And.intro s_2_22 (And.intro s_2_24 (And.intro s_2_25 (And.intro s_2_28 (And.intro s_2_29 (And.intro s_2_30 (And.intro s_2_31 (And.intro s_2_32 (And.intro s_2_34 (And.intro s_2_37 (And.intro s_2_40 (And.intro s_2_43 (And.intro s_2_44 (And.intro s_2_47 (And.intro s_2_48 (And.intro s_2_49 (And.intro s_2_52 (And.intro s_2_53 (And.intro s_2_54 (And.intro s_2_55 (And.intro s_2_56 (And.intro s_2_59 (And.intro s_2_60 (And.intro s_2_61 (And.intro s_2_62 (And.intro s_2_65 (And.intro s_2_66 (And.intro s_2_67 (And.intro s_2_70 (And.intro s_2_71 (And.intro s_2_72 (And.intro s_2_73 (And.intro s_2_74 (And.intro s_2_77 (And.intro s_2_78 (And.intro s_2_79 (And.intro s_2_80 (And.intro s_2_81 (And.intro s_2_84 (And.intro s_2_85 (And.intro s_2_88 (And.intro s_2_89 (And.intro s_2_90 (And.intro s_2_91 (And.intro s_2_92 (And.intro s_2_93 (And.intro s_2_96 (And.intro s_2_97 (And.intro s_2_98 (And.intro s_2_101 (And.intro s_2_102 (And.intro s_2_105 (trivial)))))))))))))))))))))))))))))))))))))))))))))))))))))))))))))))))))
/-! 3: NetLaw$Mending.listCorners(LNetLaw$Net;III)V -/
def tb_3 : List (Nat × a_OP) := [(0, o_ldi 2 1), (1, o_ldi 4 3), (3, o_ivs 103 2 6), (6, o_sti 5 8), (8, o_ldi 3 9), (9, o_ldi 4 11), (11, o_ivs 103 2 14), (14, o_sti 6 16), (16, o_lda 0 17), (17, o_lda 1 18), (18, o_ldi 5 20), (20, o_ivv 2 5 2 23), (23, o_lda 0 24), (24, o_lda 1 25), (25, o_ldi 6 27), (27, o_ivv 2 5 2 30), (30, o_ldi 2 31), (31, o_ldi 3 32), (32, o_ceq 44 35), (35, o_ldi 3 36), (36, o_ldi 5 38), (38, o_ivs 104 2 41), (41, o_ne 54 44), (44, o_lda 0 45), (45, o_pi (nI 0) 46), (46, o_ldi 5 48), (48, o_ivv 2 4 2 51), (51, o_go 83), (54, o_lda 0 55), (55, o_get 2 6 58), (58, o_pi (nI 2) 59), (59, o_cge 83 62), (62, o_lda 0 63), (63, o_get 2 5 66), (66, o_lda 0 67), (67, o_get 2 6 70), (70, o_ldi 5 72), (72, o_ias 73), (73, o_lda 0 74), (74, o_dup 75), (75, o_get 2 6 78), (78, o_pi (nI 1) 79), (79, o_bi f_add 80), (80, o_put 2 6 83), (83, o_ldi 2 84), (84, o_ldi 6 86), (86, o_ivs 104 2 89), (89, o_ne 99 92), (92, o_lda 0 93), (93, o_pi (nI 1) 94), (94, o_ldi 6 96), (96, o_ivv 2 4 2 99), (99, o_rv)]
theorem s_3_0 : a_Snd 3 0 (o_ldi 2 1) := s_ldin (show decode cX2_listCorners 0 = .ok (.iload_n 2, 1) by decide +kernel) rfl rfl
theorem s_3_1 : a_Snd 3 1 (o_ldi 4 3) := s_ldi (show decode cX2_listCorners 1 = .ok (.iload 4, 2) by decide +kernel) rfl
theorem s_3_3 : a_Snd 3 3 (o_ivs 103 2 6) := s_ivsN (host := "NetLaw") mk_103 wd_531 (by decide +kernel) (And.intro (by decide +kernel) (by decide +kernel)) (show decode cX2_listCorners 3 = .ok (.invokestatic 64, 3) by decide +kernel) rfl
theorem s_3_6 : a_Snd 3 6 (o_sti 5 8) := s_sti (show decode cX2_listCorners 6 = .ok (.istore 5, 2) by decide +kernel) rfl (by decide)
theorem s_3_8 : a_Snd 3 8 (o_ldi 3 9) := s_ldin (show decode cX2_listCorners 8 = .ok (.iload_n 3, 1) by decide +kernel) rfl rfl
theorem s_3_9 : a_Snd 3 9 (o_ldi 4 11) := s_ldi (show decode cX2_listCorners 9 = .ok (.iload 4, 2) by decide +kernel) rfl
theorem s_3_11 : a_Snd 3 11 (o_ivs 103 2 14) := s_ivsN (host := "NetLaw") mk_103 wd_531 (by decide +kernel) (And.intro (by decide +kernel) (by decide +kernel)) (show decode cX2_listCorners 11 = .ok (.invokestatic 64, 3) by decide +kernel) rfl
theorem s_3_14 : a_Snd 3 14 (o_sti 6 16) := s_sti (show decode cX2_listCorners 14 = .ok (.istore 6, 2) by decide +kernel) rfl (by decide)
theorem s_3_16 : a_Snd 3 16 (o_lda 0 17) := s_ldan (show decode cX2_listCorners 16 = .ok (.aload_n 0, 1) by decide +kernel) rfl rfl
theorem s_3_17 : a_Snd 3 17 (o_lda 1 18) := s_ldan (show decode cX2_listCorners 17 = .ok (.aload_n 1, 1) by decide +kernel) rfl rfl
theorem s_3_18 : a_Snd 3 18 (o_ldi 5 20) := s_ldi (show decode cX2_listCorners 18 = .ok (.iload 5, 2) by decide +kernel) rfl
theorem s_3_20 : a_Snd 3 20 (o_ivv 2 5 2 23) := s_ivv (ci := 2) rfl mk_5 wd_594 wp_16 wd_592 (And.intro (by decide +kernel) (by decide +kernel)) (show decode cX2_listCorners 20 = .ok (.invokevirtual 68, 3) by decide +kernel) rfl
theorem s_3_23 : a_Snd 3 23 (o_lda 0 24) := s_ldan (show decode cX2_listCorners 23 = .ok (.aload_n 0, 1) by decide +kernel) rfl rfl
theorem s_3_24 : a_Snd 3 24 (o_lda 1 25) := s_ldan (show decode cX2_listCorners 24 = .ok (.aload_n 1, 1) by decide +kernel) rfl rfl
theorem s_3_25 : a_Snd 3 25 (o_ldi 6 27) := s_ldi (show decode cX2_listCorners 25 = .ok (.iload 6, 2) by decide +kernel) rfl
theorem s_3_27 : a_Snd 3 27 (o_ivv 2 5 2 30) := s_ivv (ci := 2) rfl mk_5 wd_594 wp_16 wd_592 (And.intro (by decide +kernel) (by decide +kernel)) (show decode cX2_listCorners 27 = .ok (.invokevirtual 68, 3) by decide +kernel) rfl
theorem s_3_30 : a_Snd 3 30 (o_ldi 2 31) := s_ldin (show decode cX2_listCorners 30 = .ok (.iload_n 2, 1) by decide +kernel) rfl rfl
theorem s_3_31 : a_Snd 3 31 (o_ldi 3 32) := s_ldin (show decode cX2_listCorners 31 = .ok (.iload_n 3, 1) by decide +kernel) rfl rfl
theorem s_3_32 : a_Snd 3 32 (o_ceq 44 35) := s_ceq (show decode cX2_listCorners 32 = .ok (.if_icmp .eq 12, 3) by decide +kernel) (by decide) rfl
theorem s_3_35 : a_Snd 3 35 (o_ldi 3 36) := s_ldin (show decode cX2_listCorners 35 = .ok (.iload_n 3, 1) by decide +kernel) rfl rfl
theorem s_3_36 : a_Snd 3 36 (o_ldi 5 38) := s_ldi (show decode cX2_listCorners 36 = .ok (.iload 5, 2) by decide +kernel) rfl
theorem s_3_38 : a_Snd 3 38 (o_ivs 104 2 41) := s_ivsN (host := "NetLaw") mk_104 wd_600 (by decide +kernel) (And.intro (by decide +kernel) (by decide +kernel)) (show decode cX2_listCorners 38 = .ok (.invokestatic 72, 3) by decide +kernel) rfl
theorem s_3_41 : a_Snd 3 41 (o_ne 54 44) := s_ine (show decode cX2_listCorners 41 = .ok (.ifCond .ne 13, 3) by decide +kernel) (by decide) rfl
theorem s_3_44 : a_Snd 3 44 (o_lda 0 45) := s_ldan (show decode cX2_listCorners 44 = .ok (.aload_n 0, 1) by decide +kernel) rfl rfl
theorem s_3_45 : a_Snd 3 45 (o_pi (nI 0) 46) := s_pic (show decode cX2_listCorners 45 = .ok (.iconst 0, 1) by decide +kernel) (by decide) rfl
theorem s_3_46 : a_Snd 3 46 (o_ldi 5 48) := s_ldi (show decode cX2_listCorners 46 = .ok (.iload 5, 2) by decide +kernel) rfl
theorem s_3_48 : a_Snd 3 48 (o_ivv 2 4 2 51) := s_ivv (ci := 2) rfl mk_4 wd_604 wp_17 wd_602 (And.intro (by decide +kernel) (by decide +kernel)) (show decode cX2_listCorners 48 = .ok (.invokevirtual 76, 3) by decide +kernel) rfl
theorem s_3_51 : a_Snd 3 51 (o_go 83) := s_go (show decode cX2_listCorners 51 = .ok (.goto 32, 3) by decide +kernel) (by decide)
theorem s_3_54 : a_Snd 3 54 (o_lda 0 55) := s_ldan (show decode cX2_listCorners 54 = .ok (.aload_n 0, 1) by decide +kernel) rfl rfl
theorem s_3_55 : a_Snd 3 55 (o_get 2 6 58) := s_get (T := TX2) (N := 10) rfl fin2 (by decide) wd_176 (show decode cX2_listCorners 55 = .ok (.getfield 39, 3) by decide +kernel) rfl
theorem s_3_58 : a_Snd 3 58 (o_pi (nI 2) 59) := s_pic (show decode cX2_listCorners 58 = .ok (.iconst 2, 1) by decide +kernel) (by decide) rfl
theorem s_3_59 : a_Snd 3 59 (o_cge 83 62) := s_cge (show decode cX2_listCorners 59 = .ok (.if_icmp .ge 24, 3) by decide +kernel) (by decide) rfl
theorem s_3_62 : a_Snd 3 62 (o_lda 0 63) := s_ldan (show decode cX2_listCorners 62 = .ok (.aload_n 0, 1) by decide +kernel) rfl rfl
theorem s_3_63 : a_Snd 3 63 (o_get 2 5 66) := s_get (T := TX2) (N := 10) rfl fin2 (by decide) wd_175 (show decode cX2_listCorners 63 = .ok (.getfield 27, 3) by decide +kernel) rfl
theorem s_3_66 : a_Snd 3 66 (o_lda 0 67) := s_ldan (show decode cX2_listCorners 66 = .ok (.aload_n 0, 1) by decide +kernel) rfl rfl
theorem s_3_67 : a_Snd 3 67 (o_get 2 6 70) := s_get (T := TX2) (N := 10) rfl fin2 (by decide) wd_176 (show decode cX2_listCorners 67 = .ok (.getfield 39, 3) by decide +kernel) rfl
theorem s_3_70 : a_Snd 3 70 (o_ldi 5 72) := s_ldi (show decode cX2_listCorners 70 = .ok (.iload 5, 2) by decide +kernel) rfl
theorem s_3_72 : a_Snd 3 72 (o_ias 73) := s_ias (show decode cX2_listCorners 72 = .ok (.iastore, 1) by decide +kernel) rfl
theorem s_3_73 : a_Snd 3 73 (o_lda 0 74) := s_ldan (show decode cX2_listCorners 73 = .ok (.aload_n 0, 1) by decide +kernel) rfl rfl
theorem s_3_74 : a_Snd 3 74 (o_dup 75) := s_dup (show decode cX2_listCorners 74 = .ok (.dup, 1) by decide +kernel) rfl
theorem s_3_75 : a_Snd 3 75 (o_get 2 6 78) := s_get (T := TX2) (N := 10) rfl fin2 (by decide) wd_176 (show decode cX2_listCorners 75 = .ok (.getfield 39, 3) by decide +kernel) rfl
theorem s_3_78 : a_Snd 3 78 (o_pi (nI 1) 79) := s_pic (show decode cX2_listCorners 78 = .ok (.iconst 1, 1) by decide +kernel) (by decide) rfl
theorem s_3_79 : a_Snd 3 79 (o_bi f_add 80) := s_iadd (show decode cX2_listCorners 79 = .ok (.iadd, 1) by decide +kernel) rfl
theorem s_3_80 : a_Snd 3 80 (o_put 2 6 83) := s_put (T := TX2) (N := 10) rfl fin2 tyX2_ok nmX2 (by decide) wd_176 rfl rfl (show decode cX2_listCorners 80 = .ok (.putfield 39, 3) by decide +kernel) rfl
theorem s_3_83 : a_Snd 3 83 (o_ldi 2 84) := s_ldin (show decode cX2_listCorners 83 = .ok (.iload_n 2, 1) by decide +kernel) rfl rfl
theorem s_3_84 : a_Snd 3 84 (o_ldi 6 86) := s_ldi (show decode cX2_listCorners 84 = .ok (.iload 6, 2) by decide +kernel) rfl
theorem s_3_86 : a_Snd 3 86 (o_ivs 104 2 89) := s_ivsN (host := "NetLaw") mk_104 wd_600 (by decide +kernel) (And.intro (by decide +kernel) (by decide +kernel)) (show decode cX2_listCorners 86 = .ok (.invokestatic 72, 3) by decide +kernel) rfl
theorem s_3_89 : a_Snd 3 89 (o_ne 99 92) := s_ine (show decode cX2_listCorners 89 = .ok (.ifCond .ne 10, 3) by decide +kernel) (by decide) rfl
theorem s_3_92 : a_Snd 3 92 (o_lda 0 93) := s_ldan (show decode cX2_listCorners 92 = .ok (.aload_n 0, 1) by decide +kernel) rfl rfl
theorem s_3_93 : a_Snd 3 93 (o_pi (nI 1) 94) := s_pic (show decode cX2_listCorners 93 = .ok (.iconst 1, 1) by decide +kernel) (by decide) rfl
theorem s_3_94 : a_Snd 3 94 (o_ldi 6 96) := s_ldi (show decode cX2_listCorners 94 = .ok (.iload 6, 2) by decide +kernel) rfl
theorem s_3_96 : a_Snd 3 96 (o_ivv 2 4 2 99) := s_ivv (ci := 2) rfl mk_4 wd_604 wp_17 wd_602 (And.intro (by decide +kernel) (by decide +kernel)) (show decode cX2_listCorners 96 = .ok (.invokevirtual 76, 3) by decide +kernel) rfl
theorem s_3_99 : a_Snd 3 99 (o_rv) := s_rv (show decode cX2_listCorners 99 = .ok (.return_, 1) by decide +kernel) rfl
theorem ts_3 : a_All 3 tb_3 := And.intro s_3_0 (And.intro s_3_1 (And.intro s_3_3 (And.intro s_3_6 (And.intro s_3_8 (And.intro s_3_9 (And.intro s_3_11 (And.intro s_3_14 (And.intro s_3_16 (And.intro s_3_17 (And.intro s_3_18 (And.intro s_3_20 (And.intro s_3_23 (And.intro s_3_24 (And.intro s_3_25 (And.intro s_3_27 (And.intro s_3_30 (And.intro s_3_31 (And.intro s_3_32 (And.intro s_3_35 (And.intro s_3_36 (And.intro s_3_38 (And.intro s_3_41 (And.intro s_3_44 (And.intro s_3_45 (And.intro s_3_46 (And.intro s_3_48 (And.intro s_3_51 (And.intro s_3_54 (And.intro s_3_55 (And.intro s_3_58 (And.intro s_3_59 (And.intro s_3_62 (And.intro s_3_63 (And.intro s_3_66 (And.intro s_3_67 (And.intro s_3_70 (And.intro s_3_72 (And.intro s_3_73 (And.intro s_3_74 (And.intro s_3_75 (And.intro s_3_78 (And.intro s_3_79 (And.intro s_3_80 (And.intro s_3_83 (And.intro s_3_84 (And.intro s_3_86 (And.intro s_3_89 (And.intro s_3_92 (And.intro s_3_93 (And.intro s_3_94 (And.intro s_3_96 (And.intro s_3_99 (trivial)))))))))))))))))))))))))))))))))))))))))))))))))))))
/-! 4: NetLaw$Mending.listOwn(II)V -/
def tb_4 : List (Nat × a_OP) := [(0, o_lda 0 1), (1, o_get 2 3 4), (4, o_ldi 1 5), (5, o_pi (nI 4) 6), (6, o_bi f_mul 7), (7, o_lda 0 8), (8, o_get 2 4 11), (11, o_ldi 1 12), (12, o_ial 13), (13, o_bi f_add 14), (14, o_ldi 2 15), (15, o_ias 16), (16, o_lda 0 17), (17, o_get 2 4 20), (20, o_ldi 1 21), (21, o_dup2 22), (22, o_ial 23), (23, o_pi (nI 1) 24), (24, o_bi f_add 25), (25, o_ias 26), (26, o_rv)]
theorem s_4_0 : a_Snd 4 0 (o_lda 0 1) := s_ldan (show decode cX2_listOwn 0 = .ok (.aload_n 0, 1) by decide +kernel) rfl rfl
theorem s_4_1 : a_Snd 4 1 (o_get 2 3 4) := s_get (T := TX2) (N := 10) rfl fin2 (by decide) wd_173 (show decode cX2_listOwn 1 = .ok (.getfield 21, 3) by decide +kernel) rfl
theorem s_4_4 : a_Snd 4 4 (o_ldi 1 5) := s_ldin (show decode cX2_listOwn 4 = .ok (.iload_n 1, 1) by decide +kernel) rfl rfl
theorem s_4_5 : a_Snd 4 5 (o_pi (nI 4) 6) := s_pic (show decode cX2_listOwn 5 = .ok (.iconst 4, 1) by decide +kernel) (by decide) rfl
theorem s_4_6 : a_Snd 4 6 (o_bi f_mul 7) := s_imul (show decode cX2_listOwn 6 = .ok (.imul, 1) by decide +kernel) rfl
theorem s_4_7 : a_Snd 4 7 (o_lda 0 8) := s_ldan (show decode cX2_listOwn 7 = .ok (.aload_n 0, 1) by decide +kernel) rfl rfl
theorem s_4_8 : a_Snd 4 8 (o_get 2 4 11) := s_get (T := TX2) (N := 10) rfl fin2 (by decide) wd_174 (show decode cX2_listOwn 8 = .ok (.getfield 24, 3) by decide +kernel) rfl
theorem s_4_11 : a_Snd 4 11 (o_ldi 1 12) := s_ldin (show decode cX2_listOwn 11 = .ok (.iload_n 1, 1) by decide +kernel) rfl rfl
theorem s_4_12 : a_Snd 4 12 (o_ial 13) := s_ial (show decode cX2_listOwn 12 = .ok (.iaload, 1) by decide +kernel) rfl
theorem s_4_13 : a_Snd 4 13 (o_bi f_add 14) := s_iadd (show decode cX2_listOwn 13 = .ok (.iadd, 1) by decide +kernel) rfl
theorem s_4_14 : a_Snd 4 14 (o_ldi 2 15) := s_ldin (show decode cX2_listOwn 14 = .ok (.iload_n 2, 1) by decide +kernel) rfl rfl
theorem s_4_15 : a_Snd 4 15 (o_ias 16) := s_ias (show decode cX2_listOwn 15 = .ok (.iastore, 1) by decide +kernel) rfl
theorem s_4_16 : a_Snd 4 16 (o_lda 0 17) := s_ldan (show decode cX2_listOwn 16 = .ok (.aload_n 0, 1) by decide +kernel) rfl rfl
theorem s_4_17 : a_Snd 4 17 (o_get 2 4 20) := s_get (T := TX2) (N := 10) rfl fin2 (by decide) wd_174 (show decode cX2_listOwn 17 = .ok (.getfield 24, 3) by decide +kernel) rfl
theorem s_4_20 : a_Snd 4 20 (o_ldi 1 21) := s_ldin (show decode cX2_listOwn 20 = .ok (.iload_n 1, 1) by decide +kernel) rfl rfl
theorem s_4_21 : a_Snd 4 21 (o_dup2 22) := s_dup2 (show decode cX2_listOwn 21 = .ok (.dup2, 1) by decide +kernel) rfl
theorem s_4_22 : a_Snd 4 22 (o_ial 23) := s_ial (show decode cX2_listOwn 22 = .ok (.iaload, 1) by decide +kernel) rfl
theorem s_4_23 : a_Snd 4 23 (o_pi (nI 1) 24) := s_pic (show decode cX2_listOwn 23 = .ok (.iconst 1, 1) by decide +kernel) (by decide) rfl
theorem s_4_24 : a_Snd 4 24 (o_bi f_add 25) := s_iadd (show decode cX2_listOwn 24 = .ok (.iadd, 1) by decide +kernel) rfl
theorem s_4_25 : a_Snd 4 25 (o_ias 26) := s_ias (show decode cX2_listOwn 25 = .ok (.iastore, 1) by decide +kernel) rfl
theorem s_4_26 : a_Snd 4 26 (o_rv) := s_rv (show decode cX2_listOwn 26 = .ok (.return_, 1) by decide +kernel) rfl
theorem ts_4 : a_All 4 tb_4 := And.intro s_4_0 (And.intro s_4_1 (And.intro s_4_4 (And.intro s_4_5 (And.intro s_4_6 (And.intro s_4_7 (And.intro s_4_8 (And.intro s_4_11 (And.intro s_4_12 (And.intro s_4_13 (And.intro s_4_14 (And.intro s_4_15 (And.intro s_4_16 (And.intro s_4_17 (And.intro s_4_20 (And.intro s_4_21 (And.intro s_4_22 (And.intro s_4_23 (And.intro s_4_24 (And.intro s_4_25 (And.intro s_4_26 (trivial)))))))))))))))))))))
/-! 5: NetLaw$Mending.fillGains(LNetLaw$Net;I)V -/
def tb_5 : List (Nat × a_OP) := [(0, o_lda 1 1), (1, o_get 3 5 4), (4, o_ldi 2 5), (5, o_ial 6), (6, o_sti 3 7), (7, o_lda 1 8), (8, o_ldi 2 9), (9, o_ivv 3 21 1 12), (12, o_sti 4 14), (14, o_lda 1 15), (15, o_ldi 2 16), (16, o_ivv 3 22 1 19), (19, o_sti 5 21), (21, o_lda 0 22), (22, o_get 2 7 25), (25, o_ldi 2 26), (26, o_ldi 3 27), (27, o_ne 34 30), (30, o_pi (nI 0) 31), (31, o_go 38), (34, o_pi (nI 9) 36), (36, o_ldi 3 37), (37, o_bi f_sub 38), (38, o_ias 39), (39, o_pi (nI 0) 40), (40, o_sti 6 42), (42, o_ldi 6 44), (44, o_lda 0 45), (45, o_get 2 7 48), (48, o_ldi 2 49), (49, o_ial 50), (50, o_cgt 97 53), (53, o_lda 1 54), (54, o_get 3 4 57), (57, o_ldi 2 58), (58, o_ial 59), (59, o_ldi 3 60), (60, o_ldi 6 62), (62, o_bi f_add 63), (63, o_lda 1 64), (64, o_get 3 0 67), (67, o_ldi 4 69), (69, o_ivs 120 4 72), (72, o_sti 7 74), (74, o_lda 0 75), (75, o_get 2 8 78), (78, o_ldi 2 79), (79, o_pi (nI 10) 81), (81, o_bi f_mul 82), (82, o_ldi 6 84), (84, o_bi f_add 85), (85, o_ldi 7 87), (87, o_ldi 5 89), (89, o_bi f_sub 90), (90, o_ias 91), (91, o_inc 6 (nI 1) 94), (94, o_go 42), (97, o_rv)]
theorem s_5_0 : a_Snd 5 0 (o_lda 1 1) := s_ldan (show decode cX2_fillGains 0 = .ok (.aload_n 1, 1) by decide +kernel) rfl rfl
theorem s_5_1 : a_Snd 5 1 (o_get 3 5 4) := s_get (T := TX3) (N := 8) rfl fin3 (by decide) wd_52 (show decode cX2_fillGains 1 = .ok (.getfield 80, 3) by decide +kernel) rfl
theorem s_5_4 : a_Snd 5 4 (o_ldi 2 5) := s_ldin (show decode cX2_fillGains 4 = .ok (.iload_n 2, 1) by decide +kernel) rfl rfl
theorem s_5_5 : a_Snd 5 5 (o_ial 6) := s_ial (show decode cX2_fillGains 5 = .ok (.iaload, 1) by decide +kernel) rfl
theorem s_5_6 : a_Snd 5 6 (o_sti 3 7) := s_stin (show decode cX2_fillGains 6 = .ok (.istore_n 3, 1) by decide +kernel) rfl rfl (by decide)
theorem s_5_7 : a_Snd 5 7 (o_lda 1 8) := s_ldan (show decode cX2_fillGains 7 = .ok (.aload_n 1, 1) by decide +kernel) rfl rfl
theorem s_5_8 : a_Snd 5 8 (o_ldi 2 9) := s_ldin (show decode cX2_fillGains 8 = .ok (.iload_n 2, 1) by decide +kernel) rfl rfl
theorem s_5_9 : a_Snd 5 9 (o_ivv 3 21 1 12) := s_ivv (ci := 3) rfl mk_21 wd_515 wd_516 wd_596 (And.intro (by decide +kernel) (by decide +kernel)) (show decode cX2_fillGains 9 = .ok (.invokevirtual 83, 3) by decide +kernel) rfl
theorem s_5_12 : a_Snd 5 12 (o_sti 4 14) := s_sti (show decode cX2_fillGains 12 = .ok (.istore 4, 2) by decide +kernel) rfl (by decide)
theorem s_5_14 : a_Snd 5 14 (o_lda 1 15) := s_ldan (show decode cX2_fillGains 14 = .ok (.aload_n 1, 1) by decide +kernel) rfl rfl
theorem s_5_15 : a_Snd 5 15 (o_ldi 2 16) := s_ldin (show decode cX2_fillGains 15 = .ok (.iload_n 2, 1) by decide +kernel) rfl rfl
theorem s_5_16 : a_Snd 5 16 (o_ivv 3 22 1 19) := s_ivv (ci := 3) rfl mk_22 wd_511 wd_512 wd_597 (And.intro (by decide +kernel) (by decide +kernel)) (show decode cX2_fillGains 16 = .ok (.invokevirtual 86, 3) by decide +kernel) rfl
theorem s_5_19 : a_Snd 5 19 (o_sti 5 21) := s_sti (show decode cX2_fillGains 19 = .ok (.istore 5, 2) by decide +kernel) rfl (by decide)
theorem s_5_21 : a_Snd 5 21 (o_lda 0 22) := s_ldan (show decode cX2_fillGains 21 = .ok (.aload_n 0, 1) by decide +kernel) rfl rfl
theorem s_5_22 : a_Snd 5 22 (o_get 2 7 25) := s_get (T := TX2) (N := 10) rfl fin2 (by decide) wd_177 (show decode cX2_fillGains 22 = .ok (.getfield 30, 3) by decide +kernel) rfl
theorem s_5_25 : a_Snd 5 25 (o_ldi 2 26) := s_ldin (show decode cX2_fillGains 25 = .ok (.iload_n 2, 1) by decide +kernel) rfl rfl
theorem s_5_26 : a_Snd 5 26 (o_ldi 3 27) := s_ldin (show decode cX2_fillGains 26 = .ok (.iload_n 3, 1) by decide +kernel) rfl rfl
theorem s_5_27 : a_Snd 5 27 (o_ne 34 30) := s_ine (show decode cX2_fillGains 27 = .ok (.ifCond .ne 7, 3) by decide +kernel) (by decide) rfl
theorem s_5_30 : a_Snd 5 30 (o_pi (nI 0) 31) := s_pic (show decode cX2_fillGains 30 = .ok (.iconst 0, 1) by decide +kernel) (by decide) rfl
theorem s_5_31 : a_Snd 5 31 (o_go 38) := s_go (show decode cX2_fillGains 31 = .ok (.goto 7, 3) by decide +kernel) (by decide)
theorem s_5_34 : a_Snd 5 34 (o_pi (nI 9) 36) := s_pib (show decode cX2_fillGains 34 = .ok (.bipush 9, 2) by decide +kernel) (by decide) rfl
theorem s_5_36 : a_Snd 5 36 (o_ldi 3 37) := s_ldin (show decode cX2_fillGains 36 = .ok (.iload_n 3, 1) by decide +kernel) rfl rfl
theorem s_5_37 : a_Snd 5 37 (o_bi f_sub 38) := s_isub (show decode cX2_fillGains 37 = .ok (.isub, 1) by decide +kernel) rfl
theorem s_5_38 : a_Snd 5 38 (o_ias 39) := s_ias (show decode cX2_fillGains 38 = .ok (.iastore, 1) by decide +kernel) rfl
theorem s_5_39 : a_Snd 5 39 (o_pi (nI 0) 40) := s_pic (show decode cX2_fillGains 39 = .ok (.iconst 0, 1) by decide +kernel) (by decide) rfl
theorem s_5_40 : a_Snd 5 40 (o_sti 6 42) := s_sti (show decode cX2_fillGains 40 = .ok (.istore 6, 2) by decide +kernel) rfl (by decide)
theorem s_5_42 : a_Snd 5 42 (o_ldi 6 44) := s_ldi (show decode cX2_fillGains 42 = .ok (.iload 6, 2) by decide +kernel) rfl
theorem s_5_44 : a_Snd 5 44 (o_lda 0 45) := s_ldan (show decode cX2_fillGains 44 = .ok (.aload_n 0, 1) by decide +kernel) rfl rfl
theorem s_5_45 : a_Snd 5 45 (o_get 2 7 48) := s_get (T := TX2) (N := 10) rfl fin2 (by decide) wd_177 (show decode cX2_fillGains 45 = .ok (.getfield 30, 3) by decide +kernel) rfl
theorem s_5_48 : a_Snd 5 48 (o_ldi 2 49) := s_ldin (show decode cX2_fillGains 48 = .ok (.iload_n 2, 1) by decide +kernel) rfl rfl
theorem s_5_49 : a_Snd 5 49 (o_ial 50) := s_ial (show decode cX2_fillGains 49 = .ok (.iaload, 1) by decide +kernel) rfl
theorem s_5_50 : a_Snd 5 50 (o_cgt 97 53) := s_cgt (show decode cX2_fillGains 50 = .ok (.if_icmp .gt 47, 3) by decide +kernel) (by decide) rfl
theorem s_5_53 : a_Snd 5 53 (o_lda 1 54) := s_ldan (show decode cX2_fillGains 53 = .ok (.aload_n 1, 1) by decide +kernel) rfl rfl
theorem s_5_54 : a_Snd 5 54 (o_get 3 4 57) := s_get (T := TX3) (N := 8) rfl fin3 (by decide) wd_48 (show decode cX2_fillGains 54 = .ok (.getfield 89, 3) by decide +kernel) rfl
theorem s_5_57 : a_Snd 5 57 (o_ldi 2 58) := s_ldin (show decode cX2_fillGains 57 = .ok (.iload_n 2, 1) by decide +kernel) rfl rfl
theorem s_5_58 : a_Snd 5 58 (o_ial 59) := s_ial (show decode cX2_fillGains 58 = .ok (.iaload, 1) by decide +kernel) rfl
theorem s_5_59 : a_Snd 5 59 (o_ldi 3 60) := s_ldin (show decode cX2_fillGains 59 = .ok (.iload_n 3, 1) by decide +kernel) rfl rfl
theorem s_5_60 : a_Snd 5 60 (o_ldi 6 62) := s_ldi (show decode cX2_fillGains 60 = .ok (.iload 6, 2) by decide +kernel) rfl
theorem s_5_62 : a_Snd 5 62 (o_bi f_add 63) := s_iadd (show decode cX2_fillGains 62 = .ok (.iadd, 1) by decide +kernel) rfl
theorem s_5_63 : a_Snd 5 63 (o_lda 1 64) := s_ldan (show decode cX2_fillGains 63 = .ok (.aload_n 1, 1) by decide +kernel) rfl rfl
theorem s_5_64 : a_Snd 5 64 (o_get 3 0 67) := s_get (T := TX3) (N := 8) rfl fin3 (by decide) wd_37 (show decode cX2_fillGains 64 = .ok (.getfield 92, 3) by decide +kernel) rfl
theorem s_5_67 : a_Snd 5 67 (o_ldi 4 69) := s_ldi (show decode cX2_fillGains 67 = .ok (.iload 4, 2) by decide +kernel) rfl
theorem s_5_69 : a_Snd 5 69 (o_ivs 120 4 72) := s_ivsN (host := "NetLaw") mk_120 wd_519 (by decide +kernel) (And.intro (by decide +kernel) (by decide +kernel)) (show decode cX2_fillGains 69 = .ok (.invokestatic 95, 3) by decide +kernel) rfl
theorem s_5_72 : a_Snd 5 72 (o_sti 7 74) := s_sti (show decode cX2_fillGains 72 = .ok (.istore 7, 2) by decide +kernel) rfl (by decide)
theorem s_5_74 : a_Snd 5 74 (o_lda 0 75) := s_ldan (show decode cX2_fillGains 74 = .ok (.aload_n 0, 1) by decide +kernel) rfl rfl
theorem s_5_75 : a_Snd 5 75 (o_get 2 8 78) := s_get (T := TX2) (N := 10) rfl fin2 (by decide) wd_178 (show decode cX2_fillGains 75 = .ok (.getfield 33, 3) by decide +kernel) rfl
theorem s_5_78 : a_Snd 5 78 (o_ldi 2 79) := s_ldin (show decode cX2_fillGains 78 = .ok (.iload_n 2, 1) by decide +kernel) rfl rfl
theorem s_5_79 : a_Snd 5 79 (o_pi (nI 10) 81) := s_pib (show decode cX2_fillGains 79 = .ok (.bipush 10, 2) by decide +kernel) (by decide) rfl
theorem s_5_81 : a_Snd 5 81 (o_bi f_mul 82) := s_imul (show decode cX2_fillGains 81 = .ok (.imul, 1) by decide +kernel) rfl
theorem s_5_82 : a_Snd 5 82 (o_ldi 6 84) := s_ldi (show decode cX2_fillGains 82 = .ok (.iload 6, 2) by decide +kernel) rfl
theorem s_5_84 : a_Snd 5 84 (o_bi f_add 85) := s_iadd (show decode cX2_fillGains 84 = .ok (.iadd, 1) by decide +kernel) rfl
theorem s_5_85 : a_Snd 5 85 (o_ldi 7 87) := s_ldi (show decode cX2_fillGains 85 = .ok (.iload 7, 2) by decide +kernel) rfl
theorem s_5_87 : a_Snd 5 87 (o_ldi 5 89) := s_ldi (show decode cX2_fillGains 87 = .ok (.iload 5, 2) by decide +kernel) rfl
theorem s_5_89 : a_Snd 5 89 (o_bi f_sub 90) := s_isub (show decode cX2_fillGains 89 = .ok (.isub, 1) by decide +kernel) rfl
theorem s_5_90 : a_Snd 5 90 (o_ias 91) := s_ias (show decode cX2_fillGains 90 = .ok (.iastore, 1) by decide +kernel) rfl
theorem s_5_91 : a_Snd 5 91 (o_inc 6 (nI 1) 94) := s_inc (show decode cX2_fillGains 91 = .ok (.iinc 6 1, 3) by decide +kernel) (by decide) rfl (by decide)
theorem s_5_94 : a_Snd 5 94 (o_go 42) := s_go (show decode cX2_fillGains 94 = .ok (.goto (-52), 3) by decide +kernel) (by decide)
theorem s_5_97 : a_Snd 5 97 (o_rv) := s_rv (show decode cX2_fillGains 97 = .ok (.return_, 1) by decide +kernel) rfl
theorem ts_5 : a_All 5 tb_5 := And.intro s_5_0 (And.intro s_5_1 (And.intro s_5_4 (And.intro s_5_5 (And.intro s_5_6 (And.intro s_5_7 (And.intro s_5_8 (And.intro s_5_9 (And.intro s_5_12 (And.intro s_5_14 (And.intro s_5_15 (And.intro s_5_16 (And.intro s_5_19 (And.intro s_5_21 (And.intro s_5_22 (And.intro s_5_25 (And.intro s_5_26 (And.intro s_5_27 (And.intro s_5_30 (And.intro s_5_31 (And.intro s_5_34 (And.intro s_5_36 (And.intro s_5_37 (And.intro s_5_38 (And.intro s_5_39 (And.intro s_5_40 (And.intro s_5_42 (And.intro s_5_44 (And.intro s_5_45 (And.intro s_5_48 (And.intro s_5_49 (And.intro s_5_50 (And.intro s_5_53 (And.intro s_5_54 (And.intro s_5_57 (And.intro s_5_58 (And.intro s_5_59 (And.intro s_5_60 (And.intro s_5_62 (And.intro s_5_63 (And.intro s_5_64 (And.intro s_5_67 (And.intro s_5_69 (And.intro s_5_72 (And.intro s_5_74 (And.intro s_5_75 (And.intro s_5_78 (And.intro s_5_79 (And.intro s_5_81 (And.intro s_5_82 (And.intro s_5_84 (And.intro s_5_85 (And.intro s_5_87 (And.intro s_5_89 (And.intro s_5_90 (And.intro s_5_91 (And.intro s_5_94 (And.intro s_5_97 (trivial))))))))))))))))))))))))))))))))))))))))))))))))))))))))))
/-! 6: NetLaw$Mending.gained(II)I -/
def tb_6 : List (Nat × a_OP) := [(0, o_lda 0 1), (1, o_get 2 8 4), (4, o_ldi 1 5), (5, o_pi (nI 10) 7), (7, o_bi f_mul 8), (8, o_ldi 2 9), (9, o_bi f_add 10), (10, o_ial 11), (11, o_ri)]
theorem s_6_0 : a_Snd 6 0 (o_lda 0 1) := s_ldan (show decode cX2_gained 0 = .ok (.aload_n 0, 1) by decide +kernel) rfl rfl
theorem s_6_1 : a_Snd 6 1 (o_get 2 8 4) := s_get (T := TX2) (N := 10) rfl fin2 (by decide) wd_178 (show decode cX2_gained 1 = .ok (.getfield 33, 3) by decide +kernel) rfl
theorem s_6_4 : a_Snd 6 4 (o_ldi 1 5) := s_ldin (show decode cX2_gained 4 = .ok (.iload_n 1, 1) by decide +kernel) rfl rfl
theorem s_6_5 : a_Snd 6 5 (o_pi (nI 10) 7) := s_pib (show decode cX2_gained 5 = .ok (.bipush 10, 2) by decide +kernel) (by decide) rfl
theorem s_6_7 : a_Snd 6 7 (o_bi f_mul 8) := s_imul (show decode cX2_gained 7 = .ok (.imul, 1) by decide +kernel) rfl
theorem s_6_8 : a_Snd 6 8 (o_ldi 2 9) := s_ldin (show decode cX2_gained 8 = .ok (.iload_n 2, 1) by decide +kernel) rfl rfl
theorem s_6_9 : a_Snd 6 9 (o_bi f_add 10) := s_iadd (show decode cX2_gained 9 = .ok (.iadd, 1) by decide +kernel) rfl
theorem s_6_10 : a_Snd 6 10 (o_ial 11) := s_ial (show decode cX2_gained 10 = .ok (.iaload, 1) by decide +kernel) rfl
theorem s_6_11 : a_Snd 6 11 (o_ri) := s_ri (show decode cX2_gained 11 = .ok (.ireturn, 1) by decide +kernel) rfl
theorem ts_6 : a_All 6 tb_6 := And.intro s_6_0 (And.intro s_6_1 (And.intro s_6_4 (And.intro s_6_5 (And.intro s_6_7 (And.intro s_6_8 (And.intro s_6_9 (And.intro s_6_10 (And.intro s_6_11 (trivial)))))))))
/-! 7: NetLaw$Mending.fillCosts(I)V -/
def tb_7 : List (Nat × a_OP) := [(0, o_lda 0 1), (1, o_ldi 1 2), (2, o_lda 0 3), (3, o_get 2 4 6), (6, o_ldi 1 7), (7, o_ial 8), (8, o_ivv 2 8 2 11), (11, o_lda 0 12), (12, o_get 2 9 15), (15, o_ldi 1 16), (16, o_pi (nI 5) 17), (17, o_bi f_mul 18), (18, o_lda 0 19), (19, o_get 2 4 22), (22, o_ldi 1 23), (23, o_ial 24), (24, o_bi f_add 25), (25, o_pi (nI 31) 27), (27, o_bi f_mul 28), (28, o_pi (nI 0) 29), (29, o_ias 30), (30, o_lda 0 31), (31, o_get 2 4 34), (34, o_ldi 1 35), (35, o_ial 36), (36, o_pi (nI 1) 37), (37, o_bi f_sub 38), (38, o_sti 2 39), (39, o_ldi 2 40), (40, o_lt 101 43), (43, o_lda 0 44), (44, o_get 2 3 47), (47, o_ldi 1 48), (48, o_pi (nI 4) 49), (49, o_bi f_mul 50), (50, o_ldi 2 51), (51, o_bi f_add 52), (52, o_ial 53), (53, o_sti 3 54), (54, o_lda 0 55), (55, o_ldi 1 56), (56, o_ldi 2 57), (57, o_ivv 2 8 2 60), (60, o_pi (nI 0) 61), (61, o_sti 4 63), (63, o_ldi 4 65), (65, o_lda 0 66), (66, o_get 2 7 69), (69, o_ldi 3 70), (70, o_ial 71), (71, o_cgt 95 74), (74, o_lda 0 75), (75, o_ldi 1 76), (76, o_ldi 2 77), (77, o_ldi 4 79), (79, o_lda 0 80), (80, o_ldi 3 81), (81, o_ldi 4 83), (83, o_ivv 2 6 2 86), (86, o_ivv 2 9 4 89), (89, o_inc 4 (nI 1) 92), (92, o_go 63), (95, o_inc 2 (-1) 98), (98, o_go 39), (101, o_rv)]
theorem s_7_0 : a_Snd 7 0 (o_lda 0 1) := s_ldan (show decode cX2_fillCosts 0 = .ok (.aload_n 0, 1) by decide +kernel) rfl rfl
theorem s_7_1 : a_Snd 7 1 (o_ldi 1 2) := s_ldin (show decode cX2_fillCosts 1 = .ok (.iload_n 1, 1) by decide +kernel) rfl rfl
theorem s_7_2 : a_Snd 7 2 (o_lda 0 3) := s_ldan (show decode cX2_fillCosts 2 = .ok (.aload_n 0, 1) by decide +kernel) rfl rfl
theorem s_7_3 : a_Snd 7 3 (o_get 2 4 6) := s_get (T := TX2) (N := 10) rfl fin2 (by decide) wd_174 (show decode cX2_fillCosts 3 = .ok (.getfield 24, 3) by decide +kernel) rfl
theorem s_7_6 : a_Snd 7 6 (o_ldi 1 7) := s_ldin (show decode cX2_fillCosts 6 = .ok (.iload_n 1, 1) by decide +kernel) rfl rfl
theorem s_7_7 : a_Snd 7 7 (o_ial 8) := s_ial (show decode cX2_fillCosts 7 = .ok (.iaload, 1) by decide +kernel) rfl
theorem s_7_8 : a_Snd 7 8 (o_ivv 2 8 2 11) := s_ivv (ci := 2) rfl mk_8 wd_613 wp_19 wd_611 (And.intro (by decide +kernel) (by decide +kernel)) (show decode cX2_fillCosts 8 = .ok (.invokevirtual 99, 3) by decide +kernel) rfl
theorem s_7_11 : a_Snd 7 11 (o_lda 0 12) := s_ldan (show decode cX2_fillCosts 11 = .ok (.aload_n 0, 1) by decide +kernel) rfl rfl
theorem s_7_12 : a_Snd 7 12 (o_get 2 9 15) := s_get (T := TX2) (N := 10) rfl fin2 (by decide) wd_179 (show decode cX2_fillCosts 12 = .ok (.getfield 36, 3) by decide +kernel) rfl
theorem s_7_15 : a_Snd 7 15 (o_ldi 1 16) := s_ldin (show decode cX2_fillCosts 15 = .ok (.iload_n 1, 1) by decide +kernel) rfl rfl
theorem s_7_16 : a_Snd 7 16 (o_pi (nI 5) 17) := s_pic (show decode cX2_fillCosts 16 = .ok (.iconst 5, 1) by decide +kernel) (by decide) rfl
theorem s_7_17 : a_Snd 7 17 (o_bi f_mul 18) := s_imul (show decode cX2_fillCosts 17 = .ok (.imul, 1) by decide +kernel) rfl
theorem s_7_18 : a_Snd 7 18 (o_lda 0 19) := s_ldan (show decode cX2_fillCosts 18 = .ok (.aload_n 0, 1) by decide +kernel) rfl rfl
theorem s_7_19 : a_Snd 7 19 (o_get 2 4 22) := s_get (T := TX2) (N := 10) rfl fin2 (by decide) wd_174 (show decode cX2_fillCosts 19 = .ok (.getfield 24, 3) by decide +kernel) rfl
theorem s_7_22 : a_Snd 7 22 (o_ldi 1 23) := s_ldin (show decode cX2_fillCosts 22 = .ok (.iload_n 1, 1) by decide +kernel) rfl rfl
theorem s_7_23 : a_Snd 7 23 (o_ial 24) := s_ial (show decode cX2_fillCosts 23 = .ok (.iaload, 1) by decide +kernel) rfl
theorem s_7_24 : a_Snd 7 24 (o_bi f_add 25) := s_iadd (show decode cX2_fillCosts 24 = .ok (.iadd, 1) by decide +kernel) rfl
theorem s_7_25 : a_Snd 7 25 (o_pi (nI 31) 27) := s_pib (show decode cX2_fillCosts 25 = .ok (.bipush 31, 2) by decide +kernel) (by decide) rfl
theorem s_7_27 : a_Snd 7 27 (o_bi f_mul 28) := s_imul (show decode cX2_fillCosts 27 = .ok (.imul, 1) by decide +kernel) rfl
theorem s_7_28 : a_Snd 7 28 (o_pi (nI 0) 29) := s_pic (show decode cX2_fillCosts 28 = .ok (.iconst 0, 1) by decide +kernel) (by decide) rfl
theorem s_7_29 : a_Snd 7 29 (o_ias 30) := s_ias (show decode cX2_fillCosts 29 = .ok (.iastore, 1) by decide +kernel) rfl
theorem s_7_30 : a_Snd 7 30 (o_lda 0 31) := s_ldan (show decode cX2_fillCosts 30 = .ok (.aload_n 0, 1) by decide +kernel) rfl rfl
theorem s_7_31 : a_Snd 7 31 (o_get 2 4 34) := s_get (T := TX2) (N := 10) rfl fin2 (by decide) wd_174 (show decode cX2_fillCosts 31 = .ok (.getfield 24, 3) by decide +kernel) rfl
theorem s_7_34 : a_Snd 7 34 (o_ldi 1 35) := s_ldin (show decode cX2_fillCosts 34 = .ok (.iload_n 1, 1) by decide +kernel) rfl rfl
theorem s_7_35 : a_Snd 7 35 (o_ial 36) := s_ial (show decode cX2_fillCosts 35 = .ok (.iaload, 1) by decide +kernel) rfl
theorem s_7_36 : a_Snd 7 36 (o_pi (nI 1) 37) := s_pic (show decode cX2_fillCosts 36 = .ok (.iconst 1, 1) by decide +kernel) (by decide) rfl
theorem s_7_37 : a_Snd 7 37 (o_bi f_sub 38) := s_isub (show decode cX2_fillCosts 37 = .ok (.isub, 1) by decide +kernel) rfl
theorem s_7_38 : a_Snd 7 38 (o_sti 2 39) := s_stin (show decode cX2_fillCosts 38 = .ok (.istore_n 2, 1) by decide +kernel) rfl rfl (by decide)
theorem s_7_39 : a_Snd 7 39 (o_ldi 2 40) := s_ldin (show decode cX2_fillCosts 39 = .ok (.iload_n 2, 1) by decide +kernel) rfl rfl
theorem s_7_40 : a_Snd 7 40 (o_lt 101 43) := s_ilt (show decode cX2_fillCosts 40 = .ok (.ifCond .lt 61, 3) by decide +kernel) (by decide) rfl
theorem s_7_43 : a_Snd 7 43 (o_lda 0 44) := s_ldan (show decode cX2_fillCosts 43 = .ok (.aload_n 0, 1) by decide +kernel) rfl rfl
theorem s_7_44 : a_Snd 7 44 (o_get 2 3 47) := s_get (T := TX2) (N := 10) rfl fin2 (by decide) wd_173 (show decode cX2_fillCosts 44 = .ok (.getfield 21, 3) by decide +kernel) rfl
theorem s_7_47 : a_Snd 7 47 (o_ldi 1 48) := s_ldin (show decode cX2_fillCosts 47 = .ok (.iload_n 1, 1) by decide +kernel) rfl rfl
theorem s_7_48 : a_Snd 7 48 (o_pi (nI 4) 49) := s_pic (show decode cX2_fillCosts 48 = .ok (.iconst 4, 1) by decide +kernel) (by decide) rfl
theorem s_7_49 : a_Snd 7 49 (o_bi f_mul 50) := s_imul (show decode cX2_fillCosts 49 = .ok (.imul, 1) by decide +kernel) rfl
theorem s_7_50 : a_Snd 7 50 (o_ldi 2 51) := s_ldin (show decode cX2_fillCosts 50 = .ok (.iload_n 2, 1) by decide +kernel) rfl rfl
theorem s_7_51 : a_Snd 7 51 (o_bi f_add 52) := s_iadd (show decode cX2_fillCosts 51 = .ok (.iadd, 1) by decide +kernel) rfl
theorem s_7_52 : a_Snd 7 52 (o_ial 53) := s_ial (show decode cX2_fillCosts 52 = .ok (.iaload, 1) by decide +kernel) rfl
theorem s_7_53 : a_Snd 7 53 (o_sti 3 54) := s_stin (show decode cX2_fillCosts 53 = .ok (.istore_n 3, 1) by decide +kernel) rfl rfl (by decide)
theorem s_7_54 : a_Snd 7 54 (o_lda 0 55) := s_ldan (show decode cX2_fillCosts 54 = .ok (.aload_n 0, 1) by decide +kernel) rfl rfl
theorem s_7_55 : a_Snd 7 55 (o_ldi 1 56) := s_ldin (show decode cX2_fillCosts 55 = .ok (.iload_n 1, 1) by decide +kernel) rfl rfl
theorem s_7_56 : a_Snd 7 56 (o_ldi 2 57) := s_ldin (show decode cX2_fillCosts 56 = .ok (.iload_n 2, 1) by decide +kernel) rfl rfl
theorem s_7_57 : a_Snd 7 57 (o_ivv 2 8 2 60) := s_ivv (ci := 2) rfl mk_8 wd_613 wp_19 wd_611 (And.intro (by decide +kernel) (by decide +kernel)) (show decode cX2_fillCosts 57 = .ok (.invokevirtual 99, 3) by decide +kernel) rfl
theorem s_7_60 : a_Snd 7 60 (o_pi (nI 0) 61) := s_pic (show decode cX2_fillCosts 60 = .ok (.iconst 0, 1) by decide +kernel) (by decide) rfl
theorem s_7_61 : a_Snd 7 61 (o_sti 4 63) := s_sti (show decode cX2_fillCosts 61 = .ok (.istore 4, 2) by decide +kernel) rfl (by decide)
theorem s_7_63 : a_Snd 7 63 (o_ldi 4 65) := s_ldi (show decode cX2_fillCosts 63 = .ok (.iload 4, 2) by decide +kernel) rfl
theorem s_7_65 : a_Snd 7 65 (o_lda 0 66) := s_ldan (show decode cX2_fillCosts 65 = .ok (.aload_n 0, 1) by decide +kernel) rfl rfl
theorem s_7_66 : a_Snd 7 66 (o_get 2 7 69) := s_get (T := TX2) (N := 10) rfl fin2 (by decide) wd_177 (show decode cX2_fillCosts 66 = .ok (.getfield 30, 3) by decide +kernel) rfl
theorem s_7_69 : a_Snd 7 69 (o_ldi 3 70) := s_ldin (show decode cX2_fillCosts 69 = .ok (.iload_n 3, 1) by decide +kernel) rfl rfl
theorem s_7_70 : a_Snd 7 70 (o_ial 71) := s_ial (show decode cX2_fillCosts 70 = .ok (.iaload, 1) by decide +kernel) rfl
theorem s_7_71 : a_Snd 7 71 (o_cgt 95 74) := s_cgt (show decode cX2_fillCosts 71 = .ok (.if_icmp .gt 24, 3) by decide +kernel) (by decide) rfl
theorem s_7_74 : a_Snd 7 74 (o_lda 0 75) := s_ldan (show decode cX2_fillCosts 74 = .ok (.aload_n 0, 1) by decide +kernel) rfl rfl
theorem s_7_75 : a_Snd 7 75 (o_ldi 1 76) := s_ldin (show decode cX2_fillCosts 75 = .ok (.iload_n 1, 1) by decide +kernel) rfl rfl
theorem s_7_76 : a_Snd 7 76 (o_ldi 2 77) := s_ldin (show decode cX2_fillCosts 76 = .ok (.iload_n 2, 1) by decide +kernel) rfl rfl
theorem s_7_77 : a_Snd 7 77 (o_ldi 4 79) := s_ldi (show decode cX2_fillCosts 77 = .ok (.iload 4, 2) by decide +kernel) rfl
theorem s_7_79 : a_Snd 7 79 (o_lda 0 80) := s_ldan (show decode cX2_fillCosts 79 = .ok (.aload_n 0, 1) by decide +kernel) rfl rfl
theorem s_7_80 : a_Snd 7 80 (o_ldi 3 81) := s_ldin (show decode cX2_fillCosts 80 = .ok (.iload_n 3, 1) by decide +kernel) rfl rfl
theorem s_7_81 : a_Snd 7 81 (o_ldi 4 83) := s_ldi (show decode cX2_fillCosts 81 = .ok (.iload 4, 2) by decide +kernel) rfl
theorem s_7_83 : a_Snd 7 83 (o_ivv 2 6 2 86) := s_ivv (ci := 2) rfl mk_6 wd_617 wp_20 wd_615 (And.intro (by decide +kernel) (by decide +kernel)) (show decode cX2_fillCosts 83 = .ok (.invokevirtual 102, 3) by decide +kernel) rfl
theorem s_7_86 : a_Snd 7 86 (o_ivv 2 9 4 89) := s_ivv (ci := 2) rfl mk_9 wd_621 wp_21 wd_619 (And.intro (by decide +kernel) (by decide +kernel)) (show decode cX2_fillCosts 86 = .ok (.invokevirtual 105, 3) by decide +kernel) rfl
theorem s_7_89 : a_Snd 7 89 (o_inc 4 (nI 1) 92) := s_inc (show decode cX2_fillCosts 89 = .ok (.iinc 4 1, 3) by decide +kernel) (by decide) rfl (by decide)
theorem s_7_92 : a_Snd 7 92 (o_go 63) := s_go (show decode cX2_fillCosts 92 = .ok (.goto (-29), 3) by decide +kernel) (by decide)
theorem s_7_95 : a_Snd 7 95 (o_inc 2 (-1) 98) := s_inc (show decode cX2_fillCosts 95 = .ok (.iinc 2 (-1), 3) by decide +kernel) (by decide) rfl (by decide)
theorem s_7_98 : a_Snd 7 98 (o_go 39) := s_go (show decode cX2_fillCosts 98 = .ok (.goto (-59), 3) by decide +kernel) (by decide)
theorem s_7_101 : a_Snd 7 101 (o_rv) := s_rv (show decode cX2_fillCosts 101 = .ok (.return_, 1) by decide +kernel) rfl
theorem ts_7 : a_All 7 tb_7 := And.intro s_7_0 (And.intro s_7_1 (And.intro s_7_2 (And.intro s_7_3 (And.intro s_7_6 (And.intro s_7_7 (And.intro s_7_8 (And.intro s_7_11 (And.intro s_7_12 (And.intro s_7_15 (And.intro s_7_16 (And.intro s_7_17 (And.intro s_7_18 (And.intro s_7_19 (And.intro s_7_22 (And.intro s_7_23 (And.intro s_7_24 (And.intro s_7_25 (And.intro s_7_27 (And.intro s_7_28 (And.intro s_7_29 (And.intro s_7_30 (And.intro s_7_31 (And.intro s_7_34 (And.intro s_7_35 (And.intro s_7_36 (And.intro s_7_37 (And.intro s_7_38 (And.intro s_7_39 (And.intro s_7_40 (And.intro s_7_43 (And.intro s_7_44 (And.intro s_7_47 (And.intro s_7_48 (And.intro s_7_49 (And.intro s_7_50 (And.intro s_7_51 (And.intro s_7_52 (And.intro s_7_53 (And.intro s_7_54 (And.intro s_7_55 (And.intro s_7_56 (And.intro s_7_57 (And.intro s_7_60 (And.intro s_7_61 (And.intro s_7_63 (And.intro s_7_65 (And.intro s_7_66 (And.intro s_7_69 (And.intro s_7_70 (And.intro s_7_71 (And.intro s_7_74 (And.intro s_7_75 (And.intro s_7_76 (And.intro s_7_77 (And.intro s_7_79 (And.intro s_7_80 (And.intro s_7_81 (And.intro s_7_83 (And.intro s_7_86 (And.intro s_7_89 (And.intro s_7_92 (And.intro s_7_95 (And.intro s_7_98 (And.intro s_7_101 (trivial)))))))))))))))))))))))))))))))))))))))))))))))))))))))))))))))))
/-! 8: NetLaw$Mending.clearCosts(II)V -/
def tb_8 : List (Nat × a_OP) := [(0, o_ldi 1 1), (1, o_pi (nI 5) 2), (2, o_bi f_mul 3), (3, o_ldi 2 4), (4, o_bi f_add 5), (5, o_pi (nI 31) 7), (7, o_bi f_mul 8), (8, o_sti 3 9), (9, o_pi (nI 0) 10), (10, o_sti 4 12), (12, o_ldi 4 14), (14, o_pi (nI 31) 16), (16, o_cge 37 19), (19, o_lda 0 20), (20, o_get 2 9 23), (23, o_ldi 3 24), (24, o_ldi 4 26), (26, o_bi f_add 27), (27, o_pi (nI 1000) 30), (30, o_ias 31), (31, o_inc 4 (nI 1) 34), (34, o_go 12), (37, o_rv)]
theorem s_8_0 : a_Snd 8 0 (o_ldi 1 1) := s_ldin (show decode cX2_clearCosts 0 = .ok (.iload_n 1, 1) by decide +kernel) rfl rfl
theorem s_8_1 : a_Snd 8 1 (o_pi (nI 5) 2) := s_pic (show decode cX2_clearCosts 1 = .ok (.iconst 5, 1) by decide +kernel) (by decide) rfl
theorem s_8_2 : a_Snd 8 2 (o_bi f_mul 3) := s_imul (show decode cX2_clearCosts 2 = .ok (.imul, 1) by decide +kernel) rfl
theorem s_8_3 : a_Snd 8 3 (o_ldi 2 4) := s_ldin (show decode cX2_clearCosts 3 = .ok (.iload_n 2, 1) by decide +kernel) rfl rfl
theorem s_8_4 : a_Snd 8 4 (o_bi f_add 5) := s_iadd (show decode cX2_clearCosts 4 = .ok (.iadd, 1) by decide +kernel) rfl
theorem s_8_5 : a_Snd 8 5 (o_pi (nI 31) 7) := s_pib (show decode cX2_clearCosts 5 = .ok (.bipush 31, 2) by decide +kernel) (by decide) rfl
theorem s_8_7 : a_Snd 8 7 (o_bi f_mul 8) := s_imul (show decode cX2_clearCosts 7 = .ok (.imul, 1) by decide +kernel) rfl
theorem s_8_8 : a_Snd 8 8 (o_sti 3 9) := s_stin (show decode cX2_clearCosts 8 = .ok (.istore_n 3, 1) by decide +kernel) rfl rfl (by decide)
theorem s_8_9 : a_Snd 8 9 (o_pi (nI 0) 10) := s_pic (show decode cX2_clearCosts 9 = .ok (.iconst 0, 1) by decide +kernel) (by decide) rfl
theorem s_8_10 : a_Snd 8 10 (o_sti 4 12) := s_sti (show decode cX2_clearCosts 10 = .ok (.istore 4, 2) by decide +kernel) rfl (by decide)
theorem s_8_12 : a_Snd 8 12 (o_ldi 4 14) := s_ldi (show decode cX2_clearCosts 12 = .ok (.iload 4, 2) by decide +kernel) rfl
theorem s_8_14 : a_Snd 8 14 (o_pi (nI 31) 16) := s_pib (show decode cX2_clearCosts 14 = .ok (.bipush 31, 2) by decide +kernel) (by decide) rfl
theorem s_8_16 : a_Snd 8 16 (o_cge 37 19) := s_cge (show decode cX2_clearCosts 16 = .ok (.if_icmp .ge 21, 3) by decide +kernel) (by decide) rfl
theorem s_8_19 : a_Snd 8 19 (o_lda 0 20) := s_ldan (show decode cX2_clearCosts 19 = .ok (.aload_n 0, 1) by decide +kernel) rfl rfl
theorem s_8_20 : a_Snd 8 20 (o_get 2 9 23) := s_get (T := TX2) (N := 10) rfl fin2 (by decide) wd_179 (show decode cX2_clearCosts 20 = .ok (.getfield 36, 3) by decide +kernel) rfl
theorem s_8_23 : a_Snd 8 23 (o_ldi 3 24) := s_ldin (show decode cX2_clearCosts 23 = .ok (.iload_n 3, 1) by decide +kernel) rfl rfl
theorem s_8_24 : a_Snd 8 24 (o_ldi 4 26) := s_ldi (show decode cX2_clearCosts 24 = .ok (.iload 4, 2) by decide +kernel) rfl
theorem s_8_26 : a_Snd 8 26 (o_bi f_add 27) := s_iadd (show decode cX2_clearCosts 26 = .ok (.iadd, 1) by decide +kernel) rfl
theorem s_8_27 : a_Snd 8 27 (o_pi (nI 1000) 30) := s_pis (show decode cX2_clearCosts 27 = .ok (.sipush 1000, 3) by decide +kernel) (by decide) rfl
theorem s_8_30 : a_Snd 8 30 (o_ias 31) := s_ias (show decode cX2_clearCosts 30 = .ok (.iastore, 1) by decide +kernel) rfl
theorem s_8_31 : a_Snd 8 31 (o_inc 4 (nI 1) 34) := s_inc (show decode cX2_clearCosts 31 = .ok (.iinc 4 1, 3) by decide +kernel) (by decide) rfl (by decide)
theorem s_8_34 : a_Snd 8 34 (o_go 12) := s_go (show decode cX2_clearCosts 34 = .ok (.goto (-22), 3) by decide +kernel) (by decide)
theorem s_8_37 : a_Snd 8 37 (o_rv) := s_rv (show decode cX2_clearCosts 37 = .ok (.return_, 1) by decide +kernel) rfl
theorem ts_8 : a_All 8 tb_8 := And.intro s_8_0 (And.intro s_8_1 (And.intro s_8_2 (And.intro s_8_3 (And.intro s_8_4 (And.intro s_8_5 (And.intro s_8_7 (And.intro s_8_8 (And.intro s_8_9 (And.intro s_8_10 (And.intro s_8_12 (And.intro s_8_14 (And.intro s_8_16 (And.intro s_8_19 (And.intro s_8_20 (And.intro s_8_23 (And.intro s_8_24 (And.intro s_8_26 (And.intro s_8_27 (And.intro s_8_30 (And.intro s_8_31 (And.intro s_8_34 (And.intro s_8_37 (trivial)))))))))))))))))))))))
/-! 9: NetLaw$Mending.lowerCosts(IIII)V -/
def tb_9 : List (Nat × a_OP) := [(0, o_ldi 1 1), (1, o_pi (nI 5) 2), (2, o_bi f_mul 3), (3, o_ldi 2 4), (4, o_bi f_add 5), (5, o_pi (nI 31) 7), (7, o_bi f_mul 8), (8, o_sti 5 10), (10, o_pi (nI 0) 11), (11, o_sti 6 13), (13, o_ldi 6 15), (15, o_pi (nI 31) 17), (17, o_cge 68 20), (20, o_ldi 3 21), (21, o_lda 0 22), (22, o_ldi 1 23), (23, o_ldi 2 24), (24, o_pi (nI 1) 25), (25, o_bi f_add 26), (26, o_ldi 6 28), (28, o_ldi 4 30), (30, o_bi f_sub 31), (31, o_ivv 2 10 3 34), (34, o_bi f_add 35), (35, o_sti 7 37), (37, o_lda 0 38), (38, o_get 2 9 41), (41, o_ldi 5 43), (43, o_ldi 6 45), (45, o_bi f_add 46), (46, o_lda 0 47), (47, o_get 2 9 50), (50, o_ldi 5 52), (52, o_ldi 6 54), (54, o_bi f_add 55), (55, o_ial 56), (56, o_ldi 7 58), (58, o_ivs 208 2 61), (61, o_ias 62), (62, o_inc 6 (nI 1) 65), (65, o_go 13), (68, o_rv)]
theorem s_9_0 : a_Snd 9 0 (o_ldi 1 1) := s_ldin (show decode cX2_lowerCosts 0 = .ok (.iload_n 1, 1) by decide +kernel) rfl rfl
theorem s_9_1 : a_Snd 9 1 (o_pi (nI 5) 2) := s_pic (show decode cX2_lowerCosts 1 = .ok (.iconst 5, 1) by decide +kernel) (by decide) rfl
theorem s_9_2 : a_Snd 9 2 (o_bi f_mul 3) := s_imul (show decode cX2_lowerCosts 2 = .ok (.imul, 1) by decide +kernel) rfl
theorem s_9_3 : a_Snd 9 3 (o_ldi 2 4) := s_ldin (show decode cX2_lowerCosts 3 = .ok (.iload_n 2, 1) by decide +kernel) rfl rfl
theorem s_9_4 : a_Snd 9 4 (o_bi f_add 5) := s_iadd (show decode cX2_lowerCosts 4 = .ok (.iadd, 1) by decide +kernel) rfl
theorem s_9_5 : a_Snd 9 5 (o_pi (nI 31) 7) := s_pib (show decode cX2_lowerCosts 5 = .ok (.bipush 31, 2) by decide +kernel) (by decide) rfl
theorem s_9_7 : a_Snd 9 7 (o_bi f_mul 8) := s_imul (show decode cX2_lowerCosts 7 = .ok (.imul, 1) by decide +kernel) rfl
theorem s_9_8 : a_Snd 9 8 (o_sti 5 10) := s_sti (show decode cX2_lowerCosts 8 = .ok (.istore 5, 2) by decide +kernel) rfl (by decide)
theorem s_9_10 : a_Snd 9 10 (o_pi (nI 0) 11) := s_pic (show decode cX2_lowerCosts 10 = .ok (.iconst 0, 1) by decide +kernel) (by decide) rfl
theorem s_9_11 : a_Snd 9 11 (o_sti 6 13) := s_sti (show decode cX2_lowerCosts 11 = .ok (.istore 6, 2) by decide +kernel) rfl (by decide)
theorem s_9_13 : a_Snd 9 13 (o_ldi 6 15) := s_ldi (show decode cX2_lowerCosts 13 = .ok (.iload 6, 2) by decide +kernel) rfl
theorem s_9_15 : a_Snd 9 15 (o_pi (nI 31) 17) := s_pib (show decode cX2_lowerCosts 15 = .ok (.bipush 31, 2) by decide +kernel) (by decide) rfl
theorem s_9_17 : a_Snd 9 17 (o_cge 68 20) := s_cge (show decode cX2_lowerCosts 17 = .ok (.if_icmp .ge 51, 3) by decide +kernel) (by decide) rfl
theorem s_9_20 : a_Snd 9 20 (o_ldi 3 21) := s_ldin (show decode cX2_lowerCosts 20 = .ok (.iload_n 3, 1) by decide +kernel) rfl rfl
theorem s_9_21 : a_Snd 9 21 (o_lda 0 22) := s_ldan (show decode cX2_lowerCosts 21 = .ok (.aload_n 0, 1) by decide +kernel) rfl rfl
theorem s_9_22 : a_Snd 9 22 (o_ldi 1 23) := s_ldin (show decode cX2_lowerCosts 22 = .ok (.iload_n 1, 1) by decide +kernel) rfl rfl
theorem s_9_23 : a_Snd 9 23 (o_ldi 2 24) := s_ldin (show decode cX2_lowerCosts 23 = .ok (.iload_n 2, 1) by decide +kernel) rfl rfl
theorem s_9_24 : a_Snd 9 24 (o_pi (nI 1) 25) := s_pic (show decode cX2_lowerCosts 24 = .ok (.iconst 1, 1) by decide +kernel) (by decide) rfl
theorem s_9_25 : a_Snd 9 25 (o_bi f_add 26) := s_iadd (show decode cX2_lowerCosts 25 = .ok (.iadd, 1) by decide +kernel) rfl
theorem s_9_26 : a_Snd 9 26 (o_ldi 6 28) := s_ldi (show decode cX2_lowerCosts 26 = .ok (.iload 6, 2) by decide +kernel) rfl
theorem s_9_28 : a_Snd 9 28 (o_ldi 4 30) := s_ldi (show decode cX2_lowerCosts 28 = .ok (.iload 4, 2) by decide +kernel) rfl
theorem s_9_30 : a_Snd 9 30 (o_bi f_sub 31) := s_isub (show decode cX2_lowerCosts 30 = .ok (.isub, 1) by decide +kernel) rfl
theorem s_9_31 : a_Snd 9 31 (o_ivv 2 10 3 34) := s_ivv (ci := 2) rfl mk_10 wd_625 wp_22 wd_623 (And.intro (by decide +kernel) (by decide +kernel)) (show decode cX2_lowerCosts 31 = .ok (.invokevirtual 109, 3) by decide +kernel) rfl
theorem s_9_34 : a_Snd 9 34 (o_bi f_add 35) := s_iadd (show decode cX2_lowerCosts 34 = .ok (.iadd, 1) by decide +kernel) rfl
theorem s_9_35 : a_Snd 9 35 (o_sti 7 37) := s_sti (show decode cX2_lowerCosts 35 = .ok (.istore 7, 2) by decide +kernel) rfl (by decide)
theorem s_9_37 : a_Snd 9 37 (o_lda 0 38) := s_ldan (show decode cX2_lowerCosts 37 = .ok (.aload_n 0, 1) by decide +kernel) rfl rfl
theorem s_9_38 : a_Snd 9 38 (o_get 2 9 41) := s_get (T := TX2) (N := 10) rfl fin2 (by decide) wd_179 (show decode cX2_lowerCosts 38 = .ok (.getfield 36, 3) by decide +kernel) rfl
theorem s_9_41 : a_Snd 9 41 (o_ldi 5 43) := s_ldi (show decode cX2_lowerCosts 41 = .ok (.iload 5, 2) by decide +kernel) rfl
theorem s_9_43 : a_Snd 9 43 (o_ldi 6 45) := s_ldi (show decode cX2_lowerCosts 43 = .ok (.iload 6, 2) by decide +kernel) rfl
theorem s_9_45 : a_Snd 9 45 (o_bi f_add 46) := s_iadd (show decode cX2_lowerCosts 45 = .ok (.iadd, 1) by decide +kernel) rfl
theorem s_9_46 : a_Snd 9 46 (o_lda 0 47) := s_ldan (show decode cX2_lowerCosts 46 = .ok (.aload_n 0, 1) by decide +kernel) rfl rfl
theorem s_9_47 : a_Snd 9 47 (o_get 2 9 50) := s_get (T := TX2) (N := 10) rfl fin2 (by decide) wd_179 (show decode cX2_lowerCosts 47 = .ok (.getfield 36, 3) by decide +kernel) rfl
theorem s_9_50 : a_Snd 9 50 (o_ldi 5 52) := s_ldi (show decode cX2_lowerCosts 50 = .ok (.iload 5, 2) by decide +kernel) rfl
theorem s_9_52 : a_Snd 9 52 (o_ldi 6 54) := s_ldi (show decode cX2_lowerCosts 52 = .ok (.iload 6, 2) by decide +kernel) rfl
theorem s_9_54 : a_Snd 9 54 (o_bi f_add 55) := s_iadd (show decode cX2_lowerCosts 54 = .ok (.iadd, 1) by decide +kernel) rfl
theorem s_9_55 : a_Snd 9 55 (o_ial 56) := s_ial (show decode cX2_lowerCosts 55 = .ok (.iaload, 1) by decide +kernel) rfl
theorem s_9_56 : a_Snd 9 56 (o_ldi 7 58) := s_ldi (show decode cX2_lowerCosts 56 = .ok (.iload 7, 2) by decide +kernel) rfl
theorem s_9_58 : a_Snd 9 58 (o_ivs 208 2 61) := s_ivs mk_208 wd_629 wd_628 (And.intro (by decide +kernel) (by decide +kernel)) (show decode cX2_lowerCosts 58 = .ok (.invokestatic 113, 3) by decide +kernel) rfl
theorem s_9_61 : a_Snd 9 61 (o_ias 62) := s_ias (show decode cX2_lowerCosts 61 = .ok (.iastore, 1) by decide +kernel) rfl
theorem s_9_62 : a_Snd 9 62 (o_inc 6 (nI 1) 65) := s_inc (show decode cX2_lowerCosts 62 = .ok (.iinc 6 1, 3) by decide +kernel) (by decide) rfl (by decide)
theorem s_9_65 : a_Snd 9 65 (o_go 13) := s_go (show decode cX2_lowerCosts 65 = .ok (.goto (-52), 3) by decide +kernel) (by decide)
theorem s_9_68 : a_Snd 9 68 (o_rv) := s_rv (show decode cX2_lowerCosts 68 = .ok (.return_, 1) by decide +kernel) rfl
theorem ts_9 : a_All 9 tb_9 := And.intro s_9_0 (And.intro s_9_1 (And.intro s_9_2 (And.intro s_9_3 (And.intro s_9_4 (And.intro s_9_5 (And.intro s_9_7 (And.intro s_9_8 (And.intro s_9_10 (And.intro s_9_11 (And.intro s_9_13 (And.intro s_9_15 (And.intro s_9_17 (And.intro s_9_20 (And.intro s_9_21 (And.intro s_9_22 (And.intro s_9_23 (And.intro s_9_24 (And.intro s_9_25 (And.intro s_9_26 (And.intro s_9_28 (And.intro s_9_30 (And.intro s_9_31 (And.intro s_9_34 (And.intro s_9_35 (And.intro s_9_37 (And.intro s_9_38 (And.intro s_9_41 (And.intro s_9_43 (And.intro s_9_45 (And.intro s_9_46 (And.intro s_9_47 (And.intro s_9_50 (And.intro s_9_52 (And.intro s_9_54 (And.intro s_9_55 (And.intro s_9_56 (And.intro s_9_58 (And.intro s_9_61 (And.intro s_9_62 (And.intro s_9_65 (And.intro s_9_68 (trivial))))))))))))))))))))))))))))))))))))))))))
/-! 10: NetLaw$Mending.costOf(III)I -/
def tb_10 : List (Nat × a_OP) := [(0, o_lda 0 1), (1, o_get 2 9 4), (4, o_ldi 1 5), (5, o_pi (nI 5) 6), (6, o_bi f_mul 7), (7, o_ldi 2 8), (8, o_bi f_add 9), (9, o_pi (nI 31) 11), (11, o_bi f_mul 12), (12, o_pi (nI 0) 13), (13, o_ldi 3 14), (14, o_ivs 207 2 17), (17, o_bi f_add 18), (18, o_ial 19), (19, o_ri)]
theorem s_10_0 : a_Snd 10 0 (o_lda 0 1) := s_ldan (show decode cX2_costOf 0 = .ok (.aload_n 0, 1) by decide +kernel) rfl rfl
theorem s_10_1 : a_Snd 10 1 (o_get 2 9 4) := s_get (T := TX2) (N := 10) rfl fin2 (by decide) wd_179 (show decode cX2_costOf 1 = .ok (.getfield 36, 3) by decide +kernel) rfl
theorem s_10_4 : a_Snd 10 4 (o_ldi 1 5) := s_ldin (show decode cX2_costOf 4 = .ok (.iload_n 1, 1) by decide +kernel) rfl rfl
theorem s_10_5 : a_Snd 10 5 (o_pi (nI 5) 6) := s_pic (show decode cX2_costOf 5 = .ok (.iconst 5, 1) by decide +kernel) (by decide) rfl
theorem s_10_6 : a_Snd 10 6 (o_bi f_mul 7) := s_imul (show decode cX2_costOf 6 = .ok (.imul, 1) by decide +kernel) rfl
theorem s_10_7 : a_Snd 10 7 (o_ldi 2 8) := s_ldin (show decode cX2_costOf 7 = .ok (.iload_n 2, 1) by decide +kernel) rfl rfl
theorem s_10_8 : a_Snd 10 8 (o_bi f_add 9) := s_iadd (show decode cX2_costOf 8 = .ok (.iadd, 1) by decide +kernel) rfl
theorem s_10_9 : a_Snd 10 9 (o_pi (nI 31) 11) := s_pib (show decode cX2_costOf 9 = .ok (.bipush 31, 2) by decide +kernel) (by decide) rfl
theorem s_10_11 : a_Snd 10 11 (o_bi f_mul 12) := s_imul (show decode cX2_costOf 11 = .ok (.imul, 1) by decide +kernel) rfl
theorem s_10_12 : a_Snd 10 12 (o_pi (nI 0) 13) := s_pic (show decode cX2_costOf 12 = .ok (.iconst 0, 1) by decide +kernel) (by decide) rfl
theorem s_10_13 : a_Snd 10 13 (o_ldi 3 14) := s_ldin (show decode cX2_costOf 13 = .ok (.iload_n 3, 1) by decide +kernel) rfl rfl
theorem s_10_14 : a_Snd 10 14 (o_ivs 207 2 17) := s_ivs mk_207 wd_375 wd_627 (And.intro (by decide +kernel) (by decide +kernel)) (show decode cX2_costOf 14 = .ok (.invokestatic 118, 3) by decide +kernel) rfl
theorem s_10_17 : a_Snd 10 17 (o_bi f_add 18) := s_iadd (show decode cX2_costOf 17 = .ok (.iadd, 1) by decide +kernel) rfl
theorem s_10_18 : a_Snd 10 18 (o_ial 19) := s_ial (show decode cX2_costOf 18 = .ok (.iaload, 1) by decide +kernel) rfl
theorem s_10_19 : a_Snd 10 19 (o_ri) := s_ri (show decode cX2_costOf 19 = .ok (.ireturn, 1) by decide +kernel) rfl
theorem ts_10 : a_All 10 tb_10 := And.intro s_10_0 (And.intro s_10_1 (And.intro s_10_4 (And.intro s_10_5 (And.intro s_10_6 (And.intro s_10_7 (And.intro s_10_8 (And.intro s_10_9 (And.intro s_10_11 (And.intro s_10_12 (And.intro s_10_13 (And.intro s_10_14 (And.intro s_10_17 (And.intro s_10_18 (And.intro s_10_19 (trivial)))))))))))))))
/-! 11: NetLaw$Mending.leastOverShared()I -/
def tb_11 : List (Nat × a_OP) := [(0, o_lda 0 1), (1, o_get 2 6 4), (4, o_le 21 7), (7, o_lda 0 8), (8, o_get 2 7 11), (11, o_lda 0 12), (12, o_get 2 5 15), (15, o_pi (nI 0) 16), (16, o_ial 17), (17, o_ial 18), (18, o_go 22), (21, o_pi (nI 0) 22), (22, o_sti 1 23), (23, o_lda 0 24), (24, o_get 2 6 27), (27, o_pi (nI 1) 28), (28, o_cle 45 31), (31, o_lda 0 32), (32, o_get 2 7 35), (35, o_lda 0 36), (36, o_get 2 5 39), (39, o_pi (nI 1) 40), (40, o_ial 41), (41, o_ial 42), (42, o_go 46), (45, o_pi (nI 0) 46), (46, o_sti 2 47), (47, o_pi (nI 1000) 50), (50, o_sti 3 51), (51, o_pi (nI 0) 52), (52, o_sti 4 54), (54, o_ldi 4 56), (56, o_ldi 1 57), (57, o_cgt 91 60), (60, o_pi (nI 0) 61), (61, o_sti 5 63), (63, o_ldi 5 65), (65, o_ldi 2 66), (66, o_cgt 85 69), (69, o_lda 0 70), (70, o_ldi 4 72), (72, o_ldi 5 74), (74, o_ldi 3 75), (75, o_ivv 2 12 3 78), (78, o_sti 3 79), (79, o_inc 5 (nI 1) 82), (82, o_go 63), (85, o_inc 4 (nI 1) 88), (88, o_go 54), (91, o_ldi 3 92), (92, o_pi (nI 1000) 95), (95, o_cge 102 98), (98, o_ldi 3 99), (99, o_go 103), (102, o_pi (-1) 103), (103, o_ri)]
theorem s_11_0 : a_Snd 11 0 (o_lda 0 1) := s_ldan (show decode cX2_leastOverShared 0 = .ok (.aload_n 0, 1) by decide +kernel) rfl rfl
theorem s_11_1 : a_Snd 11 1 (o_get 2 6 4) := s_get (T := TX2) (N := 10) rfl fin2 (by decide) wd_176 (show decode cX2_leastOverShared 1 = .ok (.getfield 39, 3) by decide +kernel) rfl
theorem s_11_4 : a_Snd 11 4 (o_le 21 7) := s_ile (show decode cX2_leastOverShared 4 = .ok (.ifCond .le 17, 3) by decide +kernel) (by decide) rfl
theorem s_11_7 : a_Snd 11 7 (o_lda 0 8) := s_ldan (show decode cX2_leastOverShared 7 = .ok (.aload_n 0, 1) by decide +kernel) rfl rfl
theorem s_11_8 : a_Snd 11 8 (o_get 2 7 11) := s_get (T := TX2) (N := 10) rfl fin2 (by decide) wd_177 (show decode cX2_leastOverShared 8 = .ok (.getfield 30, 3) by decide +kernel) rfl
theorem s_11_11 : a_Snd 11 11 (o_lda 0 12) := s_ldan (show decode cX2_leastOverShared 11 = .ok (.aload_n 0, 1) by decide +kernel) rfl rfl
theorem s_11_12 : a_Snd 11 12 (o_get 2 5 15) := s_get (T := TX2) (N := 10) rfl fin2 (by decide) wd_175 (show decode cX2_leastOverShared 12 = .ok (.getfield 27, 3) by decide +kernel) rfl
theorem s_11_15 : a_Snd 11 15 (o_pi (nI 0) 16) := s_pic (show decode cX2_leastOverShared 15 = .ok (.iconst 0, 1) by decide +kernel) (by decide) rfl
theorem s_11_16 : a_Snd 11 16 (o_ial 17) := s_ial (show decode cX2_leastOverShared 16 = .ok (.iaload, 1) by decide +kernel) rfl
theorem s_11_17 : a_Snd 11 17 (o_ial 18) := s_ial (show decode cX2_leastOverShared 17 = .ok (.iaload, 1) by decide +kernel) rfl
theorem s_11_18 : a_Snd 11 18 (o_go 22) := s_go (show decode cX2_leastOverShared 18 = .ok (.goto 4, 3) by decide +kernel) (by decide)
theorem s_11_21 : a_Snd 11 21 (o_pi (nI 0) 22) := s_pic (show decode cX2_leastOverShared 21 = .ok (.iconst 0, 1) by decide +kernel) (by decide) rfl
theorem s_11_22 : a_Snd 11 22 (o_sti 1 23) := s_stin (show decode cX2_leastOverShared 22 = .ok (.istore_n 1, 1) by decide +kernel) rfl rfl (by decide)
theorem s_11_23 : a_Snd 11 23 (o_lda 0 24) := s_ldan (show decode cX2_leastOverShared 23 = .ok (.aload_n 0, 1) by decide +kernel) rfl rfl
theorem s_11_24 : a_Snd 11 24 (o_get 2 6 27) := s_get (T := TX2) (N := 10) rfl fin2 (by decide) wd_176 (show decode cX2_leastOverShared 24 = .ok (.getfield 39, 3) by decide +kernel) rfl
theorem s_11_27 : a_Snd 11 27 (o_pi (nI 1) 28) := s_pic (show decode cX2_leastOverShared 27 = .ok (.iconst 1, 1) by decide +kernel) (by decide) rfl
theorem s_11_28 : a_Snd 11 28 (o_cle 45 31) := s_cle (show decode cX2_leastOverShared 28 = .ok (.if_icmp .le 17, 3) by decide +kernel) (by decide) rfl
theorem s_11_31 : a_Snd 11 31 (o_lda 0 32) := s_ldan (show decode cX2_leastOverShared 31 = .ok (.aload_n 0, 1) by decide +kernel) rfl rfl
theorem s_11_32 : a_Snd 11 32 (o_get 2 7 35) := s_get (T := TX2) (N := 10) rfl fin2 (by decide) wd_177 (show decode cX2_leastOverShared 32 = .ok (.getfield 30, 3) by decide +kernel) rfl
theorem s_11_35 : a_Snd 11 35 (o_lda 0 36) := s_ldan (show decode cX2_leastOverShared 35 = .ok (.aload_n 0, 1) by decide +kernel) rfl rfl
theorem s_11_36 : a_Snd 11 36 (o_get 2 5 39) := s_get (T := TX2) (N := 10) rfl fin2 (by decide) wd_175 (show decode cX2_leastOverShared 36 = .ok (.getfield 27, 3) by decide +kernel) rfl
theorem s_11_39 : a_Snd 11 39 (o_pi (nI 1) 40) := s_pic (show decode cX2_leastOverShared 39 = .ok (.iconst 1, 1) by decide +kernel) (by decide) rfl
theorem s_11_40 : a_Snd 11 40 (o_ial 41) := s_ial (show decode cX2_leastOverShared 40 = .ok (.iaload, 1) by decide +kernel) rfl
theorem s_11_41 : a_Snd 11 41 (o_ial 42) := s_ial (show decode cX2_leastOverShared 41 = .ok (.iaload, 1) by decide +kernel) rfl
theorem s_11_42 : a_Snd 11 42 (o_go 46) := s_go (show decode cX2_leastOverShared 42 = .ok (.goto 4, 3) by decide +kernel) (by decide)
theorem s_11_45 : a_Snd 11 45 (o_pi (nI 0) 46) := s_pic (show decode cX2_leastOverShared 45 = .ok (.iconst 0, 1) by decide +kernel) (by decide) rfl
theorem s_11_46 : a_Snd 11 46 (o_sti 2 47) := s_stin (show decode cX2_leastOverShared 46 = .ok (.istore_n 2, 1) by decide +kernel) rfl rfl (by decide)
theorem s_11_47 : a_Snd 11 47 (o_pi (nI 1000) 50) := s_pis (show decode cX2_leastOverShared 47 = .ok (.sipush 1000, 3) by decide +kernel) (by decide) rfl
theorem s_11_50 : a_Snd 11 50 (o_sti 3 51) := s_stin (show decode cX2_leastOverShared 50 = .ok (.istore_n 3, 1) by decide +kernel) rfl rfl (by decide)
theorem s_11_51 : a_Snd 11 51 (o_pi (nI 0) 52) := s_pic (show decode cX2_leastOverShared 51 = .ok (.iconst 0, 1) by decide +kernel) (by decide) rfl
theorem s_11_52 : a_Snd 11 52 (o_sti 4 54) := s_sti (show decode cX2_leastOverShared 52 = .ok (.istore 4, 2) by decide +kernel) rfl (by decide)
theorem s_11_54 : a_Snd 11 54 (o_ldi 4 56) := s_ldi (show decode cX2_leastOverShared 54 = .ok (.iload 4, 2) by decide +kernel) rfl
theorem s_11_56 : a_Snd 11 56 (o_ldi 1 57) := s_ldin (show decode cX2_leastOverShared 56 = .ok (.iload_n 1, 1) by decide +kernel) rfl rfl
theorem s_11_57 : a_Snd 11 57 (o_cgt 91 60) := s_cgt (show decode cX2_leastOverShared 57 = .ok (.if_icmp .gt 34, 3) by decide +kernel) (by decide) rfl
theorem s_11_60 : a_Snd 11 60 (o_pi (nI 0) 61) := s_pic (show decode cX2_leastOverShared 60 = .ok (.iconst 0, 1) by decide +kernel) (by decide) rfl
theorem s_11_61 : a_Snd 11 61 (o_sti 5 63) := s_sti (show decode cX2_leastOverShared 61 = .ok (.istore 5, 2) by decide +kernel) rfl (by decide)
theorem s_11_63 : a_Snd 11 63 (o_ldi 5 65) := s_ldi (show decode cX2_leastOverShared 63 = .ok (.iload 5, 2) by decide +kernel) rfl
theorem s_11_65 : a_Snd 11 65 (o_ldi 2 66) := s_ldin (show decode cX2_leastOverShared 65 = .ok (.iload_n 2, 1) by decide +kernel) rfl rfl
theorem s_11_66 : a_Snd 11 66 (o_cgt 85 69) := s_cgt (show decode cX2_leastOverShared 66 = .ok (.if_icmp .gt 19, 3) by decide +kernel) (by decide) rfl
theorem s_11_69 : a_Snd 11 69 (o_lda 0 70) := s_ldan (show decode cX2_leastOverShared 69 = .ok (.aload_n 0, 1) by decide +kernel) rfl rfl
theorem s_11_70 : a_Snd 11 70 (o_ldi 4 72) := s_ldi (show decode cX2_leastOverShared 70 = .ok (.iload 4, 2) by decide +kernel) rfl
theorem s_11_72 : a_Snd 11 72 (o_ldi 5 74) := s_ldi (show decode cX2_leastOverShared 72 = .ok (.iload 5, 2) by decide +kernel) rfl
theorem s_11_74 : a_Snd 11 74 (o_ldi 3 75) := s_ldin (show decode cX2_leastOverShared 74 = .ok (.iload_n 3, 1) by decide +kernel) rfl rfl
theorem s_11_75 : a_Snd 11 75 (o_ivv 2 12 3 78) := s_ivv (ci := 2) rfl mk_12 wd_637 wp_24 wd_635 (And.intro (by decide +kernel) (by decide +kernel)) (show decode cX2_leastOverShared 75 = .ok (.invokevirtual 121, 3) by decide +kernel) rfl
theorem s_11_78 : a_Snd 11 78 (o_sti 3 79) := s_stin (show decode cX2_leastOverShared 78 = .ok (.istore_n 3, 1) by decide +kernel) rfl rfl (by decide)
theorem s_11_79 : a_Snd 11 79 (o_inc 5 (nI 1) 82) := s_inc (show decode cX2_leastOverShared 79 = .ok (.iinc 5 1, 3) by decide +kernel) (by decide) rfl (by decide)
theorem s_11_82 : a_Snd 11 82 (o_go 63) := s_go (show decode cX2_leastOverShared 82 = .ok (.goto (-19), 3) by decide +kernel) (by decide)
theorem s_11_85 : a_Snd 11 85 (o_inc 4 (nI 1) 88) := s_inc (show decode cX2_leastOverShared 85 = .ok (.iinc 4 1, 3) by decide +kernel) (by decide) rfl (by decide)
theorem s_11_88 : a_Snd 11 88 (o_go 54) := s_go (show decode cX2_leastOverShared 88 = .ok (.goto (-34), 3) by decide +kernel) (by decide)
theorem s_11_91 : a_Snd 11 91 (o_ldi 3 92) := s_ldin (show decode cX2_leastOverShared 91 = .ok (.iload_n 3, 1) by decide +kernel) rfl rfl
theorem s_11_92 : a_Snd 11 92 (o_pi (nI 1000) 95) := s_pis (show decode cX2_leastOverShared 92 = .ok (.sipush 1000, 3) by decide +kernel) (by decide) rfl
theorem s_11_95 : a_Snd 11 95 (o_cge 102 98) := s_cge (show decode cX2_leastOverShared 95 = .ok (.if_icmp .ge 7, 3) by decide +kernel) (by decide) rfl
theorem s_11_98 : a_Snd 11 98 (o_ldi 3 99) := s_ldin (show decode cX2_leastOverShared 98 = .ok (.iload_n 3, 1) by decide +kernel) rfl rfl
theorem s_11_99 : a_Snd 11 99 (o_go 103) := s_go (show decode cX2_leastOverShared 99 = .ok (.goto 4, 3) by decide +kernel) (by decide)
theorem s_11_102 : a_Snd 11 102 (o_pi (-1) 103) := s_pic (show decode cX2_leastOverShared 102 = .ok (.iconst (-1), 1) by decide +kernel) (by decide) rfl
theorem s_11_103 : a_Snd 11 103 (o_ri) := s_ri (show decode cX2_leastOverShared 103 = .ok (.ireturn, 1) by decide +kernel) rfl
theorem ts_11 : a_All 11 tb_11 := And.intro s_11_0 (And.intro s_11_1 (And.intro s_11_4 (And.intro s_11_7 (And.intro s_11_8 (And.intro s_11_11 (And.intro s_11_12 (And.intro s_11_15 (And.intro s_11_16 (And.intro s_11_17 (And.intro s_11_18 (And.intro s_11_21 (And.intro s_11_22 (And.intro s_11_23 (And.intro s_11_24 (And.intro s_11_27 (And.intro s_11_28 (And.intro s_11_31 (And.intro s_11_32 (And.intro s_11_35 (And.intro s_11_36 (And.intro s_11_39 (And.intro s_11_40 (And.intro s_11_41 (And.intro s_11_42 (And.intro s_11_45 (And.intro s_11_46 (And.intro s_11_47 (And.intro s_11_50 (And.intro s_11_51 (And.intro s_11_52 (And.intro s_11_54 (And.intro s_11_56 (And.intro s_11_57 (And.intro s_11_60 (And.intro s_11_61 (And.intro s_11_63 (And.intro s_11_65 (And.intro s_11_66 (And.intro s_11_69 (And.intro s_11_70 (And.intro s_11_72 (And.intro s_11_74 (And.intro s_11_75 (And.intro s_11_78 (And.intro s_11_79 (And.intro s_11_82 (And.intro s_11_85 (And.intro s_11_88 (And.intro s_11_91 (And.intro s_11_92 (And.intro s_11_95 (And.intro s_11_98 (And.intro s_11_99 (And.intro s_11_102 (And.intro s_11_103 (trivial))))))))))))))))))))))))))))))))))))))))))))))))))))))))
/-! 12: NetLaw$Mending.tryShared(III)I -/
def tb_12 : List (Nat × a_OP) := [(0, o_pi (nI 0) 1), (1, o_sti 4 3), (3, o_lda 0 4), (4, o_get 2 6 7), (7, o_le 26 10), (10, o_ldi 4 12), (12, o_lda 0 13), (13, o_lda 0 14), (14, o_get 2 5 17), (17, o_pi (nI 0) 18), (18, o_ial 19), (19, o_ldi 1 20), (20, o_ivv 2 6 2 23), (23, o_bi f_add 24), (24, o_sti 4 26), (26, o_lda 0 27), (27, o_get 2 6 30), (30, o_pi (nI 1) 31), (31, o_cle 50 34), (34, o_ldi 4 36), (36, o_lda 0 37), (37, o_lda 0 38), (38, o_get 2 5 41), (41, o_pi (nI 1) 42), (42, o_ial 43), (43, o_ldi 2 44), (44, o_ivv 2 6 2 47), (47, o_bi f_add 48), (48, o_sti 4 50), (50, o_ldi 1 51), (51, o_ldi 2 52), (52, o_bi f_add 53), (53, o_lda 0 54), (54, o_pi (nI 0) 55), (55, o_pi (nI 0) 56), (56, o_lda 0 57), (57, o_get 2 2 60), (60, o_pi (nI 0) 61), (61, o_ial 62), (62, o_ldi 4 64), (64, o_bi f_sub 65), (65, o_ivv 2 10 3 68), (68, o_bi f_add 69), (69, o_lda 0 70), (70, o_pi (nI 1) 71), (71, o_pi (nI 0) 72), (72, o_lda 0 73), (73, o_get 2 2 76), (76, o_pi (nI 1) 77), (77, o_ial 78), (78, o_ldi 4 80), (80, o_bi f_sub 81), (81, o_ivv 2 10 3 84), (84, o_bi f_add 85), (85, o_sti 5 87), (87, o_ldi 5 89), (89, o_pi (nI 1000) 92), (92, o_cge 101 95), (95, o_ldi 5 97), (97, o_ldi 3 98), (98, o_cle 103 101), (101, o_ldi 3 102), (102, o_ri), (103, o_lda 0 104), (104, o_ldi 1 105), (105, o_ldi 2 106), (106, o_ldi 4 108), (108, o_ivv 2 13 3 111), (111, o_ldi 5 113), (113, o_ldi 3 114), (114, o_cne 126 117), (117, o_lda 0 118), (118, o_ivv 2 15 0 121), (121, o_ne 126 124), (124, o_ldi 3 125), (125, o_ri), (126, o_lda 0 127), (127, o_get 2 1 130), (130, o_pi (nI 0) 131), (131, o_lda 0 132), (132, o_get 2 0 135), (135, o_pi (nI 0) 136), (136, o_pi (nI 16) 138), (138, o_cpy 141), (141, o_ldi 5 143), (143, o_ri)]
theorem s_12_0 : a_Snd 12 0 (o_pi (nI 0) 1) := s_pic (show decode cX2_tryShared 0 = .ok (.iconst 0, 1) by decide +kernel) (by decide) rfl
theorem s_12_1 : a_Snd 12 1 (o_sti 4 3) := s_sti (show decode cX2_tryShared 1 = .ok (.istore 4, 2) by decide +kernel) rfl (by decide)
theorem s_12_3 : a_Snd 12 3 (o_lda 0 4) := s_ldan (show decode cX2_tryShared 3 = .ok (.aload_n 0, 1) by decide +kernel) rfl rfl
theorem s_12_4 : a_Snd 12 4 (o_get 2 6 7) := s_get (T := TX2) (N := 10) rfl fin2 (by decide) wd_176 (show decode cX2_tryShared 4 = .ok (.getfield 39, 3) by decide +kernel) rfl
theorem s_12_7 : a_Snd 12 7 (o_le 26 10) := s_ile (show decode cX2_tryShared 7 = .ok (.ifCond .le 19, 3) by decide +kernel) (by decide) rfl
theorem s_12_10 : a_Snd 12 10 (o_ldi 4 12) := s_ldi (show decode cX2_tryShared 10 = .ok (.iload 4, 2) by decide +kernel) rfl
theorem s_12_12 : a_Snd 12 12 (o_lda 0 13) := s_ldan (show decode cX2_tryShared 12 = .ok (.aload_n 0, 1) by decide +kernel) rfl rfl
theorem s_12_13 : a_Snd 12 13 (o_lda 0 14) := s_ldan (show decode cX2_tryShared 13 = .ok (.aload_n 0, 1) by decide +kernel) rfl rfl
theorem s_12_14 : a_Snd 12 14 (o_get 2 5 17) := s_get (T := TX2) (N := 10) rfl fin2 (by decide) wd_175 (show decode cX2_tryShared 14 = .ok (.getfield 27, 3) by decide +kernel) rfl
theorem s_12_17 : a_Snd 12 17 (o_pi (nI 0) 18) := s_pic (show decode cX2_tryShared 17 = .ok (.iconst 0, 1) by decide +kernel) (by decide) rfl
theorem s_12_18 : a_Snd 12 18 (o_ial 19) := s_ial (show decode cX2_tryShared 18 = .ok (.iaload, 1) by decide +kernel) rfl
theorem s_12_19 : a_Snd 12 19 (o_ldi 1 20) := s_ldin (show decode cX2_tryShared 19 = .ok (.iload_n 1, 1) by decide +kernel) rfl rfl
theorem s_12_20 : a_Snd 12 20 (o_ivv 2 6 2 23) := s_ivv (ci := 2) rfl mk_6 wd_617 wp_20 wd_615 (And.intro (by decide +kernel) (by decide +kernel)) (show decode cX2_tryShared 20 = .ok (.invokevirtual 102, 3) by decide +kernel) rfl
theorem s_12_23 : a_Snd 12 23 (o_bi f_add 24) := s_iadd (show decode cX2_tryShared 23 = .ok (.iadd, 1) by decide +kernel) rfl
theorem s_12_24 : a_Snd 12 24 (o_sti 4 26) := s_sti (show decode cX2_tryShared 24 = .ok (.istore 4, 2) by decide +kernel) rfl (by decide)
theorem s_12_26 : a_Snd 12 26 (o_lda 0 27) := s_ldan (show decode cX2_tryShared 26 = .ok (.aload_n 0, 1) by decide +kernel) rfl rfl
theorem s_12_27 : a_Snd 12 27 (o_get 2 6 30) := s_get (T := TX2) (N := 10) rfl fin2 (by decide) wd_176 (show decode cX2_tryShared 27 = .ok (.getfield 39, 3) by decide +kernel) rfl
theorem s_12_30 : a_Snd 12 30 (o_pi (nI 1) 31) := s_pic (show decode cX2_tryShared 30 = .ok (.iconst 1, 1) by decide +kernel) (by decide) rfl
theorem s_12_31 : a_Snd 12 31 (o_cle 50 34) := s_cle (show decode cX2_tryShared 31 = .ok (.if_icmp .le 19, 3) by decide +kernel) (by decide) rfl
theorem s_12_34 : a_Snd 12 34 (o_ldi 4 36) := s_ldi (show decode cX2_tryShared 34 = .ok (.iload 4, 2) by decide +kernel) rfl
theorem s_12_36 : a_Snd 12 36 (o_lda 0 37) := s_ldan (show decode cX2_tryShared 36 = .ok (.aload_n 0, 1) by decide +kernel) rfl rfl
theorem s_12_37 : a_Snd 12 37 (o_lda 0 38) := s_ldan (show decode cX2_tryShared 37 = .ok (.aload_n 0, 1) by decide +kernel) rfl rfl
theorem s_12_38 : a_Snd 12 38 (o_get 2 5 41) := s_get (T := TX2) (N := 10) rfl fin2 (by decide) wd_175 (show decode cX2_tryShared 38 = .ok (.getfield 27, 3) by decide +kernel) rfl
theorem s_12_41 : a_Snd 12 41 (o_pi (nI 1) 42) := s_pic (show decode cX2_tryShared 41 = .ok (.iconst 1, 1) by decide +kernel) (by decide) rfl
theorem s_12_42 : a_Snd 12 42 (o_ial 43) := s_ial (show decode cX2_tryShared 42 = .ok (.iaload, 1) by decide +kernel) rfl
theorem s_12_43 : a_Snd 12 43 (o_ldi 2 44) := s_ldin (show decode cX2_tryShared 43 = .ok (.iload_n 2, 1) by decide +kernel) rfl rfl
theorem s_12_44 : a_Snd 12 44 (o_ivv 2 6 2 47) := s_ivv (ci := 2) rfl mk_6 wd_617 wp_20 wd_615 (And.intro (by decide +kernel) (by decide +kernel)) (show decode cX2_tryShared 44 = .ok (.invokevirtual 102, 3) by decide +kernel) rfl
theorem s_12_47 : a_Snd 12 47 (o_bi f_add 48) := s_iadd (show decode cX2_tryShared 47 = .ok (.iadd, 1) by decide +kernel) rfl
theorem s_12_48 : a_Snd 12 48 (o_sti 4 50) := s_sti (show decode cX2_tryShared 48 = .ok (.istore 4, 2) by decide +kernel) rfl (by decide)
theorem s_12_50 : a_Snd 12 50 (o_ldi 1 51) := s_ldin (show decode cX2_tryShared 50 = .ok (.iload_n 1, 1) by decide +kernel) rfl rfl
theorem s_12_51 : a_Snd 12 51 (o_ldi 2 52) := s_ldin (show decode cX2_tryShared 51 = .ok (.iload_n 2, 1) by decide +kernel) rfl rfl
theorem s_12_52 : a_Snd 12 52 (o_bi f_add 53) := s_iadd (show decode cX2_tryShared 52 = .ok (.iadd, 1) by decide +kernel) rfl
theorem s_12_53 : a_Snd 12 53 (o_lda 0 54) := s_ldan (show decode cX2_tryShared 53 = .ok (.aload_n 0, 1) by decide +kernel) rfl rfl
theorem s_12_54 : a_Snd 12 54 (o_pi (nI 0) 55) := s_pic (show decode cX2_tryShared 54 = .ok (.iconst 0, 1) by decide +kernel) (by decide) rfl
theorem s_12_55 : a_Snd 12 55 (o_pi (nI 0) 56) := s_pic (show decode cX2_tryShared 55 = .ok (.iconst 0, 1) by decide +kernel) (by decide) rfl
theorem s_12_56 : a_Snd 12 56 (o_lda 0 57) := s_ldan (show decode cX2_tryShared 56 = .ok (.aload_n 0, 1) by decide +kernel) rfl rfl
theorem s_12_57 : a_Snd 12 57 (o_get 2 2 60) := s_get (T := TX2) (N := 10) rfl fin2 (by decide) wd_172 (show decode cX2_tryShared 57 = .ok (.getfield 18, 3) by decide +kernel) rfl
theorem s_12_60 : a_Snd 12 60 (o_pi (nI 0) 61) := s_pic (show decode cX2_tryShared 60 = .ok (.iconst 0, 1) by decide +kernel) (by decide) rfl
theorem s_12_61 : a_Snd 12 61 (o_ial 62) := s_ial (show decode cX2_tryShared 61 = .ok (.iaload, 1) by decide +kernel) rfl
theorem s_12_62 : a_Snd 12 62 (o_ldi 4 64) := s_ldi (show decode cX2_tryShared 62 = .ok (.iload 4, 2) by decide +kernel) rfl
theorem s_12_64 : a_Snd 12 64 (o_bi f_sub 65) := s_isub (show decode cX2_tryShared 64 = .ok (.isub, 1) by decide +kernel) rfl
theorem s_12_65 : a_Snd 12 65 (o_ivv 2 10 3 68) := s_ivv (ci := 2) rfl mk_10 wd_625 wp_22 wd_623 (And.intro (by decide +kernel) (by decide +kernel)) (show decode cX2_tryShared 65 = .ok (.invokevirtual 109, 3) by decide +kernel) rfl
theorem s_12_68 : a_Snd 12 68 (o_bi f_add 69) := s_iadd (show decode cX2_tryShared 68 = .ok (.iadd, 1) by decide +kernel) rfl
theorem s_12_69 : a_Snd 12 69 (o_lda 0 70) := s_ldan (show decode cX2_tryShared 69 = .ok (.aload_n 0, 1) by decide +kernel) rfl rfl
theorem s_12_70 : a_Snd 12 70 (o_pi (nI 1) 71) := s_pic (show decode cX2_tryShared 70 = .ok (.iconst 1, 1) by decide +kernel) (by decide) rfl
theorem s_12_71 : a_Snd 12 71 (o_pi (nI 0) 72) := s_pic (show decode cX2_tryShared 71 = .ok (.iconst 0, 1) by decide +kernel) (by decide) rfl
theorem s_12_72 : a_Snd 12 72 (o_lda 0 73) := s_ldan (show decode cX2_tryShared 72 = .ok (.aload_n 0, 1) by decide +kernel) rfl rfl
theorem s_12_73 : a_Snd 12 73 (o_get 2 2 76) := s_get (T := TX2) (N := 10) rfl fin2 (by decide) wd_172 (show decode cX2_tryShared 73 = .ok (.getfield 18, 3) by decide +kernel) rfl
theorem s_12_76 : a_Snd 12 76 (o_pi (nI 1) 77) := s_pic (show decode cX2_tryShared 76 = .ok (.iconst 1, 1) by decide +kernel) (by decide) rfl
theorem s_12_77 : a_Snd 12 77 (o_ial 78) := s_ial (show decode cX2_tryShared 77 = .ok (.iaload, 1) by decide +kernel) rfl
theorem s_12_78 : a_Snd 12 78 (o_ldi 4 80) := s_ldi (show decode cX2_tryShared 78 = .ok (.iload 4, 2) by decide +kernel) rfl
theorem s_12_80 : a_Snd 12 80 (o_bi f_sub 81) := s_isub (show decode cX2_tryShared 80 = .ok (.isub, 1) by decide +kernel) rfl
theorem s_12_81 : a_Snd 12 81 (o_ivv 2 10 3 84) := s_ivv (ci := 2) rfl mk_10 wd_625 wp_22 wd_623 (And.intro (by decide +kernel) (by decide +kernel)) (show decode cX2_tryShared 81 = .ok (.invokevirtual 109, 3) by decide +kernel) rfl
theorem s_12_84 : a_Snd 12 84 (o_bi f_add 85) := s_iadd (show decode cX2_tryShared 84 = .ok (.iadd, 1) by decide +kernel) rfl
theorem s_12_85 : a_Snd 12 85 (o_sti 5 87) := s_sti (show decode cX2_tryShared 85 = .ok (.istore 5, 2) by decide +kernel) rfl (by decide)
theorem s_12_87 : a_Snd 12 87 (o_ldi 5 89) := s_ldi (show decode cX2_tryShared 87 = .ok (.iload 5, 2) by decide +kernel) rfl
theorem s_12_89 : a_Snd 12 89 (o_pi (nI 1000) 92) := s_pis (show decode cX2_tryShared 89 = .ok (.sipush 1000, 3) by decide +kernel) (by decide) rfl
theorem s_12_92 : a_Snd 12 92 (o_cge 101 95) := s_cge (show decode cX2_tryShared 92 = .ok (.if_icmp .ge 9, 3) by decide +kernel) (by decide) rfl
theorem s_12_95 : a_Snd 12 95 (o_ldi 5 97) := s_ldi (show decode cX2_tryShared 95 = .ok (.iload 5, 2) by decide +kernel) rfl
theorem s_12_97 : a_Snd 12 97 (o_ldi 3 98) := s_ldin (show decode cX2_tryShared 97 = .ok (.iload_n 3, 1) by decide +kernel) rfl rfl
theorem s_12_98 : a_Snd 12 98 (o_cle 103 101) := s_cle (show decode cX2_tryShared 98 = .ok (.if_icmp .le 5, 3) by decide +kernel) (by decide) rfl
theorem s_12_101 : a_Snd 12 101 (o_ldi 3 102) := s_ldin (show decode cX2_tryShared 101 = .ok (.iload_n 3, 1) by decide +kernel) rfl rfl
theorem s_12_102 : a_Snd 12 102 (o_ri) := s_ri (show decode cX2_tryShared 102 = .ok (.ireturn, 1) by decide +kernel) rfl
theorem s_12_103 : a_Snd 12 103 (o_lda 0 104) := s_ldan (show decode cX2_tryShared 103 = .ok (.aload_n 0, 1) by decide +kernel) rfl rfl
theorem s_12_104 : a_Snd 12 104 (o_ldi 1 105) := s_ldin (show decode cX2_tryShared 104 = .ok (.iload_n 1, 1) by decide +kernel) rfl rfl
theorem s_12_105 : a_Snd 12 105 (o_ldi 2 106) := s_ldin (show decode cX2_tryShared 105 = .ok (.iload_n 2, 1) by decide +kernel) rfl rfl
theorem s_12_106 : a_Snd 12 106 (o_ldi 4 108) := s_ldi (show decode cX2_tryShared 106 = .ok (.iload 4, 2) by decide +kernel) rfl
theorem s_12_108 : a_Snd 12 108 (o_ivv 2 13 3 111) := s_ivv (ci := 2) rfl mk_13 wd_641 wp_25 wd_639 (And.intro (by decide +kernel) (by decide +kernel)) (show decode cX2_tryShared 108 = .ok (.invokevirtual 124, 3) by decide +kernel) rfl
theorem s_12_111 : a_Snd 12 111 (o_ldi 5 113) := s_ldi (show decode cX2_tryShared 111 = .ok (.iload 5, 2) by decide +kernel) rfl
theorem s_12_113 : a_Snd 12 113 (o_ldi 3 114) := s_ldin (show decode cX2_tryShared 113 = .ok (.iload_n 3, 1) by decide +kernel) rfl rfl
theorem s_12_114 : a_Snd 12 114 (o_cne 126 117) := s_cne (show decode cX2_tryShared 114 = .ok (.if_icmp .ne 12, 3) by decide +kernel) (by decide) rfl
theorem s_12_117 : a_Snd 12 117 (o_lda 0 118) := s_ldan (show decode cX2_tryShared 117 = .ok (.aload_n 0, 1) by decide +kernel) rfl rfl
theorem s_12_118 : a_Snd 12 118 (o_ivv 2 15 0 121) := s_ivv (ci := 2) rfl mk_15 wd_650 wp_27 wd_648 (And.intro (by decide +kernel) (by decide +kernel)) (show decode cX2_tryShared 118 = .ok (.invokevirtual 128, 3) by decide +kernel) rfl
theorem s_12_121 : a_Snd 12 121 (o_ne 126 124) := s_ine (show decode cX2_tryShared 121 = .ok (.ifCond .ne 5, 3) by decide +kernel) (by decide) rfl
theorem s_12_124 : a_Snd 12 124 (o_ldi 3 125) := s_ldin (show decode cX2_tryShared 124 = .ok (.iload_n 3, 1) by decide +kernel) rfl rfl
theorem s_12_125 : a_Snd 12 125 (o_ri) := s_ri (show decode cX2_tryShared 125 = .ok (.ireturn, 1) by decide +kernel) rfl
theorem s_12_126 : a_Snd 12 126 (o_lda 0 127) := s_ldan (show decode cX2_tryShared 126 = .ok (.aload_n 0, 1) by decide +kernel) rfl rfl
theorem s_12_127 : a_Snd 12 127 (o_get 2 1 130) := s_get (T := TX2) (N := 10) rfl fin2 (by decide) wd_171 (show decode cX2_tryShared 127 = .ok (.getfield 15, 3) by decide +kernel) rfl
theorem s_12_130 : a_Snd 12 130 (o_pi (nI 0) 131) := s_pic (show decode cX2_tryShared 130 = .ok (.iconst 0, 1) by decide +kernel) (by decide) rfl
theorem s_12_131 : a_Snd 12 131 (o_lda 0 132) := s_ldan (show decode cX2_tryShared 131 = .ok (.aload_n 0, 1) by decide +kernel) rfl rfl
theorem s_12_132 : a_Snd 12 132 (o_get 2 0 135) := s_get (T := TX2) (N := 10) rfl fin2 (by decide) wd_169 (show decode cX2_tryShared 132 = .ok (.getfield 9, 3) by decide +kernel) rfl
theorem s_12_135 : a_Snd 12 135 (o_pi (nI 0) 136) := s_pic (show decode cX2_tryShared 135 = .ok (.iconst 0, 1) by decide +kernel) (by decide) rfl
theorem s_12_136 : a_Snd 12 136 (o_pi (nI 16) 138) := s_pib (show decode cX2_tryShared 136 = .ok (.bipush 16, 2) by decide +kernel) (by decide) rfl
theorem s_12_138 : a_Snd 12 138 (o_cpy 141) := s_cpy wd_652 wd_341 wd_340 wd_11 (by decide) (show decode cX2_tryShared 138 = .ok (.invokestatic 132, 3) by decide +kernel) rfl
theorem s_12_141 : a_Snd 12 141 (o_ldi 5 143) := s_ldi (show decode cX2_tryShared 141 = .ok (.iload 5, 2) by decide +kernel) rfl
theorem s_12_143 : a_Snd 12 143 (o_ri) := s_ri (show decode cX2_tryShared 143 = .ok (.ireturn, 1) by decide +kernel) rfl
theorem ts_12 : a_All 12 tb_12 := And.intro s_12_0 (And.intro s_12_1 (And.intro s_12_3 (And.intro s_12_4 (And.intro s_12_7 (And.intro s_12_10 (And.intro s_12_12 (And.intro s_12_13 (And.intro s_12_14 (And.intro s_12_17 (And.intro s_12_18 (And.intro s_12_19 (And.intro s_12_20 (And.intro s_12_23 (And.intro s_12_24 (And.intro s_12_26 (And.intro s_12_27 (And.intro s_12_30 (And.intro s_12_31 (And.intro s_12_34 (And.intro s_12_36 (And.intro s_12_37 (And.intro s_12_38 (And.intro s_12_41 (And.intro s_12_42 (And.intro s_12_43 (And.intro s_12_44 (And.intro s_12_47 (And.intro s_12_48 (And.intro s_12_50 (And.intro s_12_51 (And.intro s_12_52 (And.intro s_12_53 (And.intro s_12_54 (And.intro s_12_55 (And.intro s_12_56 (And.intro s_12_57 (And.intro s_12_60 (And.intro s_12_61 (And.intro s_12_62 (And.intro s_12_64 (And.intro s_12_65 (And.intro s_12_68 (And.intro s_12_69 (And.intro s_12_70 (And.intro s_12_71 (And.intro s_12_72 (And.intro s_12_73 (And.intro s_12_76 (And.intro s_12_77 (And.intro s_12_78 (And.intro s_12_80 (And.intro s_12_81 (And.intro s_12_84 (And.intro s_12_85 (And.intro s_12_87 (And.intro s_12_89 (And.intro s_12_92 (And.intro s_12_95 (And.intro s_12_97 (And.intro s_12_98 (And.intro s_12_101 (And.intro s_12_102 (And.intro s_12_103 (And.intro s_12_104 (And.intro s_12_105 (And.intro s_12_106 (And.intro s_12_108 (And.intro s_12_111 (And.intro s_12_113 (And.intro s_12_114 (And.intro s_12_117 (And.intro s_12_118 (And.intro s_12_121 (And.intro s_12_124 (And.intro s_12_125 (And.intro s_12_126 (And.intro s_12_127 (And.intro s_12_130 (And.intro s_12_131 (And.intro s_12_132 (And.intro s_12_135 (And.intro s_12_136 (And.intro s_12_138 (And.intro s_12_141 (And.intro s_12_143 (trivial))))))))))))))))))))))))))))))))))))))))))))))))))))))))))))))))))))))))))))))))))))))
/-! 13: NetLaw$Mending.fillRow(III)V -/
def tb_13 : List (Nat × a_OP) := [(0, o_lda 0 1), (1, o_get 2 1 4), (4, o_pi (nI 0) 5), (5, o_ivs 209 2 8), (8, o_lda 0 9), (9, o_get 2 6 12), (12, o_le 27 15), (15, o_lda 0 16), (16, o_get 2 1 19), (19, o_lda 0 20), (20, o_get 2 5 23), (23, o_pi (nI 0) 24), (24, o_ial 25), (25, o_ldi 1 26), (26, o_ias 27), (27, o_lda 0 28), (28, o_get 2 6 31), (31, o_pi (nI 1) 32), (32, o_cle 47 35), (35, o_lda 0 36), (36, o_get 2 1 39), (39, o_lda 0 40), (40, o_get 2 5 43), (43, o_pi (nI 1) 44), (44, o_ial 45), (45, o_ldi 2 46), (46, o_ias 47), (47, o_lda 0 48), (48, o_pi (nI 0) 49), (49, o_lda 0 50), (50, o_get 2 2 53), (53, o_pi (nI 0) 54), (54, o_ial 55), (55, o_ldi 3 56), (56, o_bi f_sub 57), (57, o_ivv 2 14 2 60), (60, o_lda 0 61), (61, o_pi (nI 1) 62), (62, o_lda 0 63), (63, o_get 2 2 66), (66, o_pi (nI 1) 67), (67, o_ial 68), (68, o_ldi 3 69), (69, o_bi f_sub 70), (70, o_ivv 2 14 2 73), (73, o_rv)]
theorem s_13_0 : a_Snd 13 0 (o_lda 0 1) := s_ldan (show decode cX2_fillRow 0 = .ok (.aload_n 0, 1) by decide +kernel) rfl rfl
theorem s_13_1 : a_Snd 13 1 (o_get 2 1 4) := s_get (T := TX2) (N := 10) rfl fin2 (by decide) wd_171 (show decode cX2_fillRow 1 = .ok (.getfield 15, 3) by decide +kernel) rfl
theorem s_13_4 : a_Snd 13 4 (o_pi (nI 0) 5) := s_pic (show decode cX2_fillRow 4 = .ok (.iconst 0, 1) by decide +kernel) (by decide) rfl
theorem s_13_5 : a_Snd 13 5 (o_ivs 209 2 8) := s_ivs mk_209 wd_33 wd_643 (And.intro (by decide +kernel) (by decide +kernel)) (show decode cX2_fillRow 5 = .ok (.invokestatic 138, 3) by decide +kernel) rfl
theorem s_13_8 : a_Snd 13 8 (o_lda 0 9) := s_ldan (show decode cX2_fillRow 8 = .ok (.aload_n 0, 1) by decide +kernel) rfl rfl
theorem s_13_9 : a_Snd 13 9 (o_get 2 6 12) := s_get (T := TX2) (N := 10) rfl fin2 (by decide) wd_176 (show decode cX2_fillRow 9 = .ok (.getfield 39, 3) by decide +kernel) rfl
theorem s_13_12 : a_Snd 13 12 (o_le 27 15) := s_ile (show decode cX2_fillRow 12 = .ok (.ifCond .le 15, 3) by decide +kernel) (by decide) rfl
theorem s_13_15 : a_Snd 13 15 (o_lda 0 16) := s_ldan (show decode cX2_fillRow 15 = .ok (.aload_n 0, 1) by decide +kernel) rfl rfl
theorem s_13_16 : a_Snd 13 16 (o_get 2 1 19) := s_get (T := TX2) (N := 10) rfl fin2 (by decide) wd_171 (show decode cX2_fillRow 16 = .ok (.getfield 15, 3) by decide +kernel) rfl
theorem s_13_19 : a_Snd 13 19 (o_lda 0 20) := s_ldan (show decode cX2_fillRow 19 = .ok (.aload_n 0, 1) by decide +kernel) rfl rfl
theorem s_13_20 : a_Snd 13 20 (o_get 2 5 23) := s_get (T := TX2) (N := 10) rfl fin2 (by decide) wd_175 (show decode cX2_fillRow 20 = .ok (.getfield 27, 3) by decide +kernel) rfl
theorem s_13_23 : a_Snd 13 23 (o_pi (nI 0) 24) := s_pic (show decode cX2_fillRow 23 = .ok (.iconst 0, 1) by decide +kernel) (by decide) rfl
theorem s_13_24 : a_Snd 13 24 (o_ial 25) := s_ial (show decode cX2_fillRow 24 = .ok (.iaload, 1) by decide +kernel) rfl
theorem s_13_25 : a_Snd 13 25 (o_ldi 1 26) := s_ldin (show decode cX2_fillRow 25 = .ok (.iload_n 1, 1) by decide +kernel) rfl rfl
theorem s_13_26 : a_Snd 13 26 (o_ias 27) := s_ias (show decode cX2_fillRow 26 = .ok (.iastore, 1) by decide +kernel) rfl
theorem s_13_27 : a_Snd 13 27 (o_lda 0 28) := s_ldan (show decode cX2_fillRow 27 = .ok (.aload_n 0, 1) by decide +kernel) rfl rfl
theorem s_13_28 : a_Snd 13 28 (o_get 2 6 31) := s_get (T := TX2) (N := 10) rfl fin2 (by decide) wd_176 (show decode cX2_fillRow 28 = .ok (.getfield 39, 3) by decide +kernel) rfl
theorem s_13_31 : a_Snd 13 31 (o_pi (nI 1) 32) := s_pic (show decode cX2_fillRow 31 = .ok (.iconst 1, 1) by decide +kernel) (by decide) rfl
theorem s_13_32 : a_Snd 13 32 (o_cle 47 35) := s_cle (show decode cX2_fillRow 32 = .ok (.if_icmp .le 15, 3) by decide +kernel) (by decide) rfl
theorem s_13_35 : a_Snd 13 35 (o_lda 0 36) := s_ldan (show decode cX2_fillRow 35 = .ok (.aload_n 0, 1) by decide +kernel) rfl rfl
theorem s_13_36 : a_Snd 13 36 (o_get 2 1 39) := s_get (T := TX2) (N := 10) rfl fin2 (by decide) wd_171 (show decode cX2_fillRow 36 = .ok (.getfield 15, 3) by decide +kernel) rfl
theorem s_13_39 : a_Snd 13 39 (o_lda 0 40) := s_ldan (show decode cX2_fillRow 39 = .ok (.aload_n 0, 1) by decide +kernel) rfl rfl
theorem s_13_40 : a_Snd 13 40 (o_get 2 5 43) := s_get (T := TX2) (N := 10) rfl fin2 (by decide) wd_175 (show decode cX2_fillRow 40 = .ok (.getfield 27, 3) by decide +kernel) rfl
theorem s_13_43 : a_Snd 13 43 (o_pi (nI 1) 44) := s_pic (show decode cX2_fillRow 43 = .ok (.iconst 1, 1) by decide +kernel) (by decide) rfl
theorem s_13_44 : a_Snd 13 44 (o_ial 45) := s_ial (show decode cX2_fillRow 44 = .ok (.iaload, 1) by decide +kernel) rfl
theorem s_13_45 : a_Snd 13 45 (o_ldi 2 46) := s_ldin (show decode cX2_fillRow 45 = .ok (.iload_n 2, 1) by decide +kernel) rfl rfl
theorem s_13_46 : a_Snd 13 46 (o_ias 47) := s_ias (show decode cX2_fillRow 46 = .ok (.iastore, 1) by decide +kernel) rfl
theorem s_13_47 : a_Snd 13 47 (o_lda 0 48) := s_ldan (show decode cX2_fillRow 47 = .ok (.aload_n 0, 1) by decide +kernel) rfl rfl
theorem s_13_48 : a_Snd 13 48 (o_pi (nI 0) 49) := s_pic (show decode cX2_fillRow 48 = .ok (.iconst 0, 1) by decide +kernel) (by decide) rfl
theorem s_13_49 : a_Snd 13 49 (o_lda 0 50) := s_ldan (show decode cX2_fillRow 49 = .ok (.aload_n 0, 1) by decide +kernel) rfl rfl
theorem s_13_50 : a_Snd 13 50 (o_get 2 2 53) := s_get (T := TX2) (N := 10) rfl fin2 (by decide) wd_172 (show decode cX2_fillRow 50 = .ok (.getfield 18, 3) by decide +kernel) rfl
theorem s_13_53 : a_Snd 13 53 (o_pi (nI 0) 54) := s_pic (show decode cX2_fillRow 53 = .ok (.iconst 0, 1) by decide +kernel) (by decide) rfl
theorem s_13_54 : a_Snd 13 54 (o_ial 55) := s_ial (show decode cX2_fillRow 54 = .ok (.iaload, 1) by decide +kernel) rfl
theorem s_13_55 : a_Snd 13 55 (o_ldi 3 56) := s_ldin (show decode cX2_fillRow 55 = .ok (.iload_n 3, 1) by decide +kernel) rfl rfl
theorem s_13_56 : a_Snd 13 56 (o_bi f_sub 57) := s_isub (show decode cX2_fillRow 56 = .ok (.isub, 1) by decide +kernel) rfl
theorem s_13_57 : a_Snd 13 57 (o_ivv 2 14 2 60) := s_ivv (ci := 2) rfl mk_14 wd_646 wp_26 wd_644 (And.intro (by decide +kernel) (by decide +kernel)) (show decode cX2_fillRow 57 = .ok (.invokevirtual 144, 3) by decide +kernel) rfl
theorem s_13_60 : a_Snd 13 60 (o_lda 0 61) := s_ldan (show decode cX2_fillRow 60 = .ok (.aload_n 0, 1) by decide +kernel) rfl rfl
theorem s_13_61 : a_Snd 13 61 (o_pi (nI 1) 62) := s_pic (show decode cX2_fillRow 61 = .ok (.iconst 1, 1) by decide +kernel) (by decide) rfl
theorem s_13_62 : a_Snd 13 62 (o_lda 0 63) := s_ldan (show decode cX2_fillRow 62 = .ok (.aload_n 0, 1) by decide +kernel) rfl rfl
theorem s_13_63 : a_Snd 13 63 (o_get 2 2 66) := s_get (T := TX2) (N := 10) rfl fin2 (by decide) wd_172 (show decode cX2_fillRow 63 = .ok (.getfield 18, 3) by decide +kernel) rfl
theorem s_13_66 : a_Snd 13 66 (o_pi (nI 1) 67) := s_pic (show decode cX2_fillRow 66 = .ok (.iconst 1, 1) by decide +kernel) (by decide) rfl
theorem s_13_67 : a_Snd 13 67 (o_ial 68) := s_ial (show decode cX2_fillRow 67 = .ok (.iaload, 1) by decide +kernel) rfl
theorem s_13_68 : a_Snd 13 68 (o_ldi 3 69) := s_ldin (show decode cX2_fillRow 68 = .ok (.iload_n 3, 1) by decide +kernel) rfl rfl
theorem s_13_69 : a_Snd 13 69 (o_bi f_sub 70) := s_isub (show decode cX2_fillRow 69 = .ok (.isub, 1) by decide +kernel) rfl
theorem s_13_70 : a_Snd 13 70 (o_ivv 2 14 2 73) := s_ivv (ci := 2) rfl mk_14 wd_646 wp_26 wd_644 (And.intro (by decide +kernel) (by decide +kernel)) (show decode cX2_fillRow 70 = .ok (.invokevirtual 144, 3) by decide +kernel) rfl
theorem s_13_73 : a_Snd 13 73 (o_rv) := s_rv (show decode cX2_fillRow 73 = .ok (.return_, 1) by decide +kernel) rfl
theorem ts_13 : a_All 13 tb_13 := And.intro s_13_0 (And.intro s_13_1 (And.intro s_13_4 (And.intro s_13_5 (And.intro s_13_8 (And.intro s_13_9 (And.intro s_13_12 (And.intro s_13_15 (And.intro s_13_16 (And.intro s_13_19 (And.intro s_13_20 (And.intro s_13_23 (And.intro s_13_24 (And.intro s_13_25 (And.intro s_13_26 (And.intro s_13_27 (And.intro s_13_28 (And.intro s_13_31 (And.intro s_13_32 (And.intro s_13_35 (And.intro s_13_36 (And.intro s_13_39 (And.intro s_13_40 (And.intro s_13_43 (And.intro s_13_44 (And.intro s_13_45 (And.intro s_13_46 (And.intro s_13_47 (And.intro s_13_48 (And.intro s_13_49 (And.intro s_13_50 (And.intro s_13_53 (And.intro s_13_54 (And.intro s_13_55 (And.intro s_13_56 (And.intro s_13_57 (And.intro s_13_60 (And.intro s_13_61 (And.intro s_13_62 (And.intro s_13_63 (And.intro s_13_66 (And.intro s_13_67 (And.intro s_13_68 (And.intro s_13_69 (And.intro s_13_70 (And.intro s_13_73 (trivial))))))))))))))))))))))))))))))))))))))))))))))
/-! 14: NetLaw$Mending.fillOwn(II)V -/
def tb_14 : List (Nat × a_OP) := [(0, o_ldi 2 1), (1, o_sti 3 2), (2, o_pi (nI 0) 3), (3, o_sti 4 5), (5, o_ldi 4 7), (7, o_lda 0 8), (8, o_get 2 4 11), (11, o_ldi 1 12), (12, o_ial 13), (13, o_cge 113 16), (16, o_lda 0 17), (17, o_get 2 3 20), (20, o_ldi 1 21), (21, o_pi (nI 4) 22), (22, o_bi f_mul 23), (23, o_ldi 4 25), (25, o_bi f_add 26), (26, o_ial 27), (27, o_sti 5 29), (29, o_lda 0 30), (30, o_ldi 1 31), (31, o_ldi 4 33), (33, o_ldi 3 34), (34, o_ivv 2 10 3 37), (37, o_sti 6 39), (39, o_pi (nI 0) 40), (40, o_sti 7 42), (42, o_ldi 7 44), (44, o_lda 0 45), (45, o_get 2 7 48), (48, o_ldi 5 50), (50, o_ial 51), (51, o_cge 87 54), (54, o_ldi 7 56), (56, o_lda 0 57), (57, o_ldi 1 58), (58, o_ldi 4 60), (60, o_pi (nI 1) 61), (61, o_bi f_add 62), (62, o_ldi 3 63), (63, o_lda 0 64), (64, o_ldi 5 66), (66, o_ldi 7 68), (68, o_ivv 2 6 2 71), (71, o_bi f_sub 72), (72, o_ivv 2 10 3 75), (75, o_bi f_add 76), (76, o_ldi 6 78), (78, o_cle 87 81), (81, o_inc 7 (nI 1) 84), (84, o_go 42), (87, o_lda 0 88), (88, o_get 2 1 91), (91, o_ldi 5 93), (93, o_ldi 7 95), (95, o_ias 96), (96, o_ldi 3 97), (97, o_lda 0 98), (98, o_ldi 5 100), (100, o_ldi 7 102), (102, o_ivv 2 6 2 105), (105, o_bi f_sub 106), (106, o_sti 3 107), (107, o_inc 4 (nI 1) 110), (110, o_go 5), (113, o_rv)]
theorem s_14_0 : a_Snd 14 0 (o_ldi 2 1) := s_ldin (show decode cX2_fillOwn 0 = .ok (.iload_n 2, 1) by decide +kernel) rfl rfl
theorem s_14_1 : a_Snd 14 1 (o_sti 3 2) := s_stin (show decode cX2_fillOwn 1 = .ok (.istore_n 3, 1) by decide +kernel) rfl rfl (by decide)
theorem s_14_2 : a_Snd 14 2 (o_pi (nI 0) 3) := s_pic (show decode cX2_fillOwn 2 = .ok (.iconst 0, 1) by decide +kernel) (by decide) rfl
theorem s_14_3 : a_Snd 14 3 (o_sti 4 5) := s_sti (show decode cX2_fillOwn 3 = .ok (.istore 4, 2) by decide +kernel) rfl (by decide)
theorem s_14_5 : a_Snd 14 5 (o_ldi 4 7) := s_ldi (show decode cX2_fillOwn 5 = .ok (.iload 4, 2) by decide +kernel) rfl
theorem s_14_7 : a_Snd 14 7 (o_lda 0 8) := s_ldan (show decode cX2_fillOwn 7 = .ok (.aload_n 0, 1) by decide +kernel) rfl rfl
theorem s_14_8 : a_Snd 14 8 (o_get 2 4 11) := s_get (T := TX2) (N := 10) rfl fin2 (by decide) wd_174 (show decode cX2_fillOwn 8 = .ok (.getfield 24, 3) by decide +kernel) rfl
theorem s_14_11 : a_Snd 14 11 (o_ldi 1 12) := s_ldin (show decode cX2_fillOwn 11 = .ok (.iload_n 1, 1) by decide +kernel) rfl rfl
theorem s_14_12 : a_Snd 14 12 (o_ial 13) := s_ial (show decode cX2_fillOwn 12 = .ok (.iaload, 1) by decide +kernel) rfl
theorem s_14_13 : a_Snd 14 13 (o_cge 113 16) := s_cge (show decode cX2_fillOwn 13 = .ok (.if_icmp .ge 100, 3) by decide +kernel) (by decide) rfl
theorem s_14_16 : a_Snd 14 16 (o_lda 0 17) := s_ldan (show decode cX2_fillOwn 16 = .ok (.aload_n 0, 1) by decide +kernel) rfl rfl
theorem s_14_17 : a_Snd 14 17 (o_get 2 3 20) := s_get (T := TX2) (N := 10) rfl fin2 (by decide) wd_173 (show decode cX2_fillOwn 17 = .ok (.getfield 21, 3) by decide +kernel) rfl
theorem s_14_20 : a_Snd 14 20 (o_ldi 1 21) := s_ldin (show decode cX2_fillOwn 20 = .ok (.iload_n 1, 1) by decide +kernel) rfl rfl
theorem s_14_21 : a_Snd 14 21 (o_pi (nI 4) 22) := s_pic (show decode cX2_fillOwn 21 = .ok (.iconst 4, 1) by decide +kernel) (by decide) rfl
theorem s_14_22 : a_Snd 14 22 (o_bi f_mul 23) := s_imul (show decode cX2_fillOwn 22 = .ok (.imul, 1) by decide +kernel) rfl
theorem s_14_23 : a_Snd 14 23 (o_ldi 4 25) := s_ldi (show decode cX2_fillOwn 23 = .ok (.iload 4, 2) by decide +kernel) rfl
theorem s_14_25 : a_Snd 14 25 (o_bi f_add 26) := s_iadd (show decode cX2_fillOwn 25 = .ok (.iadd, 1) by decide +kernel) rfl
theorem s_14_26 : a_Snd 14 26 (o_ial 27) := s_ial (show decode cX2_fillOwn 26 = .ok (.iaload, 1) by decide +kernel) rfl
theorem s_14_27 : a_Snd 14 27 (o_sti 5 29) := s_sti (show decode cX2_fillOwn 27 = .ok (.istore 5, 2) by decide +kernel) rfl (by decide)
theorem s_14_29 : a_Snd 14 29 (o_lda 0 30) := s_ldan (show decode cX2_fillOwn 29 = .ok (.aload_n 0, 1) by decide +kernel) rfl rfl
theorem s_14_30 : a_Snd 14 30 (o_ldi 1 31) := s_ldin (show decode cX2_fillOwn 30 = .ok (.iload_n 1, 1) by decide +kernel) rfl rfl
theorem s_14_31 : a_Snd 14 31 (o_ldi 4 33) := s_ldi (show decode cX2_fillOwn 31 = .ok (.iload 4, 2) by decide +kernel) rfl
theorem s_14_33 : a_Snd 14 33 (o_ldi 3 34) := s_ldin (show decode cX2_fillOwn 33 = .ok (.iload_n 3, 1) by decide +kernel) rfl rfl
theorem s_14_34 : a_Snd 14 34 (o_ivv 2 10 3 37) := s_ivv (ci := 2) rfl mk_10 wd_625 wp_22 wd_623 (And.intro (by decide +kernel) (by decide +kernel)) (show decode cX2_fillOwn 34 = .ok (.invokevirtual 109, 3) by decide +kernel) rfl
theorem s_14_37 : a_Snd 14 37 (o_sti 6 39) := s_sti (show decode cX2_fillOwn 37 = .ok (.istore 6, 2) by decide +kernel) rfl (by decide)
theorem s_14_39 : a_Snd 14 39 (o_pi (nI 0) 40) := s_pic (show decode cX2_fillOwn 39 = .ok (.iconst 0, 1) by decide +kernel) (by decide) rfl
theorem s_14_40 : a_Snd 14 40 (o_sti 7 42) := s_sti (show decode cX2_fillOwn 40 = .ok (.istore 7, 2) by decide +kernel) rfl (by decide)
theorem s_14_42 : a_Snd 14 42 (o_ldi 7 44) := s_ldi (show decode cX2_fillOwn 42 = .ok (.iload 7, 2) by decide +kernel) rfl
theorem s_14_44 : a_Snd 14 44 (o_lda 0 45) := s_ldan (show decode cX2_fillOwn 44 = .ok (.aload_n 0, 1) by decide +kernel) rfl rfl
theorem s_14_45 : a_Snd 14 45 (o_get 2 7 48) := s_get (T := TX2) (N := 10) rfl fin2 (by decide) wd_177 (show decode cX2_fillOwn 45 = .ok (.getfield 30, 3) by decide +kernel) rfl
theorem s_14_48 : a_Snd 14 48 (o_ldi 5 50) := s_ldi (show decode cX2_fillOwn 48 = .ok (.iload 5, 2) by decide +kernel) rfl
theorem s_14_50 : a_Snd 14 50 (o_ial 51) := s_ial (show decode cX2_fillOwn 50 = .ok (.iaload, 1) by decide +kernel) rfl
theorem s_14_51 : a_Snd 14 51 (o_cge 87 54) := s_cge (show decode cX2_fillOwn 51 = .ok (.if_icmp .ge 36, 3) by decide +kernel) (by decide) rfl
theorem s_14_54 : a_Snd 14 54 (o_ldi 7 56) := s_ldi (show decode cX2_fillOwn 54 = .ok (.iload 7, 2) by decide +kernel) rfl
theorem s_14_56 : a_Snd 14 56 (o_lda 0 57) := s_ldan (show decode cX2_fillOwn 56 = .ok (.aload_n 0, 1) by decide +kernel) rfl rfl
theorem s_14_57 : a_Snd 14 57 (o_ldi 1 58) := s_ldin (show decode cX2_fillOwn 57 = .ok (.iload_n 1, 1) by decide +kernel) rfl rfl
theorem s_14_58 : a_Snd 14 58 (o_ldi 4 60) := s_ldi (show decode cX2_fillOwn 58 = .ok (.iload 4, 2) by decide +kernel) rfl
theorem s_14_60 : a_Snd 14 60 (o_pi (nI 1) 61) := s_pic (show decode cX2_fillOwn 60 = .ok (.iconst 1, 1) by decide +kernel) (by decide) rfl
theorem s_14_61 : a_Snd 14 61 (o_bi f_add 62) := s_iadd (show decode cX2_fillOwn 61 = .ok (.iadd, 1) by decide +kernel) rfl
theorem s_14_62 : a_Snd 14 62 (o_ldi 3 63) := s_ldin (show decode cX2_fillOwn 62 = .ok (.iload_n 3, 1) by decide +kernel) rfl rfl
theorem s_14_63 : a_Snd 14 63 (o_lda 0 64) := s_ldan (show decode cX2_fillOwn 63 = .ok (.aload_n 0, 1) by decide +kernel) rfl rfl
theorem s_14_64 : a_Snd 14 64 (o_ldi 5 66) := s_ldi (show decode cX2_fillOwn 64 = .ok (.iload 5, 2) by decide +kernel) rfl
theorem s_14_66 : a_Snd 14 66 (o_ldi 7 68) := s_ldi (show decode cX2_fillOwn 66 = .ok (.iload 7, 2) by decide +kernel) rfl
theorem s_14_68 : a_Snd 14 68 (o_ivv 2 6 2 71) := s_ivv (ci := 2) rfl mk_6 wd_617 wp_20 wd_615 (And.intro (by decide +kernel) (by decide +kernel)) (show decode cX2_fillOwn 68 = .ok (.invokevirtual 102, 3) by decide +kernel) rfl
theorem s_14_71 : a_Snd 14 71 (o_bi f_sub 72) := s_isub (show decode cX2_fillOwn 71 = .ok (.isub, 1) by decide +kernel) rfl
theorem s_14_72 : a_Snd 14 72 (o_ivv 2 10 3 75) := s_ivv (ci := 2) rfl mk_10 wd_625 wp_22 wd_623 (And.intro (by decide +kernel) (by decide +kernel)) (show decode cX2_fillOwn 72 = .ok (.invokevirtual 109, 3) by decide +kernel) rfl
theorem s_14_75 : a_Snd 14 75 (o_bi f_add 76) := s_iadd (show decode cX2_fillOwn 75 = .ok (.iadd, 1) by decide +kernel) rfl
theorem s_14_76 : a_Snd 14 76 (o_ldi 6 78) := s_ldi (show decode cX2_fillOwn 76 = .ok (.iload 6, 2) by decide +kernel) rfl
theorem s_14_78 : a_Snd 14 78 (o_cle 87 81) := s_cle (show decode cX2_fillOwn 78 = .ok (.if_icmp .le 9, 3) by decide +kernel) (by decide) rfl
theorem s_14_81 : a_Snd 14 81 (o_inc 7 (nI 1) 84) := s_inc (show decode cX2_fillOwn 81 = .ok (.iinc 7 1, 3) by decide +kernel) (by decide) rfl (by decide)
theorem s_14_84 : a_Snd 14 84 (o_go 42) := s_go (show decode cX2_fillOwn 84 = .ok (.goto (-42), 3) by decide +kernel) (by decide)
theorem s_14_87 : a_Snd 14 87 (o_lda 0 88) := s_ldan (show decode cX2_fillOwn 87 = .ok (.aload_n 0, 1) by decide +kernel) rfl rfl
theorem s_14_88 : a_Snd 14 88 (o_get 2 1 91) := s_get (T := TX2) (N := 10) rfl fin2 (by decide) wd_171 (show decode cX2_fillOwn 88 = .ok (.getfield 15, 3) by decide +kernel) rfl
theorem s_14_91 : a_Snd 14 91 (o_ldi 5 93) := s_ldi (show decode cX2_fillOwn 91 = .ok (.iload 5, 2) by decide +kernel) rfl
theorem s_14_93 : a_Snd 14 93 (o_ldi 7 95) := s_ldi (show decode cX2_fillOwn 93 = .ok (.iload 7, 2) by decide +kernel) rfl
theorem s_14_95 : a_Snd 14 95 (o_ias 96) := s_ias (show decode cX2_fillOwn 95 = .ok (.iastore, 1) by decide +kernel) rfl
theorem s_14_96 : a_Snd 14 96 (o_ldi 3 97) := s_ldin (show decode cX2_fillOwn 96 = .ok (.iload_n 3, 1) by decide +kernel) rfl rfl
theorem s_14_97 : a_Snd 14 97 (o_lda 0 98) := s_ldan (show decode cX2_fillOwn 97 = .ok (.aload_n 0, 1) by decide +kernel) rfl rfl
theorem s_14_98 : a_Snd 14 98 (o_ldi 5 100) := s_ldi (show decode cX2_fillOwn 98 = .ok (.iload 5, 2) by decide +kernel) rfl
theorem s_14_100 : a_Snd 14 100 (o_ldi 7 102) := s_ldi (show decode cX2_fillOwn 100 = .ok (.iload 7, 2) by decide +kernel) rfl
theorem s_14_102 : a_Snd 14 102 (o_ivv 2 6 2 105) := s_ivv (ci := 2) rfl mk_6 wd_617 wp_20 wd_615 (And.intro (by decide +kernel) (by decide +kernel)) (show decode cX2_fillOwn 102 = .ok (.invokevirtual 102, 3) by decide +kernel) rfl
theorem s_14_105 : a_Snd 14 105 (o_bi f_sub 106) := s_isub (show decode cX2_fillOwn 105 = .ok (.isub, 1) by decide +kernel) rfl
theorem s_14_106 : a_Snd 14 106 (o_sti 3 107) := s_stin (show decode cX2_fillOwn 106 = .ok (.istore_n 3, 1) by decide +kernel) rfl rfl (by decide)
theorem s_14_107 : a_Snd 14 107 (o_inc 4 (nI 1) 110) := s_inc (show decode cX2_fillOwn 107 = .ok (.iinc 4 1, 3) by decide +kernel) (by decide) rfl (by decide)
theorem s_14_110 : a_Snd 14 110 (o_go 5) := s_go (show decode cX2_fillOwn 110 = .ok (.goto (-105), 3) by decide +kernel) (by decide)
theorem s_14_113 : a_Snd 14 113 (o_rv) := s_rv (show decode cX2_fillOwn 113 = .ok (.return_, 1) by decide +kernel) rfl
theorem ts_14 : a_All 14 tb_14 := And.intro s_14_0 (And.intro s_14_1 (And.intro s_14_2 (And.intro s_14_3 (And.intro s_14_5 (And.intro s_14_7 (And.intro s_14_8 (And.intro s_14_11 (And.intro s_14_12 (And.intro s_14_13 (And.intro s_14_16 (And.intro s_14_17 (And.intro s_14_20 (And.intro s_14_21 (And.intro s_14_22 (And.intro s_14_23 (And.intro s_14_25 (And.intro s_14_26 (And.intro s_14_27 (And.intro s_14_29 (And.intro s_14_30 (And.intro s_14_31 (And.intro s_14_33 (And.intro s_14_34 (And.intro s_14_37 (And.intro s_14_39 (And.intro s_14_40 (And.intro s_14_42 (And.intro s_14_44 (And.intro s_14_45 (And.intro s_14_48 (And.intro s_14_50 (And.intro s_14_51 (And.intro s_14_54 (And.intro s_14_56 (And.intro s_14_57 (And.intro s_14_58 (And.intro s_14_60 (And.intro s_14_61 (And.intro s_14_62 (And.intro s_14_63 (And.intro s_14_64 (And.intro s_14_66 (And.intro s_14_68 (And.intro s_14_71 (And.intro s_14_72 (And.intro s_14_75 (And.intro s_14_76 (And.intro s_14_78 (And.intro s_14_81 (And.intro s_14_84 (And.intro s_14_87 (And.intro s_14_88 (And.intro s_14_91 (And.intro s_14_93 (And.intro s_14_95 (And.intro s_14_96 (And.intro s_14_97 (And.intro s_14_98 (And.intro s_14_100 (And.intro s_14_102 (And.intro s_14_105 (And.intro s_14_106 (And.intro s_14_107 (And.intro s_14_110 (And.intro s_14_113 (trivial))))))))))))))))))))))))))))))))))))))))))))))))))))))))))))))))))
/-! 15: NetLaw$Mending.isRowBefore()Z -/
def tb_15 : List (Nat × a_OP) := [(0, o_pi (nI 0) 1), (1, o_sti 1 2), (2, o_ldi 1 3), (3, o_pi (nI 16) 5), (5, o_cge 50 8), (8, o_lda 0 9), (9, o_get 2 1 12), (12, o_ldi 1 13), (13, o_ial 14), (14, o_lda 0 15), (15, o_get 2 0 18), (18, o_ldi 1 19), (19, o_ial 20), (20, o_ceq 44 23), (23, o_lda 0 24), (24, o_get 2 1 27), (27, o_ldi 1 28), (28, o_ial 29), (29, o_lda 0 30), (30, o_get 2 0 33), (33, o_ldi 1 34), (34, o_ial 35), (35, o_cge 42 38), (38, o_pi (nI 1) 39), (39, o_go 43), (42, o_pi (nI 0) 43), (43, o_rz), (44, o_inc 1 (nI 1) 47), (47, o_go 2), (50, o_pi (nI 0) 51), (51, o_rz)]
theorem s_15_0 : a_Snd 15 0 (o_pi (nI 0) 1) := s_pic (show decode cX2_isRowBefore 0 = .ok (.iconst 0, 1) by decide +kernel) (by decide) rfl
theorem s_15_1 : a_Snd 15 1 (o_sti 1 2) := s_stin (show decode cX2_isRowBefore 1 = .ok (.istore_n 1, 1) by decide +kernel) rfl rfl (by decide)
theorem s_15_2 : a_Snd 15 2 (o_ldi 1 3) := s_ldin (show decode cX2_isRowBefore 2 = .ok (.iload_n 1, 1) by decide +kernel) rfl rfl
theorem s_15_3 : a_Snd 15 3 (o_pi (nI 16) 5) := s_pib (show decode cX2_isRowBefore 3 = .ok (.bipush 16, 2) by decide +kernel) (by decide) rfl
theorem s_15_5 : a_Snd 15 5 (o_cge 50 8) := s_cge (show decode cX2_isRowBefore 5 = .ok (.if_icmp .ge 45, 3) by decide +kernel) (by decide) rfl
theorem s_15_8 : a_Snd 15 8 (o_lda 0 9) := s_ldan (show decode cX2_isRowBefore 8 = .ok (.aload_n 0, 1) by decide +kernel) rfl rfl
theorem s_15_9 : a_Snd 15 9 (o_get 2 1 12) := s_get (T := TX2) (N := 10) rfl fin2 (by decide) wd_171 (show decode cX2_isRowBefore 9 = .ok (.getfield 15, 3) by decide +kernel) rfl
theorem s_15_12 : a_Snd 15 12 (o_ldi 1 13) := s_ldin (show decode cX2_isRowBefore 12 = .ok (.iload_n 1, 1) by decide +kernel) rfl rfl
theorem s_15_13 : a_Snd 15 13 (o_ial 14) := s_ial (show decode cX2_isRowBefore 13 = .ok (.iaload, 1) by decide +kernel) rfl
theorem s_15_14 : a_Snd 15 14 (o_lda 0 15) := s_ldan (show decode cX2_isRowBefore 14 = .ok (.aload_n 0, 1) by decide +kernel) rfl rfl
theorem s_15_15 : a_Snd 15 15 (o_get 2 0 18) := s_get (T := TX2) (N := 10) rfl fin2 (by decide) wd_169 (show decode cX2_isRowBefore 15 = .ok (.getfield 9, 3) by decide +kernel) rfl
theorem s_15_18 : a_Snd 15 18 (o_ldi 1 19) := s_ldin (show decode cX2_isRowBefore 18 = .ok (.iload_n 1, 1) by decide +kernel) rfl rfl
theorem s_15_19 : a_Snd 15 19 (o_ial 20) := s_ial (show decode cX2_isRowBefore 19 = .ok (.iaload, 1) by decide +kernel) rfl
theorem s_15_20 : a_Snd 15 20 (o_ceq 44 23) := s_ceq (show decode cX2_isRowBefore 20 = .ok (.if_icmp .eq 24, 3) by decide +kernel) (by decide) rfl
theorem s_15_23 : a_Snd 15 23 (o_lda 0 24) := s_ldan (show decode cX2_isRowBefore 23 = .ok (.aload_n 0, 1) by decide +kernel) rfl rfl
theorem s_15_24 : a_Snd 15 24 (o_get 2 1 27) := s_get (T := TX2) (N := 10) rfl fin2 (by decide) wd_171 (show decode cX2_isRowBefore 24 = .ok (.getfield 15, 3) by decide +kernel) rfl
theorem s_15_27 : a_Snd 15 27 (o_ldi 1 28) := s_ldin (show decode cX2_isRowBefore 27 = .ok (.iload_n 1, 1) by decide +kernel) rfl rfl
theorem s_15_28 : a_Snd 15 28 (o_ial 29) := s_ial (show decode cX2_isRowBefore 28 = .ok (.iaload, 1) by decide +kernel) rfl
theorem s_15_29 : a_Snd 15 29 (o_lda 0 30) := s_ldan (show decode cX2_isRowBefore 29 = .ok (.aload_n 0, 1) by decide +kernel) rfl rfl
theorem s_15_30 : a_Snd 15 30 (o_get 2 0 33) := s_get (T := TX2) (N := 10) rfl fin2 (by decide) wd_169 (show decode cX2_isRowBefore 30 = .ok (.getfield 9, 3) by decide +kernel) rfl
theorem s_15_33 : a_Snd 15 33 (o_ldi 1 34) := s_ldin (show decode cX2_isRowBefore 33 = .ok (.iload_n 1, 1) by decide +kernel) rfl rfl
theorem s_15_34 : a_Snd 15 34 (o_ial 35) := s_ial (show decode cX2_isRowBefore 34 = .ok (.iaload, 1) by decide +kernel) rfl
theorem s_15_35 : a_Snd 15 35 (o_cge 42 38) := s_cge (show decode cX2_isRowBefore 35 = .ok (.if_icmp .ge 7, 3) by decide +kernel) (by decide) rfl
theorem s_15_38 : a_Snd 15 38 (o_pi (nI 1) 39) := s_pic (show decode cX2_isRowBefore 38 = .ok (.iconst 1, 1) by decide +kernel) (by decide) rfl
theorem s_15_39 : a_Snd 15 39 (o_go 43) := s_go (show decode cX2_isRowBefore 39 = .ok (.goto 4, 3) by decide +kernel) (by decide)
theorem s_15_42 : a_Snd 15 42 (o_pi (nI 0) 43) := s_pic (show decode cX2_isRowBefore 42 = .ok (.iconst 0, 1) by decide +kernel) (by decide) rfl
theorem s_15_43 : a_Snd 15 43 (o_rz) := s_rz (show decode cX2_isRowBefore 43 = .ok (.ireturn, 1) by decide +kernel) rfl
theorem s_15_44 : a_Snd 15 44 (o_inc 1 (nI 1) 47) := s_inc (show decode cX2_isRowBefore 44 = .ok (.iinc 1 1, 3) by decide +kernel) (by decide) rfl (by decide)
theorem s_15_47 : a_Snd 15 47 (o_go 2) := s_go (show decode cX2_isRowBefore 47 = .ok (.goto (-45), 3) by decide +kernel) (by decide)
theorem s_15_50 : a_Snd 15 50 (o_pi (nI 0) 51) := s_pic (show decode cX2_isRowBefore 50 = .ok (.iconst 0, 1) by decide +kernel) (by decide) rfl
theorem s_15_51 : a_Snd 15 51 (o_rz) := s_rz (show decode cX2_isRowBefore 51 = .ok (.ireturn, 1) by decide +kernel) rfl
theorem ts_15 : a_All 15 tb_15 := And.intro s_15_0 (And.intro s_15_1 (And.intro s_15_2 (And.intro s_15_3 (And.intro s_15_5 (And.intro s_15_8 (And.intro s_15_9 (And.intro s_15_12 (And.intro s_15_13 (And.intro s_15_14 (And.intro s_15_15 (And.intro s_15_18 (And.intro s_15_19 (And.intro s_15_20 (And.intro s_15_23 (And.intro s_15_24 (And.intro s_15_27 (And.intro s_15_28 (And.intro s_15_29 (And.intro s_15_30 (And.intro s_15_33 (And.intro s_15_34 (And.intro s_15_35 (And.intro s_15_38 (And.intro s_15_39 (And.intro s_15_42 (And.intro s_15_43 (And.intro s_15_44 (And.intro s_15_47 (And.intro s_15_50 (And.intro s_15_51 (trivial)))))))))))))))))))))))))))))))
/-! 16: NetLaw$Net.startAnew(II)V -/
def tb_16 : List (Nat × a_OP) := [(0, o_lda 0 1), (1, o_ldi 1 2), (2, o_put 3 0 5), (5, o_lda 0 6), (6, o_ldi 2 7), (7, o_put 3 1 10), (10, o_lda 0 11), (11, o_pi (nI 0) 12), (12, o_put 3 2 15), (15, o_lda 0 16), (16, o_pi (nI 0) 17), (17, o_put 3 3 20), (20, o_lda 0 21), (21, o_get 3 4 24), (24, o_pi (nI 0) 25), (25, o_ivs 209 2 28), (28, o_lda 0 29), (29, o_get 3 5 32), (32, o_pi (nI 0) 33), (33, o_ivs 209 2 36), (36, o_lda 0 37), (37, o_get 3 6 40), (40, o_pi (nI 0) 41), (41, o_ivs 209 2 44), (44, o_lda 0 45), (45, o_get 3 7 48), (48, o_pi (nI 9) 50), (50, o_ivs 209 2 53), (53, o_rv)]
theorem s_16_0 : a_Snd 16 0 (o_lda 0 1) := s_ldan (show decode cX3_startAnew 0 = .ok (.aload_n 0, 1) by decide +kernel) rfl rfl
theorem s_16_1 : a_Snd 16 1 (o_ldi 1 2) := s_ldin (show decode cX3_startAnew 1 = .ok (.iload_n 1, 1) by decide +kernel) rfl rfl
theorem s_16_2 : a_Snd 16 2 (o_put 3 0 5) := s_put (T := TX3) (N := 8) rfl fin3 tyX3_ok nmX3 (by decide) wd_35 rfl rfl (show decode cX3_startAnew 2 = .ok (.putfield 30, 3) by decide +kernel) rfl
theorem s_16_5 : a_Snd 16 5 (o_lda 0 6) := s_ldan (show decode cX3_startAnew 5 = .ok (.aload_n 0, 1) by decide +kernel) rfl rfl
theorem s_16_6 : a_Snd 16 6 (o_ldi 2 7) := s_ldin (show decode cX3_startAnew 6 = .ok (.iload_n 2, 1) by decide +kernel) rfl rfl
theorem s_16_7 : a_Snd 16 7 (o_put 3 1 10) := s_put (T := TX3) (N := 8) rfl fin3 tyX3_ok nmX3 (by decide) wd_38 rfl rfl (show decode cX3_startAnew 7 = .ok (.putfield 34, 3) by decide +kernel) rfl
theorem s_16_10 : a_Snd 16 10 (o_lda 0 11) := s_ldan (show decode cX3_startAnew 10 = .ok (.aload_n 0, 1) by decide +kernel) rfl rfl
theorem s_16_11 : a_Snd 16 11 (o_pi (nI 0) 12) := s_pic (show decode cX3_startAnew 11 = .ok (.iconst 0, 1) by decide +kernel) (by decide) rfl
theorem s_16_12 : a_Snd 16 12 (o_put 3 2 15) := s_put (T := TX3) (N := 8) rfl fin3 tyX3_ok nmX3 (by decide) wd_41 rfl rfl (show decode cX3_startAnew 12 = .ok (.putfield 37, 3) by decide +kernel) rfl
theorem s_16_15 : a_Snd 16 15 (o_lda 0 16) := s_ldan (show decode cX3_startAnew 15 = .ok (.aload_n 0, 1) by decide +kernel) rfl rfl
theorem s_16_16 : a_Snd 16 16 (o_pi (nI 0) 17) := s_pic (show decode cX3_startAnew 16 = .ok (.iconst 0, 1) by decide +kernel) (by decide) rfl
theorem s_16_17 : a_Snd 16 17 (o_put 3 3 20) := s_put (T := TX3) (N := 8) rfl fin3 tyX3_ok nmX3 (by decide) wd_43 rfl rfl (show decode cX3_startAnew 17 = .ok (.putfield 40, 3) by decide +kernel) rfl
theorem s_16_20 : a_Snd 16 20 (o_lda 0 21) := s_ldan (show decode cX3_startAnew 20 = .ok (.aload_n 0, 1) by decide +kernel) rfl rfl
theorem s_16_21 : a_Snd 16 21 (o_get 3 4 24) := s_get (T := TX3) (N := 8) rfl fin3 (by decide) wd_46 (show decode cX3_startAnew 21 = .ok (.getfield 9, 3) by decide +kernel) rfl
theorem s_16_24 : a_Snd 16 24 (o_pi (nI 0) 25) := s_pic (show decode cX3_startAnew 24 = .ok (.iconst 0, 1) by decide +kernel) (by decide) rfl
theorem s_16_25 : a_Snd 16 25 (o_ivs 209 2 28) := s_ivs mk_209 wd_33 wd_32 (And.intro (by decide +kernel) (by decide +kernel)) (show decode cX3_startAnew 25 = .ok (.invokestatic 24, 3) by decide +kernel) rfl
theorem s_16_28 : a_Snd 16 28 (o_lda 0 29) := s_ldan (show decode cX3_startAnew 28 = .ok (.aload_n 0, 1) by decide +kernel) rfl rfl
theorem s_16_29 : a_Snd 16 29 (o_get 3 5 32) := s_get (T := TX3) (N := 8) rfl fin3 (by decide) wd_50 (show decode cX3_startAnew 29 = .ok (.getfield 15, 3) by decide +kernel) rfl
theorem s_16_32 : a_Snd 16 32 (o_pi (nI 0) 33) := s_pic (show decode cX3_startAnew 32 = .ok (.iconst 0, 1) by decide +kernel) (by decide) rfl
theorem s_16_33 : a_Snd 16 33 (o_ivs 209 2 36) := s_ivs mk_209 wd_33 wd_32 (And.intro (by decide +kernel) (by decide +kernel)) (show decode cX3_startAnew 33 = .ok (.invokestatic 24, 3) by decide +kernel) rfl
theorem s_16_36 : a_Snd 16 36 (o_lda 0 37) := s_ldan (show decode cX3_startAnew 36 = .ok (.aload_n 0, 1) by decide +kernel) rfl rfl
theorem s_16_37 : a_Snd 16 37 (o_get 3 6 40) := s_get (T := TX3) (N := 8) rfl fin3 (by decide) wd_54 (show decode cX3_startAnew 37 = .ok (.getfield 18, 3) by decide +kernel) rfl
theorem s_16_40 : a_Snd 16 40 (o_pi (nI 0) 41) := s_pic (show decode cX3_startAnew 40 = .ok (.iconst 0, 1) by decide +kernel) (by decide) rfl
theorem s_16_41 : a_Snd 16 41 (o_ivs 209 2 44) := s_ivs mk_209 wd_33 wd_32 (And.intro (by decide +kernel) (by decide +kernel)) (show decode cX3_startAnew 41 = .ok (.invokestatic 24, 3) by decide +kernel) rfl
theorem s_16_44 : a_Snd 16 44 (o_lda 0 45) := s_ldan (show decode cX3_startAnew 44 = .ok (.aload_n 0, 1) by decide +kernel) rfl rfl
theorem s_16_45 : a_Snd 16 45 (o_get 3 7 48) := s_get (T := TX3) (N := 8) rfl fin3 (by decide) wd_57 (show decode cX3_startAnew 45 = .ok (.getfield 21, 3) by decide +kernel) rfl
theorem s_16_48 : a_Snd 16 48 (o_pi (nI 9) 50) := s_pib (show decode cX3_startAnew 48 = .ok (.bipush 9, 2) by decide +kernel) (by decide) rfl
theorem s_16_50 : a_Snd 16 50 (o_ivs 209 2 53) := s_ivs mk_209 wd_33 wd_32 (And.intro (by decide +kernel) (by decide +kernel)) (show decode cX3_startAnew 50 = .ok (.invokestatic 24, 3) by decide +kernel) rfl
theorem s_16_53 : a_Snd 16 53 (o_rv) := s_rv (show decode cX3_startAnew 53 = .ok (.return_, 1) by decide +kernel) rfl
theorem ts_16 : a_All 16 tb_16 := And.intro s_16_0 (And.intro s_16_1 (And.intro s_16_2 (And.intro s_16_5 (And.intro s_16_6 (And.intro s_16_7 (And.intro s_16_10 (And.intro s_16_11 (And.intro s_16_12 (And.intro s_16_15 (And.intro s_16_16 (And.intro s_16_17 (And.intro s_16_20 (And.intro s_16_21 (And.intro s_16_24 (And.intro s_16_25 (And.intro s_16_28 (And.intro s_16_29 (And.intro s_16_32 (And.intro s_16_33 (And.intro s_16_36 (And.intro s_16_37 (And.intro s_16_40 (And.intro s_16_41 (And.intro s_16_44 (And.intro s_16_45 (And.intro s_16_48 (And.intro s_16_50 (And.intro s_16_53 (trivial)))))))))))))))))))))))))))))
/-! 17: NetLaw$Net.takeFrom(LNetLaw$Net;)V -/
def tb_17 : List (Nat × a_OP) := [(0, o_lda 0 1), (1, o_lda 1 2), (2, o_get 3 0 5), (5, o_put 3 0 8), (8, o_lda 0 9), (9, o_lda 1 10), (10, o_get 3 1 13), (13, o_put 3 1 16), (16, o_lda 0 17), (17, o_lda 1 18), (18, o_get 3 2 21), (21, o_put 3 2 24), (24, o_lda 0 25), (25, o_lda 1 26), (26, o_get 3 3 29), (29, o_put 3 3 32), (32, o_lda 1 33), (33, o_get 3 4 36), (36, o_pi (nI 0) 37), (37, o_lda 0 38), (38, o_get 3 4 41), (41, o_pi (nI 0) 42), (42, o_pi (nI 16) 44), (44, o_cpy 47), (47, o_lda 1 48), (48, o_get 3 5 51), (51, o_pi (nI 0) 52), (52, o_lda 0 53), (53, o_get 3 5 56), (56, o_pi (nI 0) 57), (57, o_pi (nI 16) 59), (59, o_cpy 62), (62, o_lda 1 63), (63, o_get 3 6 66), (66, o_pi (nI 0) 67), (67, o_lda 0 68), (68, o_get 3 6 71), (71, o_pi (nI 0) 72), (72, o_pi (nI 16) 74), (74, o_cpy 77), (77, o_lda 1 78), (78, o_get 3 7 81), (81, o_pi (nI 0) 82), (82, o_lda 0 83), (83, o_get 3 7 86), (86, o_pi (nI 0) 87), (87, o_pi (nI 9) 89), (89, o_cpy 92), (92, o_rv)]
theorem s_17_0 : a_Snd 17 0 (o_lda 0 1) := s_ldan (show decode cX3_takeFrom 0 = .ok (.aload_n 0, 1) by decide +kernel) rfl rfl
theorem s_17_1 : a_Snd 17 1 (o_lda 1 2) := s_ldan (show decode cX3_takeFrom 1 = .ok (.aload_n 1, 1) by decide +kernel) rfl rfl
theorem s_17_2 : a_Snd 17 2 (o_get 3 0 5) := s_get (T := TX3) (N := 8) rfl fin3 (by decide) wd_35 (show decode cX3_takeFrom 2 = .ok (.getfield 30, 3) by decide +kernel) rfl
theorem s_17_5 : a_Snd 17 5 (o_put 3 0 8) := s_put (T := TX3) (N := 8) rfl fin3 tyX3_ok nmX3 (by decide) wd_35 rfl rfl (show decode cX3_takeFrom 5 = .ok (.putfield 30, 3) by decide +kernel) rfl
theorem s_17_8 : a_Snd 17 8 (o_lda 0 9) := s_ldan (show decode cX3_takeFrom 8 = .ok (.aload_n 0, 1) by decide +kernel) rfl rfl
theorem s_17_9 : a_Snd 17 9 (o_lda 1 10) := s_ldan (show decode cX3_takeFrom 9 = .ok (.aload_n 1, 1) by decide +kernel) rfl rfl
theorem s_17_10 : a_Snd 17 10 (o_get 3 1 13) := s_get (T := TX3) (N := 8) rfl fin3 (by decide) wd_38 (show decode cX3_takeFrom 10 = .ok (.getfield 34, 3) by decide +kernel) rfl
theorem s_17_13 : a_Snd 17 13 (o_put 3 1 16) := s_put (T := TX3) (N := 8) rfl fin3 tyX3_ok nmX3 (by decide) wd_38 rfl rfl (show decode cX3_takeFrom 13 = .ok (.putfield 34, 3) by decide +kernel) rfl
theorem s_17_16 : a_Snd 17 16 (o_lda 0 17) := s_ldan (show decode cX3_takeFrom 16 = .ok (.aload_n 0, 1) by decide +kernel) rfl rfl
theorem s_17_17 : a_Snd 17 17 (o_lda 1 18) := s_ldan (show decode cX3_takeFrom 17 = .ok (.aload_n 1, 1) by decide +kernel) rfl rfl
theorem s_17_18 : a_Snd 17 18 (o_get 3 2 21) := s_get (T := TX3) (N := 8) rfl fin3 (by decide) wd_41 (show decode cX3_takeFrom 18 = .ok (.getfield 37, 3) by decide +kernel) rfl
theorem s_17_21 : a_Snd 17 21 (o_put 3 2 24) := s_put (T := TX3) (N := 8) rfl fin3 tyX3_ok nmX3 (by decide) wd_41 rfl rfl (show decode cX3_takeFrom 21 = .ok (.putfield 37, 3) by decide +kernel) rfl
theorem s_17_24 : a_Snd 17 24 (o_lda 0 25) := s_ldan (show decode cX3_takeFrom 24 = .ok (.aload_n 0, 1) by decide +kernel) rfl rfl
theorem s_17_25 : a_Snd 17 25 (o_lda 1 26) := s_ldan (show decode cX3_takeFrom 25 = .ok (.aload_n 1, 1) by decide +kernel) rfl rfl
theorem s_17_26 : a_Snd 17 26 (o_get 3 3 29) := s_get (T := TX3) (N := 8) rfl fin3 (by decide) wd_43 (show decode cX3_takeFrom 26 = .ok (.getfield 40, 3) by decide +kernel) rfl
theorem s_17_29 : a_Snd 17 29 (o_put 3 3 32) := s_put (T := TX3) (N := 8) rfl fin3 tyX3_ok nmX3 (by decide) wd_43 rfl rfl (show decode cX3_takeFrom 29 = .ok (.putfield 40, 3) by decide +kernel) rfl
theorem s_17_32 : a_Snd 17 32 (o_lda 1 33) := s_ldan (show decode cX3_takeFrom 32 = .ok (.aload_n 1, 1) by decide +kernel) rfl rfl
theorem s_17_33 : a_Snd 17 33 (o_get 3 4 36) := s_get (T := TX3) (N := 8) rfl fin3 (by decide) wd_46 (show decode cX3_takeFrom 33 = .ok (.getfield 9, 3) by decide +kernel) rfl
theorem s_17_36 : a_Snd 17 36 (o_pi (nI 0) 37) := s_pic (show decode cX3_takeFrom 36 = .ok (.iconst 0, 1) by decide +kernel) (by decide) rfl
theorem s_17_37 : a_Snd 17 37 (o_lda 0 38) := s_ldan (show decode cX3_takeFrom 37 = .ok (.aload_n 0, 1) by decide +kernel) rfl rfl
theorem s_17_38 : a_Snd 17 38 (o_get 3 4 41) := s_get (T := TX3) (N := 8) rfl fin3 (by decide) wd_46 (show decode cX3_takeFrom 38 = .ok (.getfield 9, 3) by decide +kernel) rfl
theorem s_17_41 : a_Snd 17 41 (o_pi (nI 0) 42) := s_pic (show decode cX3_takeFrom 41 = .ok (.iconst 0, 1) by decide +kernel) (by decide) rfl
theorem s_17_42 : a_Snd 17 42 (o_pi (nI 16) 44) := s_pib (show decode cX3_takeFrom 42 = .ok (.bipush 16, 2) by decide +kernel) (by decide) rfl
theorem s_17_44 : a_Snd 17 44 (o_cpy 47) := s_cpy wd_556 wd_341 wd_340 wd_11 (by decide) (show decode cX3_takeFrom 44 = .ok (.invokestatic 43, 3) by decide +kernel) rfl
theorem s_17_47 : a_Snd 17 47 (o_lda 1 48) := s_ldan (show decode cX3_takeFrom 47 = .ok (.aload_n 1, 1) by decide +kernel) rfl rfl
theorem s_17_48 : a_Snd 17 48 (o_get 3 5 51) := s_get (T := TX3) (N := 8) rfl fin3 (by decide) wd_50 (show decode cX3_takeFrom 48 = .ok (.getfield 15, 3) by decide +kernel) rfl
theorem s_17_51 : a_Snd 17 51 (o_pi (nI 0) 52) := s_pic (show decode cX3_takeFrom 51 = .ok (.iconst 0, 1) by decide +kernel) (by decide) rfl
theorem s_17_52 : a_Snd 17 52 (o_lda 0 53) := s_ldan (show decode cX3_takeFrom 52 = .ok (.aload_n 0, 1) by decide +kernel) rfl rfl
theorem s_17_53 : a_Snd 17 53 (o_get 3 5 56) := s_get (T := TX3) (N := 8) rfl fin3 (by decide) wd_50 (show decode cX3_takeFrom 53 = .ok (.getfield 15, 3) by decide +kernel) rfl
theorem s_17_56 : a_Snd 17 56 (o_pi (nI 0) 57) := s_pic (show decode cX3_takeFrom 56 = .ok (.iconst 0, 1) by decide +kernel) (by decide) rfl
theorem s_17_57 : a_Snd 17 57 (o_pi (nI 16) 59) := s_pib (show decode cX3_takeFrom 57 = .ok (.bipush 16, 2) by decide +kernel) (by decide) rfl
theorem s_17_59 : a_Snd 17 59 (o_cpy 62) := s_cpy wd_556 wd_341 wd_340 wd_11 (by decide) (show decode cX3_takeFrom 59 = .ok (.invokestatic 43, 3) by decide +kernel) rfl
theorem s_17_62 : a_Snd 17 62 (o_lda 1 63) := s_ldan (show decode cX3_takeFrom 62 = .ok (.aload_n 1, 1) by decide +kernel) rfl rfl
theorem s_17_63 : a_Snd 17 63 (o_get 3 6 66) := s_get (T := TX3) (N := 8) rfl fin3 (by decide) wd_54 (show decode cX3_takeFrom 63 = .ok (.getfield 18, 3) by decide +kernel) rfl
theorem s_17_66 : a_Snd 17 66 (o_pi (nI 0) 67) := s_pic (show decode cX3_takeFrom 66 = .ok (.iconst 0, 1) by decide +kernel) (by decide) rfl
theorem s_17_67 : a_Snd 17 67 (o_lda 0 68) := s_ldan (show decode cX3_takeFrom 67 = .ok (.aload_n 0, 1) by decide +kernel) rfl rfl
theorem s_17_68 : a_Snd 17 68 (o_get 3 6 71) := s_get (T := TX3) (N := 8) rfl fin3 (by decide) wd_54 (show decode cX3_takeFrom 68 = .ok (.getfield 18, 3) by decide +kernel) rfl
theorem s_17_71 : a_Snd 17 71 (o_pi (nI 0) 72) := s_pic (show decode cX3_takeFrom 71 = .ok (.iconst 0, 1) by decide +kernel) (by decide) rfl
theorem s_17_72 : a_Snd 17 72 (o_pi (nI 16) 74) := s_pib (show decode cX3_takeFrom 72 = .ok (.bipush 16, 2) by decide +kernel) (by decide) rfl
theorem s_17_74 : a_Snd 17 74 (o_cpy 77) := s_cpy wd_556 wd_341 wd_340 wd_11 (by decide) (show decode cX3_takeFrom 74 = .ok (.invokestatic 43, 3) by decide +kernel) rfl
theorem s_17_77 : a_Snd 17 77 (o_lda 1 78) := s_ldan (show decode cX3_takeFrom 77 = .ok (.aload_n 1, 1) by decide +kernel) rfl rfl
theorem s_17_78 : a_Snd 17 78 (o_get 3 7 81) := s_get (T := TX3) (N := 8) rfl fin3 (by decide) wd_57 (show decode cX3_takeFrom 78 = .ok (.getfield 21, 3) by decide +kernel) rfl
theorem s_17_81 : a_Snd 17 81 (o_pi (nI 0) 82) := s_pic (show decode cX3_takeFrom 81 = .ok (.iconst 0, 1) by decide +kernel) (by decide) rfl
theorem s_17_82 : a_Snd 17 82 (o_lda 0 83) := s_ldan (show decode cX3_takeFrom 82 = .ok (.aload_n 0, 1) by decide +kernel) rfl rfl
theorem s_17_83 : a_Snd 17 83 (o_get 3 7 86) := s_get (T := TX3) (N := 8) rfl fin3 (by decide) wd_57 (show decode cX3_takeFrom 83 = .ok (.getfield 21, 3) by decide +kernel) rfl
theorem s_17_86 : a_Snd 17 86 (o_pi (nI 0) 87) := s_pic (show decode cX3_takeFrom 86 = .ok (.iconst 0, 1) by decide +kernel) (by decide) rfl
theorem s_17_87 : a_Snd 17 87 (o_pi (nI 9) 89) := s_pib (show decode cX3_takeFrom 87 = .ok (.bipush 9, 2) by decide +kernel) (by decide) rfl
theorem s_17_89 : a_Snd 17 89 (o_cpy 92) := s_cpy wd_556 wd_341 wd_340 wd_11 (by decide) (show decode cX3_takeFrom 89 = .ok (.invokestatic 43, 3) by decide +kernel) rfl
theorem s_17_92 : a_Snd 17 92 (o_rv) := s_rv (show decode cX3_takeFrom 92 = .ok (.return_, 1) by decide +kernel) rfl
theorem ts_17 : a_All 17 tb_17 := And.intro s_17_0 (And.intro s_17_1 (And.intro s_17_2 (And.intro s_17_5 (And.intro s_17_8 (And.intro s_17_9 (And.intro s_17_10 (And.intro s_17_13 (And.intro s_17_16 (And.intro s_17_17 (And.intro s_17_18 (And.intro s_17_21 (And.intro s_17_24 (And.intro s_17_25 (And.intro s_17_26 (And.intro s_17_29 (And.intro s_17_32 (And.intro s_17_33 (And.intro s_17_36 (And.intro s_17_37 (And.intro s_17_38 (And.intro s_17_41 (And.intro s_17_42 (And.intro s_17_44 (And.intro s_17_47 (And.intro s_17_48 (And.intro s_17_51 (And.intro s_17_52 (And.intro s_17_53 (And.intro s_17_56 (And.intro s_17_57 (And.intro s_17_59 (And.intro s_17_62 (And.intro s_17_63 (And.intro s_17_66 (And.intro s_17_67 (And.intro s_17_68 (And.intro s_17_71 (And.intro s_17_72 (And.intro s_17_74 (And.intro s_17_77 (And.intro s_17_78 (And.intro s_17_81 (And.intro s_17_82 (And.intro s_17_83 (And.intro s_17_86 (And.intro s_17_87 (And.intro s_17_89 (And.intro s_17_92 (trivial)))))))))))))))))))))))))))))))))))))))))))))))))
/-! 18: NetLaw$Net.tieKnot(IIII)V -/
def tb_18 : List (Nat × a_OP) := [(0, o_lda 0 1), (1, o_get 3 4 4), (4, o_ldi 1 5), (5, o_ldi 2 6), (6, o_ias 7), (7, o_lda 0 8), (8, o_get 3 5 11), (11, o_ldi 1 12), (12, o_ldi 3 13), (13, o_ias 14), (14, o_lda 0 15), (15, o_get 3 6 18), (18, o_ldi 1 19), (19, o_ldi 4 21), (21, o_ias 22), (22, o_rv)]
theorem s_18_0 : a_Snd 18 0 (o_lda 0 1) := s_ldan (show decode cX3_tieKnot 0 = .ok (.aload_n 0, 1) by decide +kernel) rfl rfl
theorem s_18_1 : a_Snd 18 1 (o_get 3 4 4) := s_get (T := TX3) (N := 8) rfl fin3 (by decide) wd_46 (show decode cX3_tieKnot 1 = .ok (.getfield 9, 3) by decide +kernel) rfl
theorem s_18_4 : a_Snd 18 4 (o_ldi 1 5) := s_ldin (show decode cX3_tieKnot 4 = .ok (.iload_n 1, 1) by decide +kernel) rfl rfl
theorem s_18_5 : a_Snd 18 5 (o_ldi 2 6) := s_ldin (show decode cX3_tieKnot 5 = .ok (.iload_n 2, 1) by decide +kernel) rfl rfl
theorem s_18_6 : a_Snd 18 6 (o_ias 7) := s_ias (show decode cX3_tieKnot 6 = .ok (.iastore, 1) by decide +kernel) rfl
theorem s_18_7 : a_Snd 18 7 (o_lda 0 8) := s_ldan (show decode cX3_tieKnot 7 = .ok (.aload_n 0, 1) by decide +kernel) rfl rfl
theorem s_18_8 : a_Snd 18 8 (o_get 3 5 11) := s_get (T := TX3) (N := 8) rfl fin3 (by decide) wd_50 (show decode cX3_tieKnot 8 = .ok (.getfield 15, 3) by decide +kernel) rfl
theorem s_18_11 : a_Snd 18 11 (o_ldi 1 12) := s_ldin (show decode cX3_tieKnot 11 = .ok (.iload_n 1, 1) by decide +kernel) rfl rfl
theorem s_18_12 : a_Snd 18 12 (o_ldi 3 13) := s_ldin (show decode cX3_tieKnot 12 = .ok (.iload_n 3, 1) by decide +kernel) rfl rfl
theorem s_18_13 : a_Snd 18 13 (o_ias 14) := s_ias (show decode cX3_tieKnot 13 = .ok (.iastore, 1) by decide +kernel) rfl
theorem s_18_14 : a_Snd 18 14 (o_lda 0 15) := s_ldan (show decode cX3_tieKnot 14 = .ok (.aload_n 0, 1) by decide +kernel) rfl rfl
theorem s_18_15 : a_Snd 18 15 (o_get 3 6 18) := s_get (T := TX3) (N := 8) rfl fin3 (by decide) wd_54 (show decode cX3_tieKnot 15 = .ok (.getfield 18, 3) by decide +kernel) rfl
theorem s_18_18 : a_Snd 18 18 (o_ldi 1 19) := s_ldin (show decode cX3_tieKnot 18 = .ok (.iload_n 1, 1) by decide +kernel) rfl rfl
theorem s_18_19 : a_Snd 18 19 (o_ldi 4 21) := s_ldi (show decode cX3_tieKnot 19 = .ok (.iload 4, 2) by decide +kernel) rfl
theorem s_18_21 : a_Snd 18 21 (o_ias 22) := s_ias (show decode cX3_tieKnot 21 = .ok (.iastore, 1) by decide +kernel) rfl
theorem s_18_22 : a_Snd 18 22 (o_rv) := s_rv (show decode cX3_tieKnot 22 = .ok (.return_, 1) by decide +kernel) rfl
theorem ts_18 : a_All 18 tb_18 := And.intro s_18_0 (And.intro s_18_1 (And.intro s_18_4 (And.intro s_18_5 (And.intro s_18_6 (And.intro s_18_7 (And.intro s_18_8 (And.intro s_18_11 (And.intro s_18_12 (And.intro s_18_13 (And.intro s_18_14 (And.intro s_18_15 (And.intro s_18_18 (And.intro s_18_19 (And.intro s_18_21 (And.intro s_18_22 (trivial))))))))))))))))
/-! 19: NetLaw$Net.isHole(I)Z -/
def tb_19 : List (Nat × a_OP) := [(0, o_lda 0 1), (1, o_get 3 5 4), (4, o_ldi 1 5), (5, o_ial 6), (6, o_ne 13 9), (9, o_pi (nI 1) 10), (10, o_go 14), (13, o_pi (nI 0) 14), (14, o_rz)]
theorem s_19_0 : a_Snd 19 0 (o_lda 0 1) := s_ldan (show decode cX3_isHole 0 = .ok (.aload_n 0, 1) by decide +kernel) rfl rfl
theorem s_19_1 : a_Snd 19 1 (o_get 3 5 4) := s_get (T := TX3) (N := 8) rfl fin3 (by decide) wd_50 (show decode cX3_isHole 1 = .ok (.getfield 15, 3) by decide +kernel) rfl
theorem s_19_4 : a_Snd 19 4 (o_ldi 1 5) := s_ldin (show decode cX3_isHole 4 = .ok (.iload_n 1, 1) by decide +kernel) rfl rfl
theorem s_19_5 : a_Snd 19 5 (o_ial 6) := s_ial (show decode cX3_isHole 5 = .ok (.iaload, 1) by decide +kernel) rfl
theorem s_19_6 : a_Snd 19 6 (o_ne 13 9) := s_ine (show decode cX3_isHole 6 = .ok (.ifCond .ne 7, 3) by decide +kernel) (by decide) rfl
theorem s_19_9 : a_Snd 19 9 (o_pi (nI 1) 10) := s_pic (show decode cX3_isHole 9 = .ok (.iconst 1, 1) by decide +kernel) (by decide) rfl
theorem s_19_10 : a_Snd 19 10 (o_go 14) := s_go (show decode cX3_isHole 10 = .ok (.goto 4, 3) by decide +kernel) (by decide)
theorem s_19_13 : a_Snd 19 13 (o_pi (nI 0) 14) := s_pic (show decode cX3_isHole 13 = .ok (.iconst 0, 1) by decide +kernel) (by decide) rfl
theorem s_19_14 : a_Snd 19 14 (o_rz) := s_rz (show decode cX3_isHole 14 = .ok (.ireturn, 1) by decide +kernel) rfl
theorem ts_19 : a_All 19 tb_19 := And.intro s_19_0 (And.intro s_19_1 (And.intro s_19_4 (And.intro s_19_5 (And.intro s_19_6 (And.intro s_19_9 (And.intro s_19_10 (And.intro s_19_13 (And.intro s_19_14 (trivial)))))))))
/-! 20: NetLaw$Net.tiedKnots()I -/
def tb_20 : List (Nat × a_OP) := [(0, o_pi (nI 0) 1), (1, o_sti 1 2), (2, o_pi (nI 0) 3), (3, o_sti 2 4), (4, o_ldi 2 5), (5, o_pi (nI 16) 7), (7, o_cge 32 10), (10, o_ldi 1 11), (11, o_lda 0 12), (12, o_ldi 2 13), (13, o_ivv 3 19 1 16), (16, o_eq 23 19), (19, o_pi (nI 0) 20), (20, o_go 24), (23, o_pi (nI 1) 24), (24, o_bi f_add 25), (25, o_sti 1 26), (26, o_inc 2 (nI 1) 29), (29, o_go 4), (32, o_ldi 1 33), (33, o_ri)]
theorem s_20_0 : a_Snd 20 0 (o_pi (nI 0) 1) := s_pic (show decode cX3_tiedKnots 0 = .ok (.iconst 0, 1) by decide +kernel) (by decide) rfl
theorem s_20_1 : a_Snd 20 1 (o_sti 1 2) := s_stin (show decode cX3_tiedKnots 1 = .ok (.istore_n 1, 1) by decide +kernel) rfl rfl (by decide)
theorem s_20_2 : a_Snd 20 2 (o_pi (nI 0) 3) := s_pic (show decode cX3_tiedKnots 2 = .ok (.iconst 0, 1) by decide +kernel) (by decide) rfl
theorem s_20_3 : a_Snd 20 3 (o_sti 2 4) := s_stin (show decode cX3_tiedKnots 3 = .ok (.istore_n 2, 1) by decide +kernel) rfl rfl (by decide)
theorem s_20_4 : a_Snd 20 4 (o_ldi 2 5) := s_ldin (show decode cX3_tiedKnots 4 = .ok (.iload_n 2, 1) by decide +kernel) rfl rfl
theorem s_20_5 : a_Snd 20 5 (o_pi (nI 16) 7) := s_pib (show decode cX3_tiedKnots 5 = .ok (.bipush 16, 2) by decide +kernel) (by decide) rfl
theorem s_20_7 : a_Snd 20 7 (o_cge 32 10) := s_cge (show decode cX3_tiedKnots 7 = .ok (.if_icmp .ge 25, 3) by decide +kernel) (by decide) rfl
theorem s_20_10 : a_Snd 20 10 (o_ldi 1 11) := s_ldin (show decode cX3_tiedKnots 10 = .ok (.iload_n 1, 1) by decide +kernel) rfl rfl
theorem s_20_11 : a_Snd 20 11 (o_lda 0 12) := s_ldan (show decode cX3_tiedKnots 11 = .ok (.aload_n 0, 1) by decide +kernel) rfl rfl
theorem s_20_12 : a_Snd 20 12 (o_ldi 2 13) := s_ldin (show decode cX3_tiedKnots 12 = .ok (.iload_n 2, 1) by decide +kernel) rfl rfl
theorem s_20_13 : a_Snd 20 13 (o_ivv 3 19 1 16) := s_ivv (ci := 3) rfl mk_19 wd_291 wd_292 wd_290 (And.intro (by decide +kernel) (by decide +kernel)) (show decode cX3_tiedKnots 13 = .ok (.invokevirtual 49, 3) by decide +kernel) rfl
theorem s_20_16 : a_Snd 20 16 (o_eq 23 19) := s_ieq (show decode cX3_tiedKnots 16 = .ok (.ifCond .eq 7, 3) by decide +kernel) (by decide) rfl
theorem s_20_19 : a_Snd 20 19 (o_pi (nI 0) 20) := s_pic (show decode cX3_tiedKnots 19 = .ok (.iconst 0, 1) by decide +kernel) (by decide) rfl
theorem s_20_20 : a_Snd 20 20 (o_go 24) := s_go (show decode cX3_tiedKnots 20 = .ok (.goto 4, 3) by decide +kernel) (by decide)
theorem s_20_23 : a_Snd 20 23 (o_pi (nI 1) 24) := s_pic (show decode cX3_tiedKnots 23 = .ok (.iconst 1, 1) by decide +kernel) (by decide) rfl
theorem s_20_24 : a_Snd 20 24 (o_bi f_add 25) := s_iadd (show decode cX3_tiedKnots 24 = .ok (.iadd, 1) by decide +kernel) rfl
theorem s_20_25 : a_Snd 20 25 (o_sti 1 26) := s_stin (show decode cX3_tiedKnots 25 = .ok (.istore_n 1, 1) by decide +kernel) rfl rfl (by decide)
theorem s_20_26 : a_Snd 20 26 (o_inc 2 (nI 1) 29) := s_inc (show decode cX3_tiedKnots 26 = .ok (.iinc 2 1, 3) by decide +kernel) (by decide) rfl (by decide)
theorem s_20_29 : a_Snd 20 29 (o_go 4) := s_go (show decode cX3_tiedKnots 29 = .ok (.goto (-25), 3) by decide +kernel) (by decide)
theorem s_20_32 : a_Snd 20 32 (o_ldi 1 33) := s_ldin (show decode cX3_tiedKnots 32 = .ok (.iload_n 1, 1) by decide +kernel) rfl rfl
theorem s_20_33 : a_Snd 20 33 (o_ri) := s_ri (show decode cX3_tiedKnots 33 = .ok (.ireturn, 1) by decide +kernel) rfl
theorem ts_20 : a_All 20 tb_20 := And.intro s_20_0 (And.intro s_20_1 (And.intro s_20_2 (And.intro s_20_3 (And.intro s_20_4 (And.intro s_20_5 (And.intro s_20_7 (And.intro s_20_10 (And.intro s_20_11 (And.intro s_20_12 (And.intro s_20_13 (And.intro s_20_16 (And.intro s_20_19 (And.intro s_20_20 (And.intro s_20_23 (And.intro s_20_24 (And.intro s_20_25 (And.intro s_20_26 (And.intro s_20_29 (And.intro s_20_32 (And.intro s_20_33 (trivial)))))))))))))))))))))
/-! 21: NetLaw$Net.strengthRightOf(I)I -/
def tb_21 : List (Nat × a_OP) := [(0, o_ldi 1 1), (1, o_pi (nI 4) 2), (2, o_bd f_rem 3), (3, o_pi (nI 3) 4), (4, o_cge 18 7), (7, o_lda 0 8), (8, o_get 3 5 11), (11, o_ldi 1 12), (12, o_pi (nI 1) 13), (13, o_bi f_add 14), (14, o_ial 15), (15, o_go 19), (18, o_pi (nI 0) 19), (19, o_ri)]
theorem s_21_0 : a_Snd 21 0 (o_ldi 1 1) := s_ldin (show decode cX3_strengthRightOf 0 = .ok (.iload_n 1, 1) by decide +kernel) rfl rfl
theorem s_21_1 : a_Snd 21 1 (o_pi (nI 4) 2) := s_pic (show decode cX3_strengthRightOf 1 = .ok (.iconst 4, 1) by decide +kernel) (by decide) rfl
theorem s_21_2 : a_Snd 21 2 (o_bd f_rem 3) := s_irem (show decode cX3_strengthRightOf 2 = .ok (.irem, 1) by decide +kernel) rfl
theorem s_21_3 : a_Snd 21 3 (o_pi (nI 3) 4) := s_pic (show decode cX3_strengthRightOf 3 = .ok (.iconst 3, 1) by decide +kernel) (by decide) rfl
theorem s_21_4 : a_Snd 21 4 (o_cge 18 7) := s_cge (show decode cX3_strengthRightOf 4 = .ok (.if_icmp .ge 14, 3) by decide +kernel) (by decide) rfl
theorem s_21_7 : a_Snd 21 7 (o_lda 0 8) := s_ldan (show decode cX3_strengthRightOf 7 = .ok (.aload_n 0, 1) by decide +kernel) rfl rfl
theorem s_21_8 : a_Snd 21 8 (o_get 3 5 11) := s_get (T := TX3) (N := 8) rfl fin3 (by decide) wd_50 (show decode cX3_strengthRightOf 8 = .ok (.getfield 15, 3) by decide +kernel) rfl
theorem s_21_11 : a_Snd 21 11 (o_ldi 1 12) := s_ldin (show decode cX3_strengthRightOf 11 = .ok (.iload_n 1, 1) by decide +kernel) rfl rfl
theorem s_21_12 : a_Snd 21 12 (o_pi (nI 1) 13) := s_pic (show decode cX3_strengthRightOf 12 = .ok (.iconst 1, 1) by decide +kernel) (by decide) rfl
theorem s_21_13 : a_Snd 21 13 (o_bi f_add 14) := s_iadd (show decode cX3_strengthRightOf 13 = .ok (.iadd, 1) by decide +kernel) rfl
theorem s_21_14 : a_Snd 21 14 (o_ial 15) := s_ial (show decode cX3_strengthRightOf 14 = .ok (.iaload, 1) by decide +kernel) rfl
theorem s_21_15 : a_Snd 21 15 (o_go 19) := s_go (show decode cX3_strengthRightOf 15 = .ok (.goto 4, 3) by decide +kernel) (by decide)
theorem s_21_18 : a_Snd 21 18 (o_pi (nI 0) 19) := s_pic (show decode cX3_strengthRightOf 18 = .ok (.iconst 0, 1) by decide +kernel) (by decide) rfl
theorem s_21_19 : a_Snd 21 19 (o_ri) := s_ri (show decode cX3_strengthRightOf 19 = .ok (.ireturn, 1) by decide +kernel) rfl
theorem ts_21 : a_All 21 tb_21 := And.intro s_21_0 (And.intro s_21_1 (And.intro s_21_2 (And.intro s_21_3 (And.intro s_21_4 (And.intro s_21_7 (And.intro s_21_8 (And.intro s_21_11 (And.intro s_21_12 (And.intro s_21_13 (And.intro s_21_14 (And.intro s_21_15 (And.intro s_21_18 (And.intro s_21_19 (trivial))))))))))))))
/-! 22: NetLaw$Net.knotHolds(I)I -/
def tb_22 : List (Nat × a_OP) := [(0, o_lda 0 1), (1, o_get 3 4 4), (4, o_ldi 1 5), (5, o_ial 6), (6, o_lda 0 7), (7, o_get 3 5 10), (10, o_ldi 1 11), (11, o_ial 12), (12, o_lda 0 13), (13, o_get 3 0 16), (16, o_lda 0 17), (17, o_ldi 1 18), (18, o_ivv 3 21 1 21), (21, o_ivs 120 4 24), (24, o_ri)]
theorem s_22_0 : a_Snd 22 0 (o_lda 0 1) := s_ldan (show decode cX3_knotHolds 0 = .ok (.aload_n 0, 1) by decide +kernel) rfl rfl
theorem s_22_1 : a_Snd 22 1 (o_get 3 4 4) := s_get (T := TX3) (N := 8) rfl fin3 (by decide) wd_46 (show decode cX3_knotHolds 1 = .ok (.getfield 9, 3) by decide +kernel) rfl
theorem s_22_4 : a_Snd 22 4 (o_ldi 1 5) := s_ldin (show decode cX3_knotHolds 4 = .ok (.iload_n 1, 1) by decide +kernel) rfl rfl
theorem s_22_5 : a_Snd 22 5 (o_ial 6) := s_ial (show decode cX3_knotHolds 5 = .ok (.iaload, 1) by decide +kernel) rfl
theorem s_22_6 : a_Snd 22 6 (o_lda 0 7) := s_ldan (show decode cX3_knotHolds 6 = .ok (.aload_n 0, 1) by decide +kernel) rfl rfl
theorem s_22_7 : a_Snd 22 7 (o_get 3 5 10) := s_get (T := TX3) (N := 8) rfl fin3 (by decide) wd_50 (show decode cX3_knotHolds 7 = .ok (.getfield 15, 3) by decide +kernel) rfl
theorem s_22_10 : a_Snd 22 10 (o_ldi 1 11) := s_ldin (show decode cX3_knotHolds 10 = .ok (.iload_n 1, 1) by decide +kernel) rfl rfl
theorem s_22_11 : a_Snd 22 11 (o_ial 12) := s_ial (show decode cX3_knotHolds 11 = .ok (.iaload, 1) by decide +kernel) rfl
theorem s_22_12 : a_Snd 22 12 (o_lda 0 13) := s_ldan (show decode cX3_knotHolds 12 = .ok (.aload_n 0, 1) by decide +kernel) rfl rfl
theorem s_22_13 : a_Snd 22 13 (o_get 3 0 16) := s_get (T := TX3) (N := 8) rfl fin3 (by decide) wd_35 (show decode cX3_knotHolds 13 = .ok (.getfield 30, 3) by decide +kernel) rfl
theorem s_22_16 : a_Snd 22 16 (o_lda 0 17) := s_ldan (show decode cX3_knotHolds 16 = .ok (.aload_n 0, 1) by decide +kernel) rfl rfl
theorem s_22_17 : a_Snd 22 17 (o_ldi 1 18) := s_ldin (show decode cX3_knotHolds 17 = .ok (.iload_n 1, 1) by decide +kernel) rfl rfl
theorem s_22_18 : a_Snd 22 18 (o_ivv 3 21 1 21) := s_ivv (ci := 3) rfl mk_21 wd_515 wd_516 wd_514 (And.intro (by decide +kernel) (by decide +kernel)) (show decode cX3_knotHolds 18 = .ok (.invokevirtual 53, 3) by decide +kernel) rfl
theorem s_22_21 : a_Snd 22 21 (o_ivs 120 4 24) := s_ivsN (host := "NetLaw") mk_120 wd_519 (by decide +kernel) (And.intro (by decide +kernel) (by decide +kernel)) (show decode cX3_knotHolds 21 = .ok (.invokestatic 57, 3) by decide +kernel) rfl
theorem s_22_24 : a_Snd 22 24 (o_ri) := s_ri (show decode cX3_knotHolds 24 = .ok (.ireturn, 1) by decide +kernel) rfl
theorem ts_22 : a_All 22 tb_22 := And.intro s_22_0 (And.intro s_22_1 (And.intro s_22_4 (And.intro s_22_5 (And.intro s_22_6 (And.intro s_22_7 (And.intro s_22_10 (And.intro s_22_11 (And.intro s_22_12 (And.intro s_22_13 (And.intro s_22_16 (And.intro s_22_17 (And.intro s_22_18 (And.intro s_22_21 (And.intro s_22_24 (trivial)))))))))))))))
/-! 23: NetLaw$Net.knotRots(I)I -/
def tb_23 : List (Nat × a_OP) := [(0, o_lda 0 1), (1, o_ldi 1 2), (2, o_ivv 3 19 1 5), (5, o_eq 12 8), (8, o_pi (nI 0) 9), (9, o_go 25), (12, o_lda 0 13), (13, o_get 3 4 16), (16, o_ldi 1 17), (17, o_ial 18), (18, o_lda 0 19), (19, o_get 3 3 22), (22, o_ivs 121 2 25), (25, o_ri)]
theorem s_23_0 : a_Snd 23 0 (o_lda 0 1) := s_ldan (show decode cX3_knotRots 0 = .ok (.aload_n 0, 1) by decide +kernel) rfl rfl
theorem s_23_1 : a_Snd 23 1 (o_ldi 1 2) := s_ldin (show decode cX3_knotRots 1 = .ok (.iload_n 1, 1) by decide +kernel) rfl rfl
theorem s_23_2 : a_Snd 23 2 (o_ivv 3 19 1 5) := s_ivv (ci := 3) rfl mk_19 wd_291 wd_292 wd_290 (And.intro (by decide +kernel) (by decide +kernel)) (show decode cX3_knotRots 2 = .ok (.invokevirtual 49, 3) by decide +kernel) rfl
theorem s_23_5 : a_Snd 23 5 (o_eq 12 8) := s_ieq (show decode cX3_knotRots 5 = .ok (.ifCond .eq 7, 3) by decide +kernel) (by decide) rfl
theorem s_23_8 : a_Snd 23 8 (o_pi (nI 0) 9) := s_pic (show decode cX3_knotRots 8 = .ok (.iconst 0, 1) by decide +kernel) (by decide) rfl
theorem s_23_9 : a_Snd 23 9 (o_go 25) := s_go (show decode cX3_knotRots 9 = .ok (.goto 16, 3) by decide +kernel) (by decide)
theorem s_23_12 : a_Snd 23 12 (o_lda 0 13) := s_ldan (show decode cX3_knotRots 12 = .ok (.aload_n 0, 1) by decide +kernel) rfl rfl
theorem s_23_13 : a_Snd 23 13 (o_get 3 4 16) := s_get (T := TX3) (N := 8) rfl fin3 (by decide) wd_46 (show decode cX3_knotRots 13 = .ok (.getfield 9, 3) by decide +kernel) rfl
theorem s_23_16 : a_Snd 23 16 (o_ldi 1 17) := s_ldin (show decode cX3_knotRots 16 = .ok (.iload_n 1, 1) by decide +kernel) rfl rfl
theorem s_23_17 : a_Snd 23 17 (o_ial 18) := s_ial (show decode cX3_knotRots 17 = .ok (.iaload, 1) by decide +kernel) rfl
theorem s_23_18 : a_Snd 23 18 (o_lda 0 19) := s_ldan (show decode cX3_knotRots 18 = .ok (.aload_n 0, 1) by decide +kernel) rfl rfl
theorem s_23_19 : a_Snd 23 19 (o_get 3 3 22) := s_get (T := TX3) (N := 8) rfl fin3 (by decide) wd_43 (show decode cX3_knotRots 19 = .ok (.getfield 40, 3) by decide +kernel) rfl
theorem s_23_22 : a_Snd 23 22 (o_ivs 121 2 25) := s_ivsN (host := "NetLaw") mk_121 wd_372 (by decide +kernel) (And.intro (by decide +kernel) (by decide +kernel)) (show decode cX3_knotRots 22 = .ok (.invokestatic 61, 3) by decide +kernel) rfl
theorem s_23_25 : a_Snd 23 25 (o_ri) := s_ri (show decode cX3_knotRots 25 = .ok (.ireturn, 1) by decide +kernel) rfl
theorem ts_23 : a_All 23 tb_23 := And.intro s_23_0 (And.intro s_23_1 (And.intro s_23_2 (And.intro s_23_5 (And.intro s_23_8 (And.intro s_23_9 (And.intro s_23_12 (And.intro s_23_13 (And.intro s_23_16 (And.intro s_23_17 (And.intro s_23_18 (And.intro s_23_19 (And.intro s_23_22 (And.intro s_23_25 (trivial))))))))))))))
/-! 24: NetLaw$Net.clauseHolds(I)I -/
def tb_24 : List (Nat × a_OP) := [(0, o_pi (nI 0) 1), (1, o_sti 2 2), (2, o_pi (nI 0) 3), (3, o_sti 3 4), (4, o_ldi 3 5), (5, o_pi (nI 4) 6), (6, o_cge 27 9), (9, o_ldi 2 10), (10, o_lda 0 11), (11, o_ldi 1 12), (12, o_ldi 3 13), (13, o_ivs 103 2 16), (16, o_ivv 3 22 1 19), (19, o_bi f_add 20), (20, o_sti 2 21), (21, o_inc 3 (nI 1) 24), (24, o_go 4), (27, o_ldi 2 28), (28, o_ri)]
theorem s_24_0 : a_Snd 24 0 (o_pi (nI 0) 1) := s_pic (show decode cX3_clauseHolds 0 = .ok (.iconst 0, 1) by decide +kernel) (by decide) rfl
theorem s_24_1 : a_Snd 24 1 (o_sti 2 2) := s_stin (show decode cX3_clauseHolds 1 = .ok (.istore_n 2, 1) by decide +kernel) rfl rfl (by decide)
theorem s_24_2 : a_Snd 24 2 (o_pi (nI 0) 3) := s_pic (show decode cX3_clauseHolds 2 = .ok (.iconst 0, 1) by decide +kernel) (by decide) rfl
theorem s_24_3 : a_Snd 24 3 (o_sti 3 4) := s_stin (show decode cX3_clauseHolds 3 = .ok (.istore_n 3, 1) by decide +kernel) rfl rfl (by decide)
theorem s_24_4 : a_Snd 24 4 (o_ldi 3 5) := s_ldin (show decode cX3_clauseHolds 4 = .ok (.iload_n 3, 1) by decide +kernel) rfl rfl
theorem s_24_5 : a_Snd 24 5 (o_pi (nI 4) 6) := s_pic (show decode cX3_clauseHolds 5 = .ok (.iconst 4, 1) by decide +kernel) (by decide) rfl
theorem s_24_6 : a_Snd 24 6 (o_cge 27 9) := s_cge (show decode cX3_clauseHolds 6 = .ok (.if_icmp .ge 21, 3) by decide +kernel) (by decide) rfl
theorem s_24_9 : a_Snd 24 9 (o_ldi 2 10) := s_ldin (show decode cX3_clauseHolds 9 = .ok (.iload_n 2, 1) by decide +kernel) rfl rfl
theorem s_24_10 : a_Snd 24 10 (o_lda 0 11) := s_ldan (show decode cX3_clauseHolds 10 = .ok (.aload_n 0, 1) by decide +kernel) rfl rfl
theorem s_24_11 : a_Snd 24 11 (o_ldi 1 12) := s_ldin (show decode cX3_clauseHolds 11 = .ok (.iload_n 1, 1) by decide +kernel) rfl rfl
theorem s_24_12 : a_Snd 24 12 (o_ldi 3 13) := s_ldin (show decode cX3_clauseHolds 12 = .ok (.iload_n 3, 1) by decide +kernel) rfl rfl
theorem s_24_13 : a_Snd 24 13 (o_ivs 103 2 16) := s_ivsN (host := "NetLaw") mk_103 wd_531 (by decide +kernel) (And.intro (by decide +kernel) (by decide +kernel)) (show decode cX3_clauseHolds 13 = .ok (.invokestatic 65, 3) by decide +kernel) rfl
theorem s_24_16 : a_Snd 24 16 (o_ivv 3 22 1 19) := s_ivv (ci := 3) rfl mk_22 wd_511 wd_512 wd_533 (And.intro (by decide +kernel) (by decide +kernel)) (show decode cX3_clauseHolds 16 = .ok (.invokevirtual 68, 3) by decide +kernel) rfl
theorem s_24_19 : a_Snd 24 19 (o_bi f_add 20) := s_iadd (show decode cX3_clauseHolds 19 = .ok (.iadd, 1) by decide +kernel) rfl
theorem s_24_20 : a_Snd 24 20 (o_sti 2 21) := s_stin (show decode cX3_clauseHolds 20 = .ok (.istore_n 2, 1) by decide +kernel) rfl rfl (by decide)
theorem s_24_21 : a_Snd 24 21 (o_inc 3 (nI 1) 24) := s_inc (show decode cX3_clauseHolds 21 = .ok (.iinc 3 1, 3) by decide +kernel) (by decide) rfl (by decide)
theorem s_24_24 : a_Snd 24 24 (o_go 4) := s_go (show decode cX3_clauseHolds 24 = .ok (.goto (-20), 3) by decide +kernel) (by decide)
theorem s_24_27 : a_Snd 24 27 (o_ldi 2 28) := s_ldin (show decode cX3_clauseHolds 27 = .ok (.iload_n 2, 1) by decide +kernel) rfl rfl
theorem s_24_28 : a_Snd 24 28 (o_ri) := s_ri (show decode cX3_clauseHolds 28 = .ok (.ireturn, 1) by decide +kernel) rfl
theorem ts_24 : a_All 24 tb_24 := And.intro s_24_0 (And.intro s_24_1 (And.intro s_24_2 (And.intro s_24_3 (And.intro s_24_4 (And.intro s_24_5 (And.intro s_24_6 (And.intro s_24_9 (And.intro s_24_10 (And.intro s_24_11 (And.intro s_24_12 (And.intro s_24_13 (And.intro s_24_16 (And.intro s_24_19 (And.intro s_24_20 (And.intro s_24_21 (And.intro s_24_24 (And.intro s_24_27 (And.intro s_24_28 (trivial)))))))))))))))))))
/-! 25: NetLaw$Net.isLaw(I)Z -/
def tb_25 : List (Nat × a_OP) := [(0, o_lda 0 1), (1, o_ldi 1 2), (2, o_ivv 3 24 1 5), (5, o_lda 0 6), (6, o_get 3 7 9), (9, o_ldi 1 10), (10, o_ial 11), (11, o_clt 18 14), (14, o_pi (nI 1) 15), (15, o_go 19), (18, o_pi (nI 0) 19), (19, o_rz)]
theorem s_25_0 : a_Snd 25 0 (o_lda 0 1) := s_ldan (show decode cX3_isLaw 0 = .ok (.aload_n 0, 1) by decide +kernel) rfl rfl
theorem s_25_1 : a_Snd 25 1 (o_ldi 1 2) := s_ldin (show decode cX3_isLaw 1 = .ok (.iload_n 1, 1) by decide +kernel) rfl rfl
theorem s_25_2 : a_Snd 25 2 (o_ivv 3 24 1 5) := s_ivv (ci := 3) rfl mk_24 wd_527 wd_528 wd_538 (And.intro (by decide +kernel) (by decide +kernel)) (show decode cX3_isLaw 2 = .ok (.invokevirtual 71, 3) by decide +kernel) rfl
theorem s_25_5 : a_Snd 25 5 (o_lda 0 6) := s_ldan (show decode cX3_isLaw 5 = .ok (.aload_n 0, 1) by decide +kernel) rfl rfl
theorem s_25_6 : a_Snd 25 6 (o_get 3 7 9) := s_get (T := TX3) (N := 8) rfl fin3 (by decide) wd_57 (show decode cX3_isLaw 6 = .ok (.getfield 21, 3) by decide +kernel) rfl
theorem s_25_9 : a_Snd 25 9 (o_ldi 1 10) := s_ldin (show decode cX3_isLaw 9 = .ok (.iload_n 1, 1) by decide +kernel) rfl rfl
theorem s_25_10 : a_Snd 25 10 (o_ial 11) := s_ial (show decode cX3_isLaw 10 = .ok (.iaload, 1) by decide +kernel) rfl
theorem s_25_11 : a_Snd 25 11 (o_clt 18 14) := s_clt (show decode cX3_isLaw 11 = .ok (.if_icmp .lt 7, 3) by decide +kernel) (by decide) rfl
theorem s_25_14 : a_Snd 25 14 (o_pi (nI 1) 15) := s_pic (show decode cX3_isLaw 14 = .ok (.iconst 1, 1) by decide +kernel) (by decide) rfl
theorem s_25_15 : a_Snd 25 15 (o_go 19) := s_go (show decode cX3_isLaw 15 = .ok (.goto 4, 3) by decide +kernel) (by decide)
theorem s_25_18 : a_Snd 25 18 (o_pi (nI 0) 19) := s_pic (show decode cX3_isLaw 18 = .ok (.iconst 0, 1) by decide +kernel) (by decide) rfl
theorem s_25_19 : a_Snd 25 19 (o_rz) := s_rz (show decode cX3_isLaw 19 = .ok (.ireturn, 1) by decide +kernel) rfl
theorem ts_25 : a_All 25 tb_25 := And.intro s_25_0 (And.intro s_25_1 (And.intro s_25_2 (And.intro s_25_5 (And.intro s_25_6 (And.intro s_25_9 (And.intro s_25_10 (And.intro s_25_11 (And.intro s_25_14 (And.intro s_25_15 (And.intro s_25_18 (And.intro s_25_19 (trivial))))))))))))
/-! 26: NetLaw$Net.lawBits()I -/
def tb_26 : List (Nat × a_OP) := [(0, o_pi (nI 0) 1), (1, o_sti 1 2), (2, o_pi (nI 0) 3), (3, o_sti 2 4), (4, o_ldi 2 5), (5, o_pi (nI 9) 7), (7, o_cge 30 10), (10, o_lda 0 11), (11, o_ldi 2 12), (12, o_ivv 3 25 1 15), (15, o_eq 24 18), (18, o_ldi 1 19), (19, o_pi (nI 1) 20), (20, o_ldi 2 21), (21, o_bi f_shl 22), (22, o_bi f_or 23), (23, o_sti 1 24), (24, o_inc 2 (nI 1) 27), (27, o_go 4), (30, o_ldi 1 31), (31, o_ri)]
theorem s_26_0 : a_Snd 26 0 (o_pi (nI 0) 1) := s_pic (show decode cX3_lawBits 0 = .ok (.iconst 0, 1) by decide +kernel) (by decide) rfl
theorem s_26_1 : a_Snd 26 1 (o_sti 1 2) := s_stin (show decode cX3_lawBits 1 = .ok (.istore_n 1, 1) by decide +kernel) rfl rfl (by decide)
theorem s_26_2 : a_Snd 26 2 (o_pi (nI 0) 3) := s_pic (show decode cX3_lawBits 2 = .ok (.iconst 0, 1) by decide +kernel) (by decide) rfl
theorem s_26_3 : a_Snd 26 3 (o_sti 2 4) := s_stin (show decode cX3_lawBits 3 = .ok (.istore_n 2, 1) by decide +kernel) rfl rfl (by decide)
theorem s_26_4 : a_Snd 26 4 (o_ldi 2 5) := s_ldin (show decode cX3_lawBits 4 = .ok (.iload_n 2, 1) by decide +kernel) rfl rfl
theorem s_26_5 : a_Snd 26 5 (o_pi (nI 9) 7) := s_pib (show decode cX3_lawBits 5 = .ok (.bipush 9, 2) by decide +kernel) (by decide) rfl
theorem s_26_7 : a_Snd 26 7 (o_cge 30 10) := s_cge (show decode cX3_lawBits 7 = .ok (.if_icmp .ge 23, 3) by decide +kernel) (by decide) rfl
theorem s_26_10 : a_Snd 26 10 (o_lda 0 11) := s_ldan (show decode cX3_lawBits 10 = .ok (.aload_n 0, 1) by decide +kernel) rfl rfl
theorem s_26_11 : a_Snd 26 11 (o_ldi 2 12) := s_ldin (show decode cX3_lawBits 11 = .ok (.iload_n 2, 1) by decide +kernel) rfl rfl
theorem s_26_12 : a_Snd 26 12 (o_ivv 3 25 1 15) := s_ivv (ci := 3) rfl mk_25 wd_535 wd_536 wd_547 (And.intro (by decide +kernel) (by decide +kernel)) (show decode cX3_lawBits 12 = .ok (.invokevirtual 74, 3) by decide +kernel) rfl
theorem s_26_15 : a_Snd 26 15 (o_eq 24 18) := s_ieq (show decode cX3_lawBits 15 = .ok (.ifCond .eq 9, 3) by decide +kernel) (by decide) rfl
theorem s_26_18 : a_Snd 26 18 (o_ldi 1 19) := s_ldin (show decode cX3_lawBits 18 = .ok (.iload_n 1, 1) by decide +kernel) rfl rfl
theorem s_26_19 : a_Snd 26 19 (o_pi (nI 1) 20) := s_pic (show decode cX3_lawBits 19 = .ok (.iconst 1, 1) by decide +kernel) (by decide) rfl
theorem s_26_20 : a_Snd 26 20 (o_ldi 2 21) := s_ldin (show decode cX3_lawBits 20 = .ok (.iload_n 2, 1) by decide +kernel) rfl rfl
theorem s_26_21 : a_Snd 26 21 (o_bi f_shl 22) := s_ishl (show decode cX3_lawBits 21 = .ok (.ishl, 1) by decide +kernel) rfl
theorem s_26_22 : a_Snd 26 22 (o_bi f_or 23) := s_ior (show decode cX3_lawBits 22 = .ok (.ior, 1) by decide +kernel) rfl
theorem s_26_23 : a_Snd 26 23 (o_sti 1 24) := s_stin (show decode cX3_lawBits 23 = .ok (.istore_n 1, 1) by decide +kernel) rfl rfl (by decide)
theorem s_26_24 : a_Snd 26 24 (o_inc 2 (nI 1) 27) := s_inc (show decode cX3_lawBits 24 = .ok (.iinc 2 1, 3) by decide +kernel) (by decide) rfl (by decide)
theorem s_26_27 : a_Snd 26 27 (o_go 4) := s_go (show decode cX3_lawBits 27 = .ok (.goto (-23), 3) by decide +kernel) (by decide)
theorem s_26_30 : a_Snd 26 30 (o_ldi 1 31) := s_ldin (show decode cX3_lawBits 30 = .ok (.iload_n 1, 1) by decide +kernel) rfl rfl
theorem s_26_31 : a_Snd 26 31 (o_ri) := s_ri (show decode cX3_lawBits 31 = .ok (.ireturn, 1) by decide +kernel) rfl
theorem ts_26 : a_All 26 tb_26 := And.intro s_26_0 (And.intro s_26_1 (And.intro s_26_2 (And.intro s_26_3 (And.intro s_26_4 (And.intro s_26_5 (And.intro s_26_7 (And.intro s_26_10 (And.intro s_26_11 (And.intro s_26_12 (And.intro s_26_15 (And.intro s_26_18 (And.intro s_26_19 (And.intro s_26_20 (And.intro s_26_21 (And.intro s_26_22 (And.intro s_26_23 (And.intro s_26_24 (And.intro s_26_27 (And.intro s_26_30 (And.intro s_26_31 (trivial)))))))))))))))))))))
/-! 27: NetLaw$Net.passNight()I -/
def tb_27 : List (Nat × a_OP) := [(0, o_pi (nI 0) 1), (1, o_sti 1 2), (2, o_pi (nI 0) 3), (3, o_sti 2 4), (4, o_ldi 2 5), (5, o_pi (nI 16) 7), (7, o_cge 76 10), (10, o_lda 0 11), (11, o_get 3 2 14), (14, o_ldi 2 15), (15, o_bi f_shr 16), (16, o_pi (nI 1) 17), (17, o_bi f_and 18), (18, o_eq 70 21), (21, o_lda 0 22), (22, o_ldi 2 23), (23, o_ivv 3 19 1 26), (26, o_eq 32 29), (29, o_go 70), (32, o_lda 0 33), (33, o_get 3 5 36), (36, o_ldi 2 37), (37, o_pi (nI 0) 38), (38, o_lda 0 39), (39, o_get 3 5 42), (42, o_ldi 2 43), (43, o_ial 44), (44, o_lda 0 45), (45, o_ldi 2 46), (46, o_ivv 3 23 1 49), (49, o_bi f_sub 50), (50, o_ivs 207 2 53), (53, o_ias 54), (54, o_ldi 1 55), (55, o_lda 0 56), (56, o_ldi 2 57), (57, o_ivv 3 19 1 60), (60, o_eq 67 63), (63, o_pi (nI 1) 64), (64, o_go 68), (67, o_pi (nI 0) 68), (68, o_bi f_add 69), (69, o_sti 1 70), (70, o_inc 2 (nI 1) 73), (73, o_go 4), (76, o_lda 0 77), (77, o_dup 78), (78, o_get 3 3 81), (81, o_pi (nI 1) 82), (82, o_bi f_add 83), (83, o_put 3 3 86), (86, o_ldi 1 87), (87, o_ri)]
theorem s_27_0 : a_Snd 27 0 (o_pi (nI 0) 1) := s_pic (show decode cX3_passNight 0 = .ok (.iconst 0, 1) by decide +kernel) (by decide) rfl
theorem s_27_1 : a_Snd 27 1 (o_sti 1 2) := s_stin (show decode cX3_passNight 1 = .ok (.istore_n 1, 1) by decide +kernel) rfl rfl (by decide)
theorem s_27_2 : a_Snd 27 2 (o_pi (nI 0) 3) := s_pic (show decode cX3_passNight 2 = .ok (.iconst 0, 1) by decide +kernel) (by decide) rfl
theorem s_27_3 : a_Snd 27 3 (o_sti 2 4) := s_stin (show decode cX3_passNight 3 = .ok (.istore_n 2, 1) by decide +kernel) rfl rfl (by decide)
theorem s_27_4 : a_Snd 27 4 (o_ldi 2 5) := s_ldin (show decode cX3_passNight 4 = .ok (.iload_n 2, 1) by decide +kernel) rfl rfl
theorem s_27_5 : a_Snd 27 5 (o_pi (nI 16) 7) := s_pib (show decode cX3_passNight 5 = .ok (.bipush 16, 2) by decide +kernel) (by decide) rfl
theorem s_27_7 : a_Snd 27 7 (o_cge 76 10) := s_cge (show decode cX3_passNight 7 = .ok (.if_icmp .ge 69, 3) by decide +kernel) (by decide) rfl
theorem s_27_10 : a_Snd 27 10 (o_lda 0 11) := s_ldan (show decode cX3_passNight 10 = .ok (.aload_n 0, 1) by decide +kernel) rfl rfl
theorem s_27_11 : a_Snd 27 11 (o_get 3 2 14) := s_get (T := TX3) (N := 8) rfl fin3 (by decide) wd_41 (show decode cX3_passNight 11 = .ok (.getfield 37, 3) by decide +kernel) rfl
theorem s_27_14 : a_Snd 27 14 (o_ldi 2 15) := s_ldin (show decode cX3_passNight 14 = .ok (.iload_n 2, 1) by decide +kernel) rfl rfl
theorem s_27_15 : a_Snd 27 15 (o_bi f_shr 16) := s_ishr (show decode cX3_passNight 15 = .ok (.ishr, 1) by decide +kernel) rfl
theorem s_27_16 : a_Snd 27 16 (o_pi (nI 1) 17) := s_pic (show decode cX3_passNight 16 = .ok (.iconst 1, 1) by decide +kernel) (by decide) rfl
theorem s_27_17 : a_Snd 27 17 (o_bi f_and 18) := s_iand (show decode cX3_passNight 17 = .ok (.iand, 1) by decide +kernel) rfl
theorem s_27_18 : a_Snd 27 18 (o_eq 70 21) := s_ieq (show decode cX3_passNight 18 = .ok (.ifCond .eq 52, 3) by decide +kernel) (by decide) rfl
theorem s_27_21 : a_Snd 27 21 (o_lda 0 22) := s_ldan (show decode cX3_passNight 21 = .ok (.aload_n 0, 1) by decide +kernel) rfl rfl
theorem s_27_22 : a_Snd 27 22 (o_ldi 2 23) := s_ldin (show decode cX3_passNight 22 = .ok (.iload_n 2, 1) by decide +kernel) rfl rfl
theorem s_27_23 : a_Snd 27 23 (o_ivv 3 19 1 26) := s_ivv (ci := 3) rfl mk_19 wd_291 wd_292 wd_290 (And.intro (by decide +kernel) (by decide +kernel)) (show decode cX3_passNight 23 = .ok (.invokevirtual 49, 3) by decide +kernel) rfl
theorem s_27_26 : a_Snd 27 26 (o_eq 32 29) := s_ieq (show decode cX3_passNight 26 = .ok (.ifCond .eq 6, 3) by decide +kernel) (by decide) rfl
theorem s_27_29 : a_Snd 27 29 (o_go 70) := s_go (show decode cX3_passNight 29 = .ok (.goto 41, 3) by decide +kernel) (by decide)
theorem s_27_32 : a_Snd 27 32 (o_lda 0 33) := s_ldan (show decode cX3_passNight 32 = .ok (.aload_n 0, 1) by decide +kernel) rfl rfl
theorem s_27_33 : a_Snd 27 33 (o_get 3 5 36) := s_get (T := TX3) (N := 8) rfl fin3 (by decide) wd_50 (show decode cX3_passNight 33 = .ok (.getfield 15, 3) by decide +kernel) rfl
theorem s_27_36 : a_Snd 27 36 (o_ldi 2 37) := s_ldin (show decode cX3_passNight 36 = .ok (.iload_n 2, 1) by decide +kernel) rfl rfl
theorem s_27_37 : a_Snd 27 37 (o_pi (nI 0) 38) := s_pic (show decode cX3_passNight 37 = .ok (.iconst 0, 1) by decide +kernel) (by decide) rfl
theorem s_27_38 : a_Snd 27 38 (o_lda 0 39) := s_ldan (show decode cX3_passNight 38 = .ok (.aload_n 0, 1) by decide +kernel) rfl rfl
theorem s_27_39 : a_Snd 27 39 (o_get 3 5 42) := s_get (T := TX3) (N := 8) rfl fin3 (by decide) wd_50 (show decode cX3_passNight 39 = .ok (.getfield 15, 3) by decide +kernel) rfl
theorem s_27_42 : a_Snd 27 42 (o_ldi 2 43) := s_ldin (show decode cX3_passNight 42 = .ok (.iload_n 2, 1) by decide +kernel) rfl rfl
theorem s_27_43 : a_Snd 27 43 (o_ial 44) := s_ial (show decode cX3_passNight 43 = .ok (.iaload, 1) by decide +kernel) rfl
theorem s_27_44 : a_Snd 27 44 (o_lda 0 45) := s_ldan (show decode cX3_passNight 44 = .ok (.aload_n 0, 1) by decide +kernel) rfl rfl
theorem s_27_45 : a_Snd 27 45 (o_ldi 2 46) := s_ldin (show decode cX3_passNight 45 = .ok (.iload_n 2, 1) by decide +kernel) rfl rfl
theorem s_27_46 : a_Snd 27 46 (o_ivv 3 23 1 49) := s_ivv (ci := 3) rfl mk_23 wd_368 wd_369 wd_367 (And.intro (by decide +kernel) (by decide +kernel)) (show decode cX3_passNight 46 = .ok (.invokevirtual 77, 3) by decide +kernel) rfl
theorem s_27_49 : a_Snd 27 49 (o_bi f_sub 50) := s_isub (show decode cX3_passNight 49 = .ok (.isub, 1) by decide +kernel) rfl
theorem s_27_50 : a_Snd 27 50 (o_ivs 207 2 53) := s_ivs mk_207 wd_375 wd_374 (And.intro (by decide +kernel) (by decide +kernel)) (show decode cX3_passNight 50 = .ok (.invokestatic 80, 3) by decide +kernel) rfl
theorem s_27_53 : a_Snd 27 53 (o_ias 54) := s_ias (show decode cX3_passNight 53 = .ok (.iastore, 1) by decide +kernel) rfl
theorem s_27_54 : a_Snd 27 54 (o_ldi 1 55) := s_ldin (show decode cX3_passNight 54 = .ok (.iload_n 1, 1) by decide +kernel) rfl rfl
theorem s_27_55 : a_Snd 27 55 (o_lda 0 56) := s_ldan (show decode cX3_passNight 55 = .ok (.aload_n 0, 1) by decide +kernel) rfl rfl
theorem s_27_56 : a_Snd 27 56 (o_ldi 2 57) := s_ldin (show decode cX3_passNight 56 = .ok (.iload_n 2, 1) by decide +kernel) rfl rfl
theorem s_27_57 : a_Snd 27 57 (o_ivv 3 19 1 60) := s_ivv (ci := 3) rfl mk_19 wd_291 wd_292 wd_290 (And.intro (by decide +kernel) (by decide +kernel)) (show decode cX3_passNight 57 = .ok (.invokevirtual 49, 3) by decide +kernel) rfl
theorem s_27_60 : a_Snd 27 60 (o_eq 67 63) := s_ieq (show decode cX3_passNight 60 = .ok (.ifCond .eq 7, 3) by decide +kernel) (by decide) rfl
theorem s_27_63 : a_Snd 27 63 (o_pi (nI 1) 64) := s_pic (show decode cX3_passNight 63 = .ok (.iconst 1, 1) by decide +kernel) (by decide) rfl
theorem s_27_64 : a_Snd 27 64 (o_go 68) := s_go (show decode cX3_passNight 64 = .ok (.goto 4, 3) by decide +kernel) (by decide)
theorem s_27_67 : a_Snd 27 67 (o_pi (nI 0) 68) := s_pic (show decode cX3_passNight 67 = .ok (.iconst 0, 1) by decide +kernel) (by decide) rfl
theorem s_27_68 : a_Snd 27 68 (o_bi f_add 69) := s_iadd (show decode cX3_passNight 68 = .ok (.iadd, 1) by decide +kernel) rfl
theorem s_27_69 : a_Snd 27 69 (o_sti 1 70) := s_stin (show decode cX3_passNight 69 = .ok (.istore_n 1, 1) by decide +kernel) rfl rfl (by decide)
theorem s_27_70 : a_Snd 27 70 (o_inc 2 (nI 1) 73) := s_inc (show decode cX3_passNight 70 = .ok (.iinc 2 1, 3) by decide +kernel) (by decide) rfl (by decide)
theorem s_27_73 : a_Snd 27 73 (o_go 4) := s_go (show decode cX3_passNight 73 = .ok (.goto (-69), 3) by decide +kernel) (by decide)
theorem s_27_76 : a_Snd 27 76 (o_lda 0 77) := s_ldan (show decode cX3_passNight 76 = .ok (.aload_n 0, 1) by decide +kernel) rfl rfl
theorem s_27_77 : a_Snd 27 77 (o_dup 78) := s_dup (show decode cX3_passNight 77 = .ok (.dup, 1) by decide +kernel) rfl
theorem s_27_78 : a_Snd 27 78 (o_get 3 3 81) := s_get (T := TX3) (N := 8) rfl fin3 (by decide) wd_43 (show decode cX3_passNight 78 = .ok (.getfield 40, 3) by decide +kernel) rfl
theorem s_27_81 : a_Snd 27 81 (o_pi (nI 1) 82) := s_pic (show decode cX3_passNight 81 = .ok (.iconst 1, 1) by decide +kernel) (by decide) rfl
theorem s_27_82 : a_Snd 27 82 (o_bi f_add 83) := s_iadd (show decode cX3_passNight 82 = .ok (.iadd, 1) by decide +kernel) rfl
theorem s_27_83 : a_Snd 27 83 (o_put 3 3 86) := s_put (T := TX3) (N := 8) rfl fin3 tyX3_ok nmX3 (by decide) wd_43 rfl rfl (show decode cX3_passNight 83 = .ok (.putfield 40, 3) by decide +kernel) rfl
theorem s_27_86 : a_Snd 27 86 (o_ldi 1 87) := s_ldin (show decode cX3_passNight 86 = .ok (.iload_n 1, 1) by decide +kernel) rfl rfl
theorem s_27_87 : a_Snd 27 87 (o_ri) := s_ri (show decode cX3_passNight 87 = .ok (.ireturn, 1) by decide +kernel) rfl
theorem ts_27 : a_All 27 tb_27 := And.intro s_27_0 (And.intro s_27_1 (And.intro s_27_2 (And.intro s_27_3 (And.intro s_27_4 (And.intro s_27_5 (And.intro s_27_7 (And.intro s_27_10 (And.intro s_27_11 (And.intro s_27_14 (And.intro s_27_15 (And.intro s_27_16 (And.intro s_27_17 (And.intro s_27_18 (And.intro s_27_21 (And.intro s_27_22 (And.intro s_27_23 (And.intro s_27_26 (And.intro s_27_29 (And.intro s_27_32 (And.intro s_27_33 (And.intro s_27_36 (And.intro s_27_37 (And.intro s_27_38 (And.intro s_27_39 (And.intro s_27_42 (And.intro s_27_43 (And.intro s_27_44 (And.intro s_27_45 (And.intro s_27_46 (And.intro s_27_49 (And.intro s_27_50 (And.intro s_27_53 (And.intro s_27_54 (And.intro s_27_55 (And.intro s_27_56 (And.intro s_27_57 (And.intro s_27_60 (And.intro s_27_63 (And.intro s_27_64 (And.intro s_27_67 (And.intro s_27_68 (And.intro s_27_69 (And.intro s_27_70 (And.intro s_27_73 (And.intro s_27_76 (And.intro s_27_77 (And.intro s_27_78 (And.intro s_27_81 (And.intro s_27_82 (And.intro s_27_83 (And.intro s_27_86 (And.intro s_27_87 (trivial)))))))))))))))))))))))))))))))))))))))))))))))))))))
/-! 28: NetLaw$Net.digestOn(J)J -/
def tb_28 : List (Nat × a_OP) := [(0, o_ldl 1 1), (1, o_stl 3 2), (2, o_pi (nI 0) 3), (3, o_sti 5 5), (5, o_ldi 5 7), (7, o_pi (nI 16) 9), (9, o_cge 63 12), (12, o_pl (lN 31) 15), (15, o_ldl 3 16), (16, o_bl g_mul 17), (17, o_lda 0 18), (18, o_get 3 4 21), (21, o_ldi 5 23), (23, o_ial 24), (24, o_i2l 25), (25, o_bl g_add 26), (26, o_stl 3 27), (27, o_pl (lN 31) 30), (30, o_ldl 3 31), (31, o_bl g_mul 32), (32, o_lda 0 33), (33, o_get 3 5 36), (36, o_ldi 5 38), (38, o_ial 39), (39, o_i2l 40), (40, o_bl g_add 41), (41, o_stl 3 42), (42, o_pl (lN 31) 45), (45, o_ldl 3 46), (46, o_bl g_mul 47), (47, o_lda 0 48), (48, o_get 3 6 51), (51, o_ldi 5 53), (53, o_ial 54), (54, o_i2l 55), (55, o_bl g_add 56), (56, o_stl 3 57), (57, o_inc 5 (nI 1) 60), (60, o_go 5), (63, o_pi (nI 0) 64), (64, o_sti 5 66), (66, o_ldi 5 68), (68, o_pi (nI 9) 70), (70, o_cge 94 73), (73, o_pl (lN 31) 76), (76, o_ldl 3 77), (77, o_bl g_mul 78), (78, o_lda 0 79), (79, o_get 3 7 82), (82, o_ldi 5 84), (84, o_ial 85), (85, o_i2l 86), (86, o_bl g_add 87), (87, o_stl 3 88), (88, o_inc 5 (nI 1) 91), (91, o_go 66), (94, o_ldl 3 95), (95, o_rl)]
theorem s_28_0 : a_Snd 28 0 (o_ldl 1 1) := s_ldln (show decode cX3_digestOn 0 = .ok (.lload_n 1, 1) by decide +kernel) rfl rfl
theorem s_28_1 : a_Snd 28 1 (o_stl 3 2) := s_stln (show decode cX3_digestOn 1 = .ok (.lstore_n 3, 1) by decide +kernel) rfl rfl (by decide)
theorem s_28_2 : a_Snd 28 2 (o_pi (nI 0) 3) := s_pic (show decode cX3_digestOn 2 = .ok (.iconst 0, 1) by decide +kernel) (by decide) rfl
theorem s_28_3 : a_Snd 28 3 (o_sti 5 5) := s_sti (show decode cX3_digestOn 3 = .ok (.istore 5, 2) by decide +kernel) rfl (by decide)
theorem s_28_5 : a_Snd 28 5 (o_ldi 5 7) := s_ldi (show decode cX3_digestOn 5 = .ok (.iload 5, 2) by decide +kernel) rfl
theorem s_28_7 : a_Snd 28 7 (o_pi (nI 16) 9) := s_pib (show decode cX3_digestOn 7 = .ok (.bipush 16, 2) by decide +kernel) (by decide) rfl
theorem s_28_9 : a_Snd 28 9 (o_cge 63 12) := s_cge (show decode cX3_digestOn 9 = .ok (.if_icmp .ge 54, 3) by decide +kernel) (by decide) rfl
theorem s_28_12 : a_Snd 28 12 (o_pl (lN 31) 15) := s_pld (show decode cX3_digestOn 12 = .ok (.ldc2_w 85, 3) by decide +kernel) wd_830 rfl
theorem s_28_15 : a_Snd 28 15 (o_ldl 3 16) := s_ldln (show decode cX3_digestOn 15 = .ok (.lload_n 3, 1) by decide +kernel) rfl rfl
theorem s_28_16 : a_Snd 28 16 (o_bl g_mul 17) := s_lmul (show decode cX3_digestOn 16 = .ok (.lmul, 1) by decide +kernel) rfl
theorem s_28_17 : a_Snd 28 17 (o_lda 0 18) := s_ldan (show decode cX3_digestOn 17 = .ok (.aload_n 0, 1) by decide +kernel) rfl rfl
theorem s_28_18 : a_Snd 28 18 (o_get 3 4 21) := s_get (T := TX3) (N := 8) rfl fin3 (by decide) wd_46 (show decode cX3_digestOn 18 = .ok (.getfield 9, 3) by decide +kernel) rfl
theorem s_28_21 : a_Snd 28 21 (o_ldi 5 23) := s_ldi (show decode cX3_digestOn 21 = .ok (.iload 5, 2) by decide +kernel) rfl
theorem s_28_23 : a_Snd 28 23 (o_ial 24) := s_ial (show decode cX3_digestOn 23 = .ok (.iaload, 1) by decide +kernel) rfl
theorem s_28_24 : a_Snd 28 24 (o_i2l 25) := s_i2l (show decode cX3_digestOn 24 = .ok (.i2l, 1) by decide +kernel) rfl
theorem s_28_25 : a_Snd 28 25 (o_bl g_add 26) := s_ladd (show decode cX3_digestOn 25 = .ok (.ladd, 1) by decide +kernel) rfl
theorem s_28_26 : a_Snd 28 26 (o_stl 3 27) := s_stln (show decode cX3_digestOn 26 = .ok (.lstore_n 3, 1) by decide +kernel) rfl rfl (by decide)
theorem s_28_27 : a_Snd 28 27 (o_pl (lN 31) 30) := s_pld (show decode cX3_digestOn 27 = .ok (.ldc2_w 85, 3) by decide +kernel) wd_830 rfl
theorem s_28_30 : a_Snd 28 30 (o_ldl 3 31) := s_ldln (show decode cX3_digestOn 30 = .ok (.lload_n 3, 1) by decide +kernel) rfl rfl
theorem s_28_31 : a_Snd 28 31 (o_bl g_mul 32) := s_lmul (show decode cX3_digestOn 31 = .ok (.lmul, 1) by decide +kernel) rfl
theorem s_28_32 : a_Snd 28 32 (o_lda 0 33) := s_ldan (show decode cX3_digestOn 32 = .ok (.aload_n 0, 1) by decide +kernel) rfl rfl
theorem s_28_33 : a_Snd 28 33 (o_get 3 5 36) := s_get (T := TX3) (N := 8) rfl fin3 (by decide) wd_50 (show decode cX3_digestOn 33 = .ok (.getfield 15, 3) by decide +kernel) rfl
theorem s_28_36 : a_Snd 28 36 (o_ldi 5 38) := s_ldi (show decode cX3_digestOn 36 = .ok (.iload 5, 2) by decide +kernel) rfl
theorem s_28_38 : a_Snd 28 38 (o_ial 39) := s_ial (show decode cX3_digestOn 38 = .ok (.iaload, 1) by decide +kernel) rfl
theorem s_28_39 : a_Snd 28 39 (o_i2l 40) := s_i2l (show decode cX3_digestOn 39 = .ok (.i2l, 1) by decide +kernel) rfl
theorem s_28_40 : a_Snd 28 40 (o_bl g_add 41) := s_ladd (show decode cX3_digestOn 40 = .ok (.ladd, 1) by decide +kernel) rfl
theorem s_28_41 : a_Snd 28 41 (o_stl 3 42) := s_stln (show decode cX3_digestOn 41 = .ok (.lstore_n 3, 1) by decide +kernel) rfl rfl (by decide)
theorem s_28_42 : a_Snd 28 42 (o_pl (lN 31) 45) := s_pld (show decode cX3_digestOn 42 = .ok (.ldc2_w 85, 3) by decide +kernel) wd_830 rfl
theorem s_28_45 : a_Snd 28 45 (o_ldl 3 46) := s_ldln (show decode cX3_digestOn 45 = .ok (.lload_n 3, 1) by decide +kernel) rfl rfl
theorem s_28_46 : a_Snd 28 46 (o_bl g_mul 47) := s_lmul (show decode cX3_digestOn 46 = .ok (.lmul, 1) by decide +kernel) rfl
theorem s_28_47 : a_Snd 28 47 (o_lda 0 48) := s_ldan (show decode cX3_digestOn 47 = .ok (.aload_n 0, 1) by decide +kernel) rfl rfl
theorem s_28_48 : a_Snd 28 48 (o_get 3 6 51) := s_get (T := TX3) (N := 8) rfl fin3 (by decide) wd_54 (show decode cX3_digestOn 48 = .ok (.getfield 18, 3) by decide +kernel) rfl
theorem s_28_51 : a_Snd 28 51 (o_ldi 5 53) := s_ldi (show decode cX3_digestOn 51 = .ok (.iload 5, 2) by decide +kernel) rfl
theorem s_28_53 : a_Snd 28 53 (o_ial 54) := s_ial (show decode cX3_digestOn 53 = .ok (.iaload, 1) by decide +kernel) rfl
theorem s_28_54 : a_Snd 28 54 (o_i2l 55) := s_i2l (show decode cX3_digestOn 54 = .ok (.i2l, 1) by decide +kernel) rfl
theorem s_28_55 : a_Snd 28 55 (o_bl g_add 56) := s_ladd (show decode cX3_digestOn 55 = .ok (.ladd, 1) by decide +kernel) rfl
theorem s_28_56 : a_Snd 28 56 (o_stl 3 57) := s_stln (show decode cX3_digestOn 56 = .ok (.lstore_n 3, 1) by decide +kernel) rfl rfl (by decide)
theorem s_28_57 : a_Snd 28 57 (o_inc 5 (nI 1) 60) := s_inc (show decode cX3_digestOn 57 = .ok (.iinc 5 1, 3) by decide +kernel) (by decide) rfl (by decide)
theorem s_28_60 : a_Snd 28 60 (o_go 5) := s_go (show decode cX3_digestOn 60 = .ok (.goto (-55), 3) by decide +kernel) (by decide)
theorem s_28_63 : a_Snd 28 63 (o_pi (nI 0) 64) := s_pic (show decode cX3_digestOn 63 = .ok (.iconst 0, 1) by decide +kernel) (by decide) rfl
theorem s_28_64 : a_Snd 28 64 (o_sti 5 66) := s_sti (show decode cX3_digestOn 64 = .ok (.istore 5, 2) by decide +kernel) rfl (by decide)
theorem s_28_66 : a_Snd 28 66 (o_ldi 5 68) := s_ldi (show decode cX3_digestOn 66 = .ok (.iload 5, 2) by decide +kernel) rfl
theorem s_28_68 : a_Snd 28 68 (o_pi (nI 9) 70) := s_pib (show decode cX3_digestOn 68 = .ok (.bipush 9, 2) by decide +kernel) (by decide) rfl
theorem s_28_70 : a_Snd 28 70 (o_cge 94 73) := s_cge (show decode cX3_digestOn 70 = .ok (.if_icmp .ge 24, 3) by decide +kernel) (by decide) rfl
theorem s_28_73 : a_Snd 28 73 (o_pl (lN 31) 76) := s_pld (show decode cX3_digestOn 73 = .ok (.ldc2_w 85, 3) by decide +kernel) wd_830 rfl
theorem s_28_76 : a_Snd 28 76 (o_ldl 3 77) := s_ldln (show decode cX3_digestOn 76 = .ok (.lload_n 3, 1) by decide +kernel) rfl rfl
theorem s_28_77 : a_Snd 28 77 (o_bl g_mul 78) := s_lmul (show decode cX3_digestOn 77 = .ok (.lmul, 1) by decide +kernel) rfl
theorem s_28_78 : a_Snd 28 78 (o_lda 0 79) := s_ldan (show decode cX3_digestOn 78 = .ok (.aload_n 0, 1) by decide +kernel) rfl rfl
theorem s_28_79 : a_Snd 28 79 (o_get 3 7 82) := s_get (T := TX3) (N := 8) rfl fin3 (by decide) wd_57 (show decode cX3_digestOn 79 = .ok (.getfield 21, 3) by decide +kernel) rfl
theorem s_28_82 : a_Snd 28 82 (o_ldi 5 84) := s_ldi (show decode cX3_digestOn 82 = .ok (.iload 5, 2) by decide +kernel) rfl
theorem s_28_84 : a_Snd 28 84 (o_ial 85) := s_ial (show decode cX3_digestOn 84 = .ok (.iaload, 1) by decide +kernel) rfl
theorem s_28_85 : a_Snd 28 85 (o_i2l 86) := s_i2l (show decode cX3_digestOn 85 = .ok (.i2l, 1) by decide +kernel) rfl
theorem s_28_86 : a_Snd 28 86 (o_bl g_add 87) := s_ladd (show decode cX3_digestOn 86 = .ok (.ladd, 1) by decide +kernel) rfl
theorem s_28_87 : a_Snd 28 87 (o_stl 3 88) := s_stln (show decode cX3_digestOn 87 = .ok (.lstore_n 3, 1) by decide +kernel) rfl rfl (by decide)
theorem s_28_88 : a_Snd 28 88 (o_inc 5 (nI 1) 91) := s_inc (show decode cX3_digestOn 88 = .ok (.iinc 5 1, 3) by decide +kernel) (by decide) rfl (by decide)
theorem s_28_91 : a_Snd 28 91 (o_go 66) := s_go (show decode cX3_digestOn 91 = .ok (.goto (-25), 3) by decide +kernel) (by decide)
theorem s_28_94 : a_Snd 28 94 (o_ldl 3 95) := s_ldln (show decode cX3_digestOn 94 = .ok (.lload_n 3, 1) by decide +kernel) rfl rfl
theorem s_28_95 : a_Snd 28 95 (o_rl) := s_rl (show decode cX3_digestOn 95 = .ok (.lreturn, 1) by decide +kernel) rfl
theorem ts_28 : a_All 28 tb_28 := And.intro s_28_0 (And.intro s_28_1 (And.intro s_28_2 (And.intro s_28_3 (And.intro s_28_5 (And.intro s_28_7 (And.intro s_28_9 (And.intro s_28_12 (And.intro s_28_15 (And.intro s_28_16 (And.intro s_28_17 (And.intro s_28_18 (And.intro s_28_21 (And.intro s_28_23 (And.intro s_28_24 (And.intro s_28_25 (And.intro s_28_26 (And.intro s_28_27 (And.intro s_28_30 (And.intro s_28_31 (And.intro s_28_32 (And.intro s_28_33 (And.intro s_28_36 (And.intro s_28_38 (And.intro s_28_39 (And.intro s_28_40 (And.intro s_28_41 (And.intro s_28_42 (And.intro s_28_45 (And.intro s_28_46 (And.intro s_28_47 (And.intro s_28_48 (And.intro s_28_51 (And.intro s_28_53 (And.intro s_28_54 (And.intro s_28_55 (And.intro s_28_56 (And.intro s_28_57 (And.intro s_28_60 (And.intro s_28_63 (And.intro s_28_64 (And.intro s_28_66 (And.intro s_28_68 (And.intro s_28_70 (And.intro s_28_73 (And.intro s_28_76 (And.intro s_28_77 (And.intro s_28_78 (And.intro s_28_79 (And.intro s_28_82 (And.intro s_28_84 (And.intro s_28_85 (And.intro s_28_86 (And.intro s_28_87 (And.intro s_28_88 (And.intro s_28_91 (And.intro s_28_94 (And.intro s_28_95 (trivial))))))))))))))))))))))))))))))))))))))))))))))))))))))))))
